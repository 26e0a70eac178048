section
theorem qf_X11_32 : Cond.fieldLink RX11 32 "SlowWorlds" "reader" "LSlowWorlds$Reader;" ∈ gw := tbt (tb2 (List.mem_of_getElem? (i := 200) rfl)) rfl
theorem qf_X11_149 : Cond.fieldLink RX11 149 "SlowWorlds$Reader" "taped" "I" ∈ gw := tbt (tb2 (List.mem_of_getElem? (i := 5) rfl)) rfl
theorem qc_X4_putOnTape : Cond.code yX4_putOnTape cX4_putOnTape 3 none ∈ gw := tbt (tb3 (List.mem_of_getElem? (i := 84) rfl)) rfl
theorem qi_yX4_putOnTape : Cond.instanceMethod yX4_putOnTape ∈ gw := tbt (tb3 (List.mem_of_getElem? (i := 82) rfl)) rfl
theorem qs_X4_putOnTape : Cond.selects (yX4_putOnTape).cls yX4_putOnTape yX4_putOnTape ∈ gw := tbt (tb3 (List.mem_of_getElem? (i := 83) rfl)) rfl
theorem ci_X4_putOnTape : CIv yX4_putOnTape cX4_putOnTape 3 none 1 := ⟨qc_X4_putOnTape, qi_yX4_putOnTape, qs_X4_putOnTape, qz_X4, by decide +kernel⟩
theorem qm_X11_152 : Cond.methodLink RX11 152 yX4_putOnTape ∈ gw := tbt (tb3 (List.mem_of_getElem? (i := 81) rfl)) rfl
theorem qf_X11_196 : Cond.fieldLink RX11 196 "SlowWorlds$Reader" "faultPlace" "I" ∈ gw := tbt (tb2 (List.mem_of_getElem? (i := 19) rfl)) rfl
theorem qf_X11_193 : Cond.fieldLink RX11 193 "SlowWorlds$Reader" "faultKind" "I" ∈ gw := tbt (tb2 (List.mem_of_getElem? (i := 17) rfl)) rfl
theorem qf_X11_83 : Cond.fieldLink RX11 83 "SlowWorlds" "livedLatest" "[I" ∈ gw := tbt (tb2 (List.mem_of_getElem? (i := 206) rfl)) rfl
theorem qf_X11_369 : Cond.fieldLink RX11 369 "SlowWorlds" "everLived" "Z" ∈ gw := tbt (tb2 (List.mem_of_getElem? (i := 207) rfl)) rfl
theorem qc_X4_open : Cond.code yX4_open cX4_open 2 none ∈ gw := tbt (tb3 (List.mem_of_getElem? (i := 92) rfl)) rfl
theorem qi_yX4_open : Cond.instanceMethod yX4_open ∈ gw := tbt (tb3 (List.mem_of_getElem? (i := 90) rfl)) rfl
theorem qs_X4_open : Cond.selects (yX4_open).cls yX4_open yX4_open ∈ gw := tbt (tb3 (List.mem_of_getElem? (i := 91) rfl)) rfl
theorem ci_X4_open : CIv yX4_open cX4_open 2 none 1 := ⟨qc_X4_open, qi_yX4_open, qs_X4_open, qz_X4, by decide +kernel⟩
theorem qm_X11_156 : Cond.methodLink RX11 156 yX4_open ∈ gw := tbt (tb3 (List.mem_of_getElem? (i := 89) rfl)) rfl
theorem qf_X11_41 : Cond.fieldLink RX11 41 "SlowWorlds" "skyReader" "LSlowWorlds$SkyReader;" ∈ gw := tbt (tb2 (List.mem_of_getElem? (i := 201) rfl)) rfl
theorem qf_X11_22 : Cond.fieldLink RX11 22 "SlowWorlds" "spare" "LSlowWorlds$World;" ∈ gw := tbt (tb2 (List.mem_of_getElem? (i := 198) rfl)) rfl
theorem qc_X6_readInto : Cond.code yX6_readInto cX6_readInto 4 (some .boolean) ∈ gw := tbt (tb3 (List.mem_of_getElem? (i := 113) rfl)) rfl
theorem qi_yX6_readInto : Cond.instanceMethod yX6_readInto ∈ gw := tbt (tb3 (List.mem_of_getElem? (i := 111) rfl)) rfl
theorem qs_X6_readInto : Cond.selects (yX6_readInto).cls yX6_readInto yX6_readInto ∈ gw := tbt (tb3 (List.mem_of_getElem? (i := 112) rfl)) rfl
theorem ci_X6_readInto : CIv yX6_readInto cX6_readInto 4 (some .boolean) 1 := ⟨qc_X6_readInto, qi_yX6_readInto, qs_X6_readInto, qz_X6, by decide +kernel⟩
theorem qm_X11_159 : Cond.methodLink RX11 159 yX6_readInto ∈ gw := tbt (tb3 (List.mem_of_getElem? (i := 110) rfl)) rfl
theorem qc_X8_begin : Cond.code yX8_begin cX8_begin 2 none ∈ gw := tbt (tb3 (List.mem_of_getElem? (i := 183) rfl)) rfl
theorem qi_yX8_begin : Cond.instanceMethod yX8_begin ∈ gw := tbt (tb3 (List.mem_of_getElem? (i := 181) rfl)) rfl
theorem qs_X8_begin : Cond.selects (yX8_begin).cls yX8_begin yX8_begin ∈ gw := tbt (tb3 (List.mem_of_getElem? (i := 182) rfl)) rfl
theorem ci_X8_begin : CIv yX8_begin cX8_begin 2 none 1 := ⟨qc_X8_begin, qi_yX8_begin, qs_X8_begin, qz_X8, by decide +kernel⟩
theorem qm_X11_163 : Cond.methodLink RX11 163 yX8_begin ∈ gw := tbt (tb3 (List.mem_of_getElem? (i := 180) rfl)) rfl
theorem qc_X3_forget : Cond.code yX3_forget cX3_forget 1 none ∈ gw := tbt (tb3 (List.mem_of_getElem? (i := 200) rfl)) rfl
theorem qi_yX3_forget : Cond.instanceMethod yX3_forget ∈ gw := tbt (tb3 (List.mem_of_getElem? (i := 198) rfl)) rfl
theorem qs_X3_forget : Cond.selects (yX3_forget).cls yX3_forget yX3_forget ∈ gw := tbt (tb3 (List.mem_of_getElem? (i := 199) rfl)) rfl
theorem ci_X3_forget : CIv yX3_forget cX3_forget 1 none 0 := ⟨qc_X3_forget, qi_yX3_forget, qs_X3_forget, qz_X3, by decide +kernel⟩
theorem qm_X11_166 : Cond.methodLink RX11 166 yX3_forget ∈ gw := tbt (tb3 (List.mem_of_getElem? (i := 197) rfl)) rfl
theorem qf_X11_48 : Cond.fieldLink RX11 48 "SlowWorlds" "yearsReader" "LSlowWorlds$YearsReader;" ∈ gw := tbt (tb2 (List.mem_of_getElem? (i := 202) rfl)) rfl
theorem qf_X11_177 : Cond.fieldLink RX11 177 "SlowWorlds$World" "years" "LSlowWorlds$Years;" ∈ gw := tbt (tb1 (List.mem_of_getElem? (i := 176) rfl)) rfl
theorem qc_X10_readInto : Cond.code yX10_readInto cX10_readInto 5 (some .boolean) ∈ gw := tbt (tb3 (List.mem_of_getElem? (i := 212) rfl)) rfl
theorem qi_yX10_readInto : Cond.instanceMethod yX10_readInto ∈ gw := tbt (tb3 (List.mem_of_getElem? (i := 210) rfl)) rfl
theorem qs_X10_readInto : Cond.selects (yX10_readInto).cls yX10_readInto yX10_readInto ∈ gw := tbt (tb3 (List.mem_of_getElem? (i := 211) rfl)) rfl
theorem ci_X10_readInto : CIv yX10_readInto cX10_readInto 5 (some .boolean) 2 := ⟨qc_X10_readInto, qi_yX10_readInto, qs_X10_readInto, qz_X10, by decide +kernel⟩
theorem qm_X11_181 : Cond.methodLink RX11 181 yX10_readInto ∈ gw := tbt (tb3 (List.mem_of_getElem? (i := 209) rfl)) rfl
theorem qm_X11_184 : Cond.methodLink RX11 184 yX9_copyFrom ∈ gw := tbt (tb4 (List.mem_of_getElem? (i := 8) rfl)) rfl
theorem qf_X11_190 : Cond.fieldLink RX11 190 "SlowWorlds$Years" "steps" "I" ∈ gw := tbt (tb1 (List.mem_of_getElem? (i := 148) rfl)) rfl
def fb_X11_fault_0 : List UInt8 := [0x1b, 0x9a, 0x00, 0x0b, 0x2a, 0xb4, 0x00, 0x20, 0xb4, 0x00, 0xc1, 0xac, 0x1b, 0x04, 0xa0, 0x00, 0x0d, 0x2a, 0xb4, 0x00, 0x20, 0xb4, 0x00, 0xc4, 0xa7, 0x00, 0x04, 0x02, 0xac]
theorem fl_X11_fault_0 {p j : Nat} {b : UInt8} (e : p = 0 + j) (h : fb_X11_fault_0[j]? = some b) : cX11_fault.data.toList[p]? = some b := fq_l (n := 64) (show (cX11_fault.data.toList.drop 0).take 64 = fb_X11_fault_0 by decide +kernel) e h
theorem dX11_fault_0 : decode cX11_fault 0 = .ok (.iload_n 1, 1) := fq1_27 (fl_X11_fault_0 (j := 0) rfl rfl)
theorem dX11_fault_1 : decode cX11_fault 1 = .ok (.ifCond .ne 11, 3) := fq3_154 (fl_X11_fault_0 (j := 1) rfl rfl) (fl_X11_fault_0 (j := 2) rfl rfl) (fl_X11_fault_0 (j := 3) rfl rfl) (s2p rfl (bl rfl))
theorem dX11_fault_4 : decode cX11_fault 4 = .ok (.aload_n 0, 1) := fq1_42 (fl_X11_fault_0 (j := 4) rfl rfl)
theorem dX11_fault_5 : decode cX11_fault 5 = .ok (.getfield 32, 3) := fq3_180 (fl_X11_fault_0 (j := 5) rfl rfl) (fl_X11_fault_0 (j := 6) rfl rfl) (fl_X11_fault_0 (j := 7) rfl rfl) rfl
theorem dX11_fault_8 : decode cX11_fault 8 = .ok (.getfield 193, 3) := fq3_180 (fl_X11_fault_0 (j := 8) rfl rfl) (fl_X11_fault_0 (j := 9) rfl rfl) (fl_X11_fault_0 (j := 10) rfl rfl) rfl
theorem dX11_fault_11 : decode cX11_fault 11 = .ok (.ireturn, 1) := fq1_172 (fl_X11_fault_0 (j := 11) rfl rfl)
theorem dX11_fault_12 : decode cX11_fault 12 = .ok (.iload_n 1, 1) := fq1_27 (fl_X11_fault_0 (j := 12) rfl rfl)
theorem dX11_fault_13 : decode cX11_fault 13 = .ok (.iconst 1, 1) := fq1_4 (fl_X11_fault_0 (j := 13) rfl rfl)
theorem dX11_fault_14 : decode cX11_fault 14 = .ok (.if_icmp .ne 13, 3) := fq3_160 (fl_X11_fault_0 (j := 14) rfl rfl) (fl_X11_fault_0 (j := 15) rfl rfl) (fl_X11_fault_0 (j := 16) rfl rfl) (s2p rfl (bl rfl))
theorem dX11_fault_17 : decode cX11_fault 17 = .ok (.aload_n 0, 1) := fq1_42 (fl_X11_fault_0 (j := 17) rfl rfl)
theorem dX11_fault_18 : decode cX11_fault 18 = .ok (.getfield 32, 3) := fq3_180 (fl_X11_fault_0 (j := 18) rfl rfl) (fl_X11_fault_0 (j := 19) rfl rfl) (fl_X11_fault_0 (j := 20) rfl rfl) rfl
theorem dX11_fault_21 : decode cX11_fault 21 = .ok (.getfield 196, 3) := fq3_180 (fl_X11_fault_0 (j := 21) rfl rfl) (fl_X11_fault_0 (j := 22) rfl rfl) (fl_X11_fault_0 (j := 23) rfl rfl) rfl
theorem dX11_fault_24 : decode cX11_fault 24 = .ok (.goto 4, 3) := fq3_167 (fl_X11_fault_0 (j := 24) rfl rfl) (fl_X11_fault_0 (j := 25) rfl rfl) (fl_X11_fault_0 (j := 26) rfl rfl) (s2p rfl (bl rfl))
theorem dX11_fault_27 : decode cX11_fault 27 = .ok (.iconst (-1), 1) := fq1_2 (fl_X11_fault_0 (j := 27) rfl rfl)
theorem dX11_fault_28 : decode cX11_fault 28 = .ok (.ireturn, 1) := fq1_172 (fl_X11_fault_0 (j := 28) rfl rfl)
def fb_X11_feed_0 : List UInt8 := [0x2a, 0xb4, 0x00, 0x20, 0xb4, 0x00, 0x95, 0x11, 0x03, 0x70, 0xa4, 0x00, 0x05, 0x02, 0xac, 0x2a, 0xb4, 0x00, 0x20, 0x1b, 0xb6, 0x00, 0x98, 0x2a, 0xb4, 0x00, 0x20, 0x1c, 0xb6, 0x00, 0x98, 0x2a, 0xb4, 0x00, 0x20, 0x1d, 0xb6, 0x00, 0x98, 0x2a, 0xb4, 0x00, 0x20, 0x15, 0x04, 0xb6, 0x00, 0x98, 0x2a, 0xb4, 0x00, 0x20, 0x15, 0x05, 0xb6, 0x00, 0x98, 0x2a, 0xb4, 0x00, 0x20, 0xb4, 0x00, 0x95]
theorem fl_X11_feed_0 {p j : Nat} {b : UInt8} (e : p = 0 + j) (h : fb_X11_feed_0[j]? = some b) : cX11_feed.data.toList[p]? = some b := fq_l (n := 64) (show (cX11_feed.data.toList.drop 0).take 64 = fb_X11_feed_0 by decide +kernel) e h
theorem dX11_feed_0 : decode cX11_feed 0 = .ok (.aload_n 0, 1) := fq1_42 (fl_X11_feed_0 (j := 0) rfl rfl)
theorem dX11_feed_1 : decode cX11_feed 1 = .ok (.getfield 32, 3) := fq3_180 (fl_X11_feed_0 (j := 1) rfl rfl) (fl_X11_feed_0 (j := 2) rfl rfl) (fl_X11_feed_0 (j := 3) rfl rfl) rfl
theorem dX11_feed_4 : decode cX11_feed 4 = .ok (.getfield 149, 3) := fq3_180 (fl_X11_feed_0 (j := 4) rfl rfl) (fl_X11_feed_0 (j := 5) rfl rfl) (fl_X11_feed_0 (j := 6) rfl rfl) rfl
theorem dX11_feed_7 : decode cX11_feed 7 = .ok (.sipush 880, 3) := fq3_17 (fl_X11_feed_0 (j := 7) rfl rfl) (fl_X11_feed_0 (j := 8) rfl rfl) (fl_X11_feed_0 (j := 9) rfl rfl) (s2p rfl (bl rfl))
theorem dX11_feed_10 : decode cX11_feed 10 = .ok (.if_icmp .le 5, 3) := fq3_164 (fl_X11_feed_0 (j := 10) rfl rfl) (fl_X11_feed_0 (j := 11) rfl rfl) (fl_X11_feed_0 (j := 12) rfl rfl) (s2p rfl (bl rfl))
theorem dX11_feed_13 : decode cX11_feed 13 = .ok (.iconst (-1), 1) := fq1_2 (fl_X11_feed_0 (j := 13) rfl rfl)
theorem dX11_feed_14 : decode cX11_feed 14 = .ok (.ireturn, 1) := fq1_172 (fl_X11_feed_0 (j := 14) rfl rfl)
theorem dX11_feed_15 : decode cX11_feed 15 = .ok (.aload_n 0, 1) := fq1_42 (fl_X11_feed_0 (j := 15) rfl rfl)
theorem dX11_feed_16 : decode cX11_feed 16 = .ok (.getfield 32, 3) := fq3_180 (fl_X11_feed_0 (j := 16) rfl rfl) (fl_X11_feed_0 (j := 17) rfl rfl) (fl_X11_feed_0 (j := 18) rfl rfl) rfl
theorem dX11_feed_19 : decode cX11_feed 19 = .ok (.iload_n 1, 1) := fq1_27 (fl_X11_feed_0 (j := 19) rfl rfl)
theorem dX11_feed_20 : decode cX11_feed 20 = .ok (.invokevirtual 152, 3) := fq3_182 (fl_X11_feed_0 (j := 20) rfl rfl) (fl_X11_feed_0 (j := 21) rfl rfl) (fl_X11_feed_0 (j := 22) rfl rfl) rfl
theorem dX11_feed_23 : decode cX11_feed 23 = .ok (.aload_n 0, 1) := fq1_42 (fl_X11_feed_0 (j := 23) rfl rfl)
theorem dX11_feed_24 : decode cX11_feed 24 = .ok (.getfield 32, 3) := fq3_180 (fl_X11_feed_0 (j := 24) rfl rfl) (fl_X11_feed_0 (j := 25) rfl rfl) (fl_X11_feed_0 (j := 26) rfl rfl) rfl
theorem dX11_feed_27 : decode cX11_feed 27 = .ok (.iload_n 2, 1) := fq1_28 (fl_X11_feed_0 (j := 27) rfl rfl)
theorem dX11_feed_28 : decode cX11_feed 28 = .ok (.invokevirtual 152, 3) := fq3_182 (fl_X11_feed_0 (j := 28) rfl rfl) (fl_X11_feed_0 (j := 29) rfl rfl) (fl_X11_feed_0 (j := 30) rfl rfl) rfl
theorem dX11_feed_31 : decode cX11_feed 31 = .ok (.aload_n 0, 1) := fq1_42 (fl_X11_feed_0 (j := 31) rfl rfl)
theorem dX11_feed_32 : decode cX11_feed 32 = .ok (.getfield 32, 3) := fq3_180 (fl_X11_feed_0 (j := 32) rfl rfl) (fl_X11_feed_0 (j := 33) rfl rfl) (fl_X11_feed_0 (j := 34) rfl rfl) rfl
theorem dX11_feed_35 : decode cX11_feed 35 = .ok (.iload_n 3, 1) := fq1_29 (fl_X11_feed_0 (j := 35) rfl rfl)
theorem dX11_feed_36 : decode cX11_feed 36 = .ok (.invokevirtual 152, 3) := fq3_182 (fl_X11_feed_0 (j := 36) rfl rfl) (fl_X11_feed_0 (j := 37) rfl rfl) (fl_X11_feed_0 (j := 38) rfl rfl) rfl
theorem dX11_feed_39 : decode cX11_feed 39 = .ok (.aload_n 0, 1) := fq1_42 (fl_X11_feed_0 (j := 39) rfl rfl)
theorem dX11_feed_40 : decode cX11_feed 40 = .ok (.getfield 32, 3) := fq3_180 (fl_X11_feed_0 (j := 40) rfl rfl) (fl_X11_feed_0 (j := 41) rfl rfl) (fl_X11_feed_0 (j := 42) rfl rfl) rfl
theorem dX11_feed_43 : decode cX11_feed 43 = .ok (.iload 4, 2) := fq2_21 (fl_X11_feed_0 (j := 43) rfl rfl) (fl_X11_feed_0 (j := 44) rfl rfl) rfl
theorem dX11_feed_45 : decode cX11_feed 45 = .ok (.invokevirtual 152, 3) := fq3_182 (fl_X11_feed_0 (j := 45) rfl rfl) (fl_X11_feed_0 (j := 46) rfl rfl) (fl_X11_feed_0 (j := 47) rfl rfl) rfl
theorem dX11_feed_48 : decode cX11_feed 48 = .ok (.aload_n 0, 1) := fq1_42 (fl_X11_feed_0 (j := 48) rfl rfl)
theorem dX11_feed_49 : decode cX11_feed 49 = .ok (.getfield 32, 3) := fq3_180 (fl_X11_feed_0 (j := 49) rfl rfl) (fl_X11_feed_0 (j := 50) rfl rfl) (fl_X11_feed_0 (j := 51) rfl rfl) rfl
theorem dX11_feed_52 : decode cX11_feed 52 = .ok (.iload 5, 2) := fq2_21 (fl_X11_feed_0 (j := 52) rfl rfl) (fl_X11_feed_0 (j := 53) rfl rfl) rfl
theorem dX11_feed_54 : decode cX11_feed 54 = .ok (.invokevirtual 152, 3) := fq3_182 (fl_X11_feed_0 (j := 54) rfl rfl) (fl_X11_feed_0 (j := 55) rfl rfl) (fl_X11_feed_0 (j := 56) rfl rfl) rfl
theorem dX11_feed_57 : decode cX11_feed 57 = .ok (.aload_n 0, 1) := fq1_42 (fl_X11_feed_0 (j := 57) rfl rfl)
theorem dX11_feed_58 : decode cX11_feed 58 = .ok (.getfield 32, 3) := fq3_180 (fl_X11_feed_0 (j := 58) rfl rfl) (fl_X11_feed_0 (j := 59) rfl rfl) (fl_X11_feed_0 (j := 60) rfl rfl) rfl
theorem dX11_feed_61 : decode cX11_feed 61 = .ok (.getfield 149, 3) := fq3_180 (fl_X11_feed_0 (j := 61) rfl rfl) (fl_X11_feed_0 (j := 62) rfl rfl) (fl_X11_feed_0 (j := 63) rfl rfl) rfl
def fb_X11_feed_1 : List UInt8 := [0xac]
theorem fl_X11_feed_1 {p j : Nat} {b : UInt8} (e : p = 64 + j) (h : fb_X11_feed_1[j]? = some b) : cX11_feed.data.toList[p]? = some b := fq_l (n := 64) (show (cX11_feed.data.toList.drop 64).take 64 = fb_X11_feed_1 by decide +kernel) e h
theorem dX11_feed_64 : decode cX11_feed 64 = .ok (.ireturn, 1) := fq1_172 (fl_X11_feed_1 (j := 0) rfl rfl)
def fb_X11_lived_0 : List UInt8 := [0x1b, 0x2a, 0xb4, 0x00, 0x53, 0xbe, 0x04, 0x64, 0xb8, 0x00, 0x67, 0x9a, 0x00, 0x09, 0x2a, 0x04, 0xb6, 0x00, 0x7e, 0xac, 0x2a, 0xb4, 0x01, 0x71, 0x99, 0x00, 0x10, 0x2a, 0x2a, 0xb4, 0x00, 0x53, 0x1b, 0x2e, 0xb6, 0x00, 0xae, 0xa7, 0x00, 0x09, 0x2a, 0x10, 0x06, 0xb6, 0x00, 0x7e, 0xac]
theorem fl_X11_lived_0 {p j : Nat} {b : UInt8} (e : p = 0 + j) (h : fb_X11_lived_0[j]? = some b) : cX11_lived.data.toList[p]? = some b := fq_l (n := 64) (show (cX11_lived.data.toList.drop 0).take 64 = fb_X11_lived_0 by decide +kernel) e h
theorem dX11_lived_0 : decode cX11_lived 0 = .ok (.iload_n 1, 1) := fq1_27 (fl_X11_lived_0 (j := 0) rfl rfl)
theorem dX11_lived_1 : decode cX11_lived 1 = .ok (.aload_n 0, 1) := fq1_42 (fl_X11_lived_0 (j := 1) rfl rfl)
theorem dX11_lived_2 : decode cX11_lived 2 = .ok (.getfield 83, 3) := fq3_180 (fl_X11_lived_0 (j := 2) rfl rfl) (fl_X11_lived_0 (j := 3) rfl rfl) (fl_X11_lived_0 (j := 4) rfl rfl) rfl
theorem dX11_lived_5 : decode cX11_lived 5 = .ok (.arraylength, 1) := fq1_190 (fl_X11_lived_0 (j := 5) rfl rfl)
theorem dX11_lived_6 : decode cX11_lived 6 = .ok (.iconst 1, 1) := fq1_4 (fl_X11_lived_0 (j := 6) rfl rfl)
theorem dX11_lived_7 : decode cX11_lived 7 = .ok (.isub, 1) := fq1_100 (fl_X11_lived_0 (j := 7) rfl rfl)
theorem dX11_lived_8 : decode cX11_lived 8 = .ok (.invokestatic 103, 3) := fq3_184 (fl_X11_lived_0 (j := 8) rfl rfl) (fl_X11_lived_0 (j := 9) rfl rfl) (fl_X11_lived_0 (j := 10) rfl rfl) rfl
theorem dX11_lived_11 : decode cX11_lived 11 = .ok (.ifCond .ne 9, 3) := fq3_154 (fl_X11_lived_0 (j := 11) rfl rfl) (fl_X11_lived_0 (j := 12) rfl rfl) (fl_X11_lived_0 (j := 13) rfl rfl) (s2p rfl (bl rfl))
theorem dX11_lived_14 : decode cX11_lived 14 = .ok (.aload_n 0, 1) := fq1_42 (fl_X11_lived_0 (j := 14) rfl rfl)
theorem dX11_lived_15 : decode cX11_lived 15 = .ok (.iconst 1, 1) := fq1_4 (fl_X11_lived_0 (j := 15) rfl rfl)
theorem dX11_lived_16 : decode cX11_lived 16 = .ok (.invokevirtual 126, 3) := fq3_182 (fl_X11_lived_0 (j := 16) rfl rfl) (fl_X11_lived_0 (j := 17) rfl rfl) (fl_X11_lived_0 (j := 18) rfl rfl) rfl
theorem dX11_lived_19 : decode cX11_lived 19 = .ok (.ireturn, 1) := fq1_172 (fl_X11_lived_0 (j := 19) rfl rfl)
theorem dX11_lived_20 : decode cX11_lived 20 = .ok (.aload_n 0, 1) := fq1_42 (fl_X11_lived_0 (j := 20) rfl rfl)
theorem dX11_lived_21 : decode cX11_lived 21 = .ok (.getfield 369, 3) := fq3_180 (fl_X11_lived_0 (j := 21) rfl rfl) (fl_X11_lived_0 (j := 22) rfl rfl) (fl_X11_lived_0 (j := 23) rfl rfl) rfl
theorem dX11_lived_24 : decode cX11_lived 24 = .ok (.ifCond .eq 16, 3) := fq3_153 (fl_X11_lived_0 (j := 24) rfl rfl) (fl_X11_lived_0 (j := 25) rfl rfl) (fl_X11_lived_0 (j := 26) rfl rfl) (s2p rfl (bl rfl))
theorem dX11_lived_27 : decode cX11_lived 27 = .ok (.aload_n 0, 1) := fq1_42 (fl_X11_lived_0 (j := 27) rfl rfl)
theorem dX11_lived_28 : decode cX11_lived 28 = .ok (.aload_n 0, 1) := fq1_42 (fl_X11_lived_0 (j := 28) rfl rfl)
theorem dX11_lived_29 : decode cX11_lived 29 = .ok (.getfield 83, 3) := fq3_180 (fl_X11_lived_0 (j := 29) rfl rfl) (fl_X11_lived_0 (j := 30) rfl rfl) (fl_X11_lived_0 (j := 31) rfl rfl) rfl
theorem dX11_lived_32 : decode cX11_lived 32 = .ok (.iload_n 1, 1) := fq1_27 (fl_X11_lived_0 (j := 32) rfl rfl)
theorem dX11_lived_33 : decode cX11_lived 33 = .ok (.iaload, 1) := fq1_46 (fl_X11_lived_0 (j := 33) rfl rfl)
theorem dX11_lived_34 : decode cX11_lived 34 = .ok (.invokevirtual 174, 3) := fq3_182 (fl_X11_lived_0 (j := 34) rfl rfl) (fl_X11_lived_0 (j := 35) rfl rfl) (fl_X11_lived_0 (j := 36) rfl rfl) rfl
theorem dX11_lived_37 : decode cX11_lived 37 = .ok (.goto 9, 3) := fq3_167 (fl_X11_lived_0 (j := 37) rfl rfl) (fl_X11_lived_0 (j := 38) rfl rfl) (fl_X11_lived_0 (j := 39) rfl rfl) (s2p rfl (bl rfl))
theorem dX11_lived_40 : decode cX11_lived 40 = .ok (.aload_n 0, 1) := fq1_42 (fl_X11_lived_0 (j := 40) rfl rfl)
theorem dX11_lived_41 : decode cX11_lived 41 = .ok (.bipush 6, 2) := fq2_16 (fl_X11_lived_0 (j := 41) rfl rfl) (fl_X11_lived_0 (j := 42) rfl rfl) (s1p rfl (bl rfl))
theorem dX11_lived_43 : decode cX11_lived 43 = .ok (.invokevirtual 126, 3) := fq3_182 (fl_X11_lived_0 (j := 43) rfl rfl) (fl_X11_lived_0 (j := 44) rfl rfl) (fl_X11_lived_0 (j := 45) rfl rfl) rfl
theorem dX11_lived_46 : decode cX11_lived 46 = .ok (.ireturn, 1) := fq1_172 (fl_X11_lived_0 (j := 46) rfl rfl)
def fb_X11_sky_0 : List UInt8 := [0x1b, 0x2a, 0xb4, 0x00, 0x20, 0xb4, 0x00, 0x95, 0xb8, 0x00, 0x67, 0x9a, 0x00, 0x09, 0x2a, 0x04, 0xb6, 0x00, 0x7e, 0xac, 0x2a, 0xb4, 0x00, 0x20, 0x1b, 0xb6, 0x00, 0x9c, 0x2a, 0xb4, 0x00, 0x29, 0x2a, 0xb4, 0x00, 0x16, 0xb4, 0x00, 0x36, 0xb6, 0x00, 0x9f, 0x3d, 0x1c, 0x9a, 0x00, 0x0a, 0x2a, 0x10, 0x09, 0xb6, 0x00, 0x7e, 0xac, 0x2a, 0xb4, 0x00, 0x12, 0x2a, 0xb4, 0x00, 0x16, 0xb4, 0x00]
theorem fl_X11_sky_0 {p j : Nat} {b : UInt8} (e : p = 0 + j) (h : fb_X11_sky_0[j]? = some b) : cX11_sky.data.toList[p]? = some b := fq_l (n := 64) (show (cX11_sky.data.toList.drop 0).take 64 = fb_X11_sky_0 by decide +kernel) e h
theorem dX11_sky_0 : decode cX11_sky 0 = .ok (.iload_n 1, 1) := fq1_27 (fl_X11_sky_0 (j := 0) rfl rfl)
theorem dX11_sky_1 : decode cX11_sky 1 = .ok (.aload_n 0, 1) := fq1_42 (fl_X11_sky_0 (j := 1) rfl rfl)
theorem dX11_sky_2 : decode cX11_sky 2 = .ok (.getfield 32, 3) := fq3_180 (fl_X11_sky_0 (j := 2) rfl rfl) (fl_X11_sky_0 (j := 3) rfl rfl) (fl_X11_sky_0 (j := 4) rfl rfl) rfl
theorem dX11_sky_5 : decode cX11_sky 5 = .ok (.getfield 149, 3) := fq3_180 (fl_X11_sky_0 (j := 5) rfl rfl) (fl_X11_sky_0 (j := 6) rfl rfl) (fl_X11_sky_0 (j := 7) rfl rfl) rfl
theorem dX11_sky_8 : decode cX11_sky 8 = .ok (.invokestatic 103, 3) := fq3_184 (fl_X11_sky_0 (j := 8) rfl rfl) (fl_X11_sky_0 (j := 9) rfl rfl) (fl_X11_sky_0 (j := 10) rfl rfl) rfl
theorem dX11_sky_11 : decode cX11_sky 11 = .ok (.ifCond .ne 9, 3) := fq3_154 (fl_X11_sky_0 (j := 11) rfl rfl) (fl_X11_sky_0 (j := 12) rfl rfl) (fl_X11_sky_0 (j := 13) rfl rfl) (s2p rfl (bl rfl))
theorem dX11_sky_14 : decode cX11_sky 14 = .ok (.aload_n 0, 1) := fq1_42 (fl_X11_sky_0 (j := 14) rfl rfl)
theorem dX11_sky_15 : decode cX11_sky 15 = .ok (.iconst 1, 1) := fq1_4 (fl_X11_sky_0 (j := 15) rfl rfl)
theorem dX11_sky_16 : decode cX11_sky 16 = .ok (.invokevirtual 126, 3) := fq3_182 (fl_X11_sky_0 (j := 16) rfl rfl) (fl_X11_sky_0 (j := 17) rfl rfl) (fl_X11_sky_0 (j := 18) rfl rfl) rfl
theorem dX11_sky_19 : decode cX11_sky 19 = .ok (.ireturn, 1) := fq1_172 (fl_X11_sky_0 (j := 19) rfl rfl)
theorem dX11_sky_20 : decode cX11_sky 20 = .ok (.aload_n 0, 1) := fq1_42 (fl_X11_sky_0 (j := 20) rfl rfl)
theorem dX11_sky_21 : decode cX11_sky 21 = .ok (.getfield 32, 3) := fq3_180 (fl_X11_sky_0 (j := 21) rfl rfl) (fl_X11_sky_0 (j := 22) rfl rfl) (fl_X11_sky_0 (j := 23) rfl rfl) rfl
theorem dX11_sky_24 : decode cX11_sky 24 = .ok (.iload_n 1, 1) := fq1_27 (fl_X11_sky_0 (j := 24) rfl rfl)
theorem dX11_sky_25 : decode cX11_sky 25 = .ok (.invokevirtual 156, 3) := fq3_182 (fl_X11_sky_0 (j := 25) rfl rfl) (fl_X11_sky_0 (j := 26) rfl rfl) (fl_X11_sky_0 (j := 27) rfl rfl) rfl
theorem dX11_sky_28 : decode cX11_sky 28 = .ok (.aload_n 0, 1) := fq1_42 (fl_X11_sky_0 (j := 28) rfl rfl)
theorem dX11_sky_29 : decode cX11_sky 29 = .ok (.getfield 41, 3) := fq3_180 (fl_X11_sky_0 (j := 29) rfl rfl) (fl_X11_sky_0 (j := 30) rfl rfl) (fl_X11_sky_0 (j := 31) rfl rfl) rfl
theorem dX11_sky_32 : decode cX11_sky 32 = .ok (.aload_n 0, 1) := fq1_42 (fl_X11_sky_0 (j := 32) rfl rfl)
theorem dX11_sky_33 : decode cX11_sky 33 = .ok (.getfield 22, 3) := fq3_180 (fl_X11_sky_0 (j := 33) rfl rfl) (fl_X11_sky_0 (j := 34) rfl rfl) (fl_X11_sky_0 (j := 35) rfl rfl) rfl
theorem dX11_sky_36 : decode cX11_sky 36 = .ok (.getfield 54, 3) := fq3_180 (fl_X11_sky_0 (j := 36) rfl rfl) (fl_X11_sky_0 (j := 37) rfl rfl) (fl_X11_sky_0 (j := 38) rfl rfl) rfl
theorem dX11_sky_39 : decode cX11_sky 39 = .ok (.invokevirtual 159, 3) := fq3_182 (fl_X11_sky_0 (j := 39) rfl rfl) (fl_X11_sky_0 (j := 40) rfl rfl) (fl_X11_sky_0 (j := 41) rfl rfl) rfl
theorem dX11_sky_42 : decode cX11_sky 42 = .ok (.istore_n 2, 1) := fq1_61 (fl_X11_sky_0 (j := 42) rfl rfl)
theorem dX11_sky_43 : decode cX11_sky 43 = .ok (.iload_n 2, 1) := fq1_28 (fl_X11_sky_0 (j := 43) rfl rfl)
theorem dX11_sky_44 : decode cX11_sky 44 = .ok (.ifCond .ne 10, 3) := fq3_154 (fl_X11_sky_0 (j := 44) rfl rfl) (fl_X11_sky_0 (j := 45) rfl rfl) (fl_X11_sky_0 (j := 46) rfl rfl) (s2p rfl (bl rfl))
theorem dX11_sky_47 : decode cX11_sky 47 = .ok (.aload_n 0, 1) := fq1_42 (fl_X11_sky_0 (j := 47) rfl rfl)
theorem dX11_sky_48 : decode cX11_sky 48 = .ok (.bipush 9, 2) := fq2_16 (fl_X11_sky_0 (j := 48) rfl rfl) (fl_X11_sky_0 (j := 49) rfl rfl) (s1p rfl (bl rfl))
theorem dX11_sky_50 : decode cX11_sky 50 = .ok (.invokevirtual 126, 3) := fq3_182 (fl_X11_sky_0 (j := 50) rfl rfl) (fl_X11_sky_0 (j := 51) rfl rfl) (fl_X11_sky_0 (j := 52) rfl rfl) rfl
theorem dX11_sky_53 : decode cX11_sky 53 = .ok (.ireturn, 1) := fq1_172 (fl_X11_sky_0 (j := 53) rfl rfl)
theorem dX11_sky_54 : decode cX11_sky 54 = .ok (.aload_n 0, 1) := fq1_42 (fl_X11_sky_0 (j := 54) rfl rfl)
theorem dX11_sky_55 : decode cX11_sky 55 = .ok (.getfield 18, 3) := fq3_180 (fl_X11_sky_0 (j := 55) rfl rfl) (fl_X11_sky_0 (j := 56) rfl rfl) (fl_X11_sky_0 (j := 57) rfl rfl) rfl
theorem dX11_sky_58 : decode cX11_sky 58 = .ok (.aload_n 0, 1) := fq1_42 (fl_X11_sky_0 (j := 58) rfl rfl)
theorem dX11_sky_59 : decode cX11_sky 59 = .ok (.getfield 22, 3) := fq3_180 (fl_X11_sky_0 (j := 59) rfl rfl) (fl_X11_sky_0 (j := 60) rfl rfl) (fl_X11_sky_0 (j := 61) rfl rfl) rfl
def fb_X11_sky_1 : List UInt8 := [0x36, 0xb6, 0x00, 0xa3, 0x2a, 0xb4, 0x00, 0x3d, 0xb6, 0x00, 0xa6, 0x2a, 0x2a, 0xb4, 0x00, 0x12, 0xb4, 0x00, 0x36, 0xb4, 0x00, 0xa9, 0xb6, 0x00, 0xae, 0xac]
theorem fl_X11_sky_1 {p j : Nat} {b : UInt8} (e : p = 64 + j) (h : fb_X11_sky_1[j]? = some b) : cX11_sky.data.toList[p]? = some b := fq_l (n := 64) (show (cX11_sky.data.toList.drop 64).take 64 = fb_X11_sky_1 by decide +kernel) e h
theorem dX11_sky_62 : decode cX11_sky 62 = .ok (.getfield 54, 3) := fq3_180 (fl_X11_sky_0 (j := 62) rfl rfl) (fl_X11_sky_0 (j := 63) rfl rfl) (fl_X11_sky_1 (j := 0) rfl rfl) rfl
theorem dX11_sky_65 : decode cX11_sky 65 = .ok (.invokevirtual 163, 3) := fq3_182 (fl_X11_sky_1 (j := 1) rfl rfl) (fl_X11_sky_1 (j := 2) rfl rfl) (fl_X11_sky_1 (j := 3) rfl rfl) rfl
theorem dX11_sky_68 : decode cX11_sky 68 = .ok (.aload_n 0, 1) := fq1_42 (fl_X11_sky_1 (j := 4) rfl rfl)
theorem dX11_sky_69 : decode cX11_sky 69 = .ok (.getfield 61, 3) := fq3_180 (fl_X11_sky_1 (j := 5) rfl rfl) (fl_X11_sky_1 (j := 6) rfl rfl) (fl_X11_sky_1 (j := 7) rfl rfl) rfl
theorem dX11_sky_72 : decode cX11_sky 72 = .ok (.invokevirtual 166, 3) := fq3_182 (fl_X11_sky_1 (j := 8) rfl rfl) (fl_X11_sky_1 (j := 9) rfl rfl) (fl_X11_sky_1 (j := 10) rfl rfl) rfl
theorem dX11_sky_75 : decode cX11_sky 75 = .ok (.aload_n 0, 1) := fq1_42 (fl_X11_sky_1 (j := 11) rfl rfl)
theorem dX11_sky_76 : decode cX11_sky 76 = .ok (.aload_n 0, 1) := fq1_42 (fl_X11_sky_1 (j := 12) rfl rfl)
theorem dX11_sky_77 : decode cX11_sky 77 = .ok (.getfield 18, 3) := fq3_180 (fl_X11_sky_1 (j := 13) rfl rfl) (fl_X11_sky_1 (j := 14) rfl rfl) (fl_X11_sky_1 (j := 15) rfl rfl) rfl
theorem dX11_sky_80 : decode cX11_sky 80 = .ok (.getfield 54, 3) := fq3_180 (fl_X11_sky_1 (j := 16) rfl rfl) (fl_X11_sky_1 (j := 17) rfl rfl) (fl_X11_sky_1 (j := 18) rfl rfl) rfl
theorem dX11_sky_83 : decode cX11_sky 83 = .ok (.getfield 169, 3) := fq3_180 (fl_X11_sky_1 (j := 19) rfl rfl) (fl_X11_sky_1 (j := 20) rfl rfl) (fl_X11_sky_1 (j := 21) rfl rfl) rfl
theorem dX11_sky_86 : decode cX11_sky 86 = .ok (.invokevirtual 174, 3) := fq3_182 (fl_X11_sky_1 (j := 22) rfl rfl) (fl_X11_sky_1 (j := 23) rfl rfl) (fl_X11_sky_1 (j := 24) rfl rfl) rfl
theorem dX11_sky_89 : decode cX11_sky 89 = .ok (.ireturn, 1) := fq1_172 (fl_X11_sky_1 (j := 25) rfl rfl)
def fb_X11_years_0 : List UInt8 := [0x1b, 0x2a, 0xb4, 0x00, 0x20, 0xb4, 0x00, 0x95, 0xb8, 0x00, 0x67, 0x99, 0x00, 0x0a, 0x1b, 0x11, 0x01, 0x2c, 0xa4, 0x00, 0x09, 0x2a, 0x04, 0xb6, 0x00, 0x7e, 0xac, 0x2a, 0xb4, 0x00, 0x20, 0x1b, 0xb6, 0x00, 0x9c, 0x2a, 0xb4, 0x00, 0x30, 0x2a, 0xb4, 0x00, 0x16, 0xb4, 0x00, 0xb1, 0x2a, 0xb4, 0x00, 0x12, 0xb4, 0x00, 0x36, 0xb6, 0x00, 0xb5, 0x3d, 0x1c, 0x9a, 0x00, 0x0a, 0x2a, 0x10, 0x09]
theorem fl_X11_years_0 {p j : Nat} {b : UInt8} (e : p = 0 + j) (h : fb_X11_years_0[j]? = some b) : cX11_years.data.toList[p]? = some b := fq_l (n := 64) (show (cX11_years.data.toList.drop 0).take 64 = fb_X11_years_0 by decide +kernel) e h
theorem dX11_years_0 : decode cX11_years 0 = .ok (.iload_n 1, 1) := fq1_27 (fl_X11_years_0 (j := 0) rfl rfl)
theorem dX11_years_1 : decode cX11_years 1 = .ok (.aload_n 0, 1) := fq1_42 (fl_X11_years_0 (j := 1) rfl rfl)
theorem dX11_years_2 : decode cX11_years 2 = .ok (.getfield 32, 3) := fq3_180 (fl_X11_years_0 (j := 2) rfl rfl) (fl_X11_years_0 (j := 3) rfl rfl) (fl_X11_years_0 (j := 4) rfl rfl) rfl
theorem dX11_years_5 : decode cX11_years 5 = .ok (.getfield 149, 3) := fq3_180 (fl_X11_years_0 (j := 5) rfl rfl) (fl_X11_years_0 (j := 6) rfl rfl) (fl_X11_years_0 (j := 7) rfl rfl) rfl
theorem dX11_years_8 : decode cX11_years 8 = .ok (.invokestatic 103, 3) := fq3_184 (fl_X11_years_0 (j := 8) rfl rfl) (fl_X11_years_0 (j := 9) rfl rfl) (fl_X11_years_0 (j := 10) rfl rfl) rfl
theorem dX11_years_11 : decode cX11_years 11 = .ok (.ifCond .eq 10, 3) := fq3_153 (fl_X11_years_0 (j := 11) rfl rfl) (fl_X11_years_0 (j := 12) rfl rfl) (fl_X11_years_0 (j := 13) rfl rfl) (s2p rfl (bl rfl))
theorem dX11_years_14 : decode cX11_years 14 = .ok (.iload_n 1, 1) := fq1_27 (fl_X11_years_0 (j := 14) rfl rfl)
theorem dX11_years_15 : decode cX11_years 15 = .ok (.sipush 300, 3) := fq3_17 (fl_X11_years_0 (j := 15) rfl rfl) (fl_X11_years_0 (j := 16) rfl rfl) (fl_X11_years_0 (j := 17) rfl rfl) (s2p rfl (bl rfl))
theorem dX11_years_18 : decode cX11_years 18 = .ok (.if_icmp .le 9, 3) := fq3_164 (fl_X11_years_0 (j := 18) rfl rfl) (fl_X11_years_0 (j := 19) rfl rfl) (fl_X11_years_0 (j := 20) rfl rfl) (s2p rfl (bl rfl))
theorem dX11_years_21 : decode cX11_years 21 = .ok (.aload_n 0, 1) := fq1_42 (fl_X11_years_0 (j := 21) rfl rfl)
theorem dX11_years_22 : decode cX11_years 22 = .ok (.iconst 1, 1) := fq1_4 (fl_X11_years_0 (j := 22) rfl rfl)
theorem dX11_years_23 : decode cX11_years 23 = .ok (.invokevirtual 126, 3) := fq3_182 (fl_X11_years_0 (j := 23) rfl rfl) (fl_X11_years_0 (j := 24) rfl rfl) (fl_X11_years_0 (j := 25) rfl rfl) rfl
theorem dX11_years_26 : decode cX11_years 26 = .ok (.ireturn, 1) := fq1_172 (fl_X11_years_0 (j := 26) rfl rfl)
theorem dX11_years_27 : decode cX11_years 27 = .ok (.aload_n 0, 1) := fq1_42 (fl_X11_years_0 (j := 27) rfl rfl)
theorem dX11_years_28 : decode cX11_years 28 = .ok (.getfield 32, 3) := fq3_180 (fl_X11_years_0 (j := 28) rfl rfl) (fl_X11_years_0 (j := 29) rfl rfl) (fl_X11_years_0 (j := 30) rfl rfl) rfl
theorem dX11_years_31 : decode cX11_years 31 = .ok (.iload_n 1, 1) := fq1_27 (fl_X11_years_0 (j := 31) rfl rfl)
theorem dX11_years_32 : decode cX11_years 32 = .ok (.invokevirtual 156, 3) := fq3_182 (fl_X11_years_0 (j := 32) rfl rfl) (fl_X11_years_0 (j := 33) rfl rfl) (fl_X11_years_0 (j := 34) rfl rfl) rfl
theorem dX11_years_35 : decode cX11_years 35 = .ok (.aload_n 0, 1) := fq1_42 (fl_X11_years_0 (j := 35) rfl rfl)
theorem dX11_years_36 : decode cX11_years 36 = .ok (.getfield 48, 3) := fq3_180 (fl_X11_years_0 (j := 36) rfl rfl) (fl_X11_years_0 (j := 37) rfl rfl) (fl_X11_years_0 (j := 38) rfl rfl) rfl
theorem dX11_years_39 : decode cX11_years 39 = .ok (.aload_n 0, 1) := fq1_42 (fl_X11_years_0 (j := 39) rfl rfl)
theorem dX11_years_40 : decode cX11_years 40 = .ok (.getfield 22, 3) := fq3_180 (fl_X11_years_0 (j := 40) rfl rfl) (fl_X11_years_0 (j := 41) rfl rfl) (fl_X11_years_0 (j := 42) rfl rfl) rfl
theorem dX11_years_43 : decode cX11_years 43 = .ok (.getfield 177, 3) := fq3_180 (fl_X11_years_0 (j := 43) rfl rfl) (fl_X11_years_0 (j := 44) rfl rfl) (fl_X11_years_0 (j := 45) rfl rfl) rfl
theorem dX11_years_46 : decode cX11_years 46 = .ok (.aload_n 0, 1) := fq1_42 (fl_X11_years_0 (j := 46) rfl rfl)
theorem dX11_years_47 : decode cX11_years 47 = .ok (.getfield 18, 3) := fq3_180 (fl_X11_years_0 (j := 47) rfl rfl) (fl_X11_years_0 (j := 48) rfl rfl) (fl_X11_years_0 (j := 49) rfl rfl) rfl
theorem dX11_years_50 : decode cX11_years 50 = .ok (.getfield 54, 3) := fq3_180 (fl_X11_years_0 (j := 50) rfl rfl) (fl_X11_years_0 (j := 51) rfl rfl) (fl_X11_years_0 (j := 52) rfl rfl) rfl
theorem dX11_years_53 : decode cX11_years 53 = .ok (.invokevirtual 181, 3) := fq3_182 (fl_X11_years_0 (j := 53) rfl rfl) (fl_X11_years_0 (j := 54) rfl rfl) (fl_X11_years_0 (j := 55) rfl rfl) rfl
theorem dX11_years_56 : decode cX11_years 56 = .ok (.istore_n 2, 1) := fq1_61 (fl_X11_years_0 (j := 56) rfl rfl)
theorem dX11_years_57 : decode cX11_years 57 = .ok (.iload_n 2, 1) := fq1_28 (fl_X11_years_0 (j := 57) rfl rfl)
theorem dX11_years_58 : decode cX11_years 58 = .ok (.ifCond .ne 10, 3) := fq3_154 (fl_X11_years_0 (j := 58) rfl rfl) (fl_X11_years_0 (j := 59) rfl rfl) (fl_X11_years_0 (j := 60) rfl rfl) (s2p rfl (bl rfl))
theorem dX11_years_61 : decode cX11_years 61 = .ok (.aload_n 0, 1) := fq1_42 (fl_X11_years_0 (j := 61) rfl rfl)
theorem dX11_years_62 : decode cX11_years 62 = .ok (.bipush 9, 2) := fq2_16 (fl_X11_years_0 (j := 62) rfl rfl) (fl_X11_years_0 (j := 63) rfl rfl) (s1p rfl (bl rfl))
def fb_X11_years_1 : List UInt8 := [0xb6, 0x00, 0x7e, 0xac, 0x2a, 0xb4, 0x00, 0x12, 0xb4, 0x00, 0xb1, 0x2a, 0xb4, 0x00, 0x16, 0xb4, 0x00, 0xb1, 0xb6, 0x00, 0xb8, 0x2a, 0x2a, 0xb4, 0x00, 0x12, 0xb4, 0x00, 0xb1, 0xb4, 0x00, 0xbe, 0xb6, 0x00, 0xae, 0xac]
theorem fl_X11_years_1 {p j : Nat} {b : UInt8} (e : p = 64 + j) (h : fb_X11_years_1[j]? = some b) : cX11_years.data.toList[p]? = some b := fq_l (n := 64) (show (cX11_years.data.toList.drop 64).take 64 = fb_X11_years_1 by decide +kernel) e h
theorem dX11_years_64 : decode cX11_years 64 = .ok (.invokevirtual 126, 3) := fq3_182 (fl_X11_years_1 (j := 0) rfl rfl) (fl_X11_years_1 (j := 1) rfl rfl) (fl_X11_years_1 (j := 2) rfl rfl) rfl
theorem dX11_years_67 : decode cX11_years 67 = .ok (.ireturn, 1) := fq1_172 (fl_X11_years_1 (j := 3) rfl rfl)
theorem dX11_years_68 : decode cX11_years 68 = .ok (.aload_n 0, 1) := fq1_42 (fl_X11_years_1 (j := 4) rfl rfl)
theorem dX11_years_69 : decode cX11_years 69 = .ok (.getfield 18, 3) := fq3_180 (fl_X11_years_1 (j := 5) rfl rfl) (fl_X11_years_1 (j := 6) rfl rfl) (fl_X11_years_1 (j := 7) rfl rfl) rfl
theorem dX11_years_72 : decode cX11_years 72 = .ok (.getfield 177, 3) := fq3_180 (fl_X11_years_1 (j := 8) rfl rfl) (fl_X11_years_1 (j := 9) rfl rfl) (fl_X11_years_1 (j := 10) rfl rfl) rfl
theorem dX11_years_75 : decode cX11_years 75 = .ok (.aload_n 0, 1) := fq1_42 (fl_X11_years_1 (j := 11) rfl rfl)
theorem dX11_years_76 : decode cX11_years 76 = .ok (.getfield 22, 3) := fq3_180 (fl_X11_years_1 (j := 12) rfl rfl) (fl_X11_years_1 (j := 13) rfl rfl) (fl_X11_years_1 (j := 14) rfl rfl) rfl
theorem dX11_years_79 : decode cX11_years 79 = .ok (.getfield 177, 3) := fq3_180 (fl_X11_years_1 (j := 15) rfl rfl) (fl_X11_years_1 (j := 16) rfl rfl) (fl_X11_years_1 (j := 17) rfl rfl) rfl
theorem dX11_years_82 : decode cX11_years 82 = .ok (.invokevirtual 184, 3) := fq3_182 (fl_X11_years_1 (j := 18) rfl rfl) (fl_X11_years_1 (j := 19) rfl rfl) (fl_X11_years_1 (j := 20) rfl rfl) rfl
theorem dX11_years_85 : decode cX11_years 85 = .ok (.aload_n 0, 1) := fq1_42 (fl_X11_years_1 (j := 21) rfl rfl)
theorem dX11_years_86 : decode cX11_years 86 = .ok (.aload_n 0, 1) := fq1_42 (fl_X11_years_1 (j := 22) rfl rfl)
theorem dX11_years_87 : decode cX11_years 87 = .ok (.getfield 18, 3) := fq3_180 (fl_X11_years_1 (j := 23) rfl rfl) (fl_X11_years_1 (j := 24) rfl rfl) (fl_X11_years_1 (j := 25) rfl rfl) rfl
theorem dX11_years_90 : decode cX11_years 90 = .ok (.getfield 177, 3) := fq3_180 (fl_X11_years_1 (j := 26) rfl rfl) (fl_X11_years_1 (j := 27) rfl rfl) (fl_X11_years_1 (j := 28) rfl rfl) rfl
theorem dX11_years_93 : decode cX11_years 93 = .ok (.getfield 190, 3) := fq3_180 (fl_X11_years_1 (j := 29) rfl rfl) (fl_X11_years_1 (j := 30) rfl rfl) (fl_X11_years_1 (j := 31) rfl rfl) rfl
theorem dX11_years_96 : decode cX11_years 96 = .ok (.invokevirtual 174, 3) := fq3_182 (fl_X11_years_1 (j := 32) rfl rfl) (fl_X11_years_1 (j := 33) rfl rfl) (fl_X11_years_1 (j := 34) rfl rfl) rfl
theorem dX11_years_99 : decode cX11_years 99 = .ok (.ireturn, 1) := fq1_172 (fl_X11_years_1 (j := 35) rfl rfl)
def fb_X3_forget_0 : List UInt8 := [0x2a, 0x09, 0xb5, 0x00, 0x0f, 0xb1]
theorem fl_X3_forget_0 {p j : Nat} {b : UInt8} (e : p = 0 + j) (h : fb_X3_forget_0[j]? = some b) : cX3_forget.data.toList[p]? = some b := fq_l (n := 64) (show (cX3_forget.data.toList.drop 0).take 64 = fb_X3_forget_0 by decide +kernel) e h
theorem dX3_forget_0 : decode cX3_forget 0 = .ok (.aload_n 0, 1) := fq1_42 (fl_X3_forget_0 (j := 0) rfl rfl)
theorem dX3_forget_1 : decode cX3_forget 1 = .ok (.lconst 0, 1) := fq1_9 (fl_X3_forget_0 (j := 1) rfl rfl)
theorem dX3_forget_2 : decode cX3_forget 2 = .ok (.putfield 15, 3) := fq3_181 (fl_X3_forget_0 (j := 2) rfl rfl) (fl_X3_forget_0 (j := 3) rfl rfl) (fl_X3_forget_0 (j := 4) rfl rfl) rfl
theorem dX3_forget_5 : decode cX3_forget 5 = .ok (.return_, 1) := fq1_177 (fl_X3_forget_0 (j := 5) rfl rfl)
end

section
/-- what is known of a World: sky, course, years -/
def WI (n ni lw wk od th ys yr : Int) (f gf ywf y1f y3f ypf : Nat → Int32) : Prop := (0 ≤ n ∧ n ≤ 6) ∧ (0 ≤ ni ∧ ni ≤ 8) ∧ (0 ≤ lw ∧ lw ≤ 3) ∧ (0 ≤ wk ∧ wk ≤ 400) ∧ (0 ≤ od ∧ od ≤ 20) ∧ (th = 0 ∨ th = 1) ∧ (0 ≤ ys ∧ ys ≤ 30) ∧ (0 ≤ yr ∧ yr ≤ 60) ∧ FXI f n ∧ rgI gf 0 (n - 1) od ∧ YI ywf y1f y3f ypf n yr
theorem WI.copy {n ni lw wk od th ys yr : Int} {f gf w a c p f' gf' w' a' c' p' : Nat → Int32} (h : WI n ni lw wk od th ys yr f gf w a c p) (h1 : CPY f' f 36) (h2 : CPY gf' gf od) (h3 : CPY w' w yr) (h4 : CPY a' a yr) (h5 : CPY c' c yr) (h6 : CPY p' p yr) : WI n ni lw wk od th ys yr f' gf' w' a' c' p' := by
  obtain ⟨g1, g2, g3, g4, g5, g6, g7, g8, g9, g10, g11⟩ := h
  exact ⟨g1, g2, g3, g4, g5, g6, g7, g8, h1.fxi g1.2 g9, h2.rg g10, CPY.yi h3 h4 h5 h6 g11⟩
theorem WI.begin {n ni lw : Int} {f gf w a c p : Nat → Int32} (h1 : 0 ≤ n ∧ n ≤ 6) (h2 : 0 ≤ ni ∧ ni ≤ 8) (h3 : 0 ≤ lw ∧ lw ≤ 3) (h4 : FXI f n) : WI n ni lw 0 0 0 0 0 f gf w a c p := ⟨h1, h2, h3, by omega, by omega, by omega, by omega, by omega, h4, fun e a b => by omega, fun r a b => by omega⟩
set_option maxHeartbeats 4000000 in
set_option maxRecDepth 100000 in
theorem k_forget (l : Launch) (D : va_G) (k : Nat → ClassId) (h : Nat) (hs : Nat) (op : Int64) (vA : Value) (vL : Value) : WD (σ := ((Int) × (Int64) × (Unit) × (Unit))) l yX3_forget cX3_forget 1 none 0 0 0 D k [.ref h] [(h, .inr (3, [.ref hs, .long op, vA, vL]))] (fun _ => none) (fun _ => True) (fun u => [(h, .inr (3, [.ref hs, .long 0, vA, vL]))]) := by
  refine MW (by decide) (Nat.le_of_ble_eq_true rfl) (fun p e s m below meth c ls A hx hb hml hr hlocks hin hts hown hKK hP hD hS hA hl => ?_)
  have hK := hKK.1
  have hl : lv_has ls 1 [(0, .ref h)] := hl
  refine lv_aload_n hx hb dX3_forget_0 rfl (lv_at hl 0 rfl) ?_
  refine lv_lconst (v := 0) hx hb dX3_forget_1 rfl ?_
  refine va_put (D := D) (ci := 3) (v := .long 0) (ty := .long) (C := RX3) (T := TX3) (N := 4) hx hb hts iX3 tyX3 tyX3_ok nmX3 hown hK hP hD hS 0 rfl rfl 1 (bl rfl) (hts _ qf_X3_15) (fun _ h => h) rfl (by decide +kernel) rfl rfl (Nat.le_of_ble_eq_true rfl) dX3_forget_2 (fun H locs hP hD hS => ?_)
  exact EWv hx hb hr hlocks hS (0, 0, (), ()) rfl trivial (hP.sub [0] rfl) (hD.sub [0] rfl rfl) dX3_forget_5
set_option maxHeartbeats 4000000 in
set_option maxRecDepth 100000 in
theorem p_fault (l : Launch) (D : va_G) (k : Nat → ClassId) (hx1 : Nat) (ta : Nat) (hw1 : Nat) (hw12 : Nat) (ka : Nat) (hr1 : Nat) (hq : Nat) (hv : Nat) (h : Nat) (hn1 : Nat) (hL : Nat) (li : Nat) (ev : Int) (mk : Int) (ou : Int) (up : Int64) (lo : Int64) (tx : Nat) (kw : Nat) (tp : Int) (ln : Int) (pl : Int) (en : Int) (ki : Int) (va : Int) (ke : Int) (fk : Int) (fp : Int) (nm : Int64) (bf : Nat → Int32) (kwf : Nat → Int64) (x1 : Int) (h9x1 : -2147483648 ≤ x1 ∧ x1 < 2147483648) : WD (σ := ((Int) × (Int64) × (Unit) × (Unit))) l yX11_fault cX11_fault 2 (some .int) 0 0 0 D k [.ref hx1, .int (iZ x1)] [(hx1, .inr (11, [.ref ta, .ref hw1, .ref hw12, .ref ka, .ref hr1, .ref hq, .ref hv, .ref h, .ref hn1, .ref hL, .ref li, .int (iZ ev), .int (iZ mk), .int (iZ ou), .long up, .long lo])), (hr1, .inr (4, [.ref tx, .ref kw, .int (iZ tp), .int (iZ ln), .int (iZ pl), .int (iZ en), .int (iZ ki), .int (iZ va), .int (iZ ke), .long nm, .int (iZ fk), .int (iZ fp)])), (tx, .inl (k 0, 900, .inl bf)), (kw, .inl (k 2, 25, .inr (.inl kwf)))] (fun u => some (.int (iZ u.1))) (fun _ => True) (fun u => [(hx1, .inr (11, [.ref ta, .ref hw1, .ref hw12, .ref ka, .ref hr1, .ref hq, .ref hv, .ref h, .ref hn1, .ref hL, .ref li, .int (iZ ev), .int (iZ mk), .int (iZ ou), .long up, .long lo])), (hr1, .inr (4, [.ref tx, .ref kw, .int (iZ tp), .int (iZ ln), .int (iZ pl), .int (iZ en), .int (iZ ki), .int (iZ va), .int (iZ ke), .long nm, .int (iZ fk), .int (iZ fp)])), (tx, .inl (k 0, 900, .inl bf)), (kw, .inl (k 2, 25, .inr (.inl kwf)))]) := by
  refine MW (by decide) (Nat.le_of_ble_eq_true rfl) (fun p e s m below meth c ls A hx hb hml hr hlocks hin hts hown hKK hP hD hS hA hl => ?_)
  have hK := hKK.1
  have hl : lv_has ls 2 [(0, .ref hx1), (1, .int (iZ x1))] := hl
  refine lv_iload_n hx hb dX11_fault_0 rfl (lv_at hl 1 rfl) ?_
  refine lv_if_ne (tgt := 12) hx hb dX11_fault_1 rfl (fun c_1 => ?_) (fun c_1 => ?_)
  ·
    have c_1 := mt (zeq (x := iZ x1) (y := iZ 0) rfl rfl ⟨by omega, by omega⟩ wn_0).mpr c_1
    refine lv_iload_n hx hb dX11_fault_12 rfl (lv_at hl 1 rfl) ?_
    refine lv_iconst (v := iZ 1) hx hb dX11_fault_13 rfl ?_
    refine lv_icmp_ne (tgt := 27) hx hb dX11_fault_14 rfl (fun c_2 => ?_) (fun c_2 => ?_)
    ·
      have c_2 := mt (zeq (x := iZ x1) (y := iZ 1) rfl rfl ⟨by omega, by omega⟩ wn_1).mpr c_2
      refine lv_iconst (v := iZ (-1)) hx hb dX11_fault_27 rfl ?_
      exact EWi hx hb hr hlocks hS ((-1), 0, (), ()) rfl trivial (hP.sub [0, 1, 2, 3] rfl) (hD.sub [0, 1, 2, 3] rfl rfl) dX11_fault_28
    ·
      have c_2 := (zeq (x := iZ x1) (y := iZ 1) rfl rfl ⟨by omega, by omega⟩ wn_1).mp c_2
      refine lv_aload_n hx hb dX11_fault_17 rfl (lv_at hl 0 rfl) ?_
      refine va_get (D := D) (ci := 11) (v := .ref hr1) (C := RX11) (T := TX11) (N := 16) hx hb hts iX11 hown hK hP 0 rfl rfl 4 (bl rfl) (hts _ qf_X11_32) (fun _ h => h) rfl dX11_fault_18 ?_
      refine va_get (D := D) (ci := 4) (v := .int (iZ fp)) (C := RX4) (T := TX4) (N := 12) hx hb hts iX4 hown hK hP 1 rfl rfl 11 (bl rfl) (hts _ qf_X11_196) (fun _ h => h) rfl dX11_fault_21 ?_
      refine lv_goto (tgt := 28) hx hb dX11_fault_24 rfl ?_
      exact EWi hx hb hr hlocks hS (fp, 0, (), ()) rfl trivial (hP.sub [0, 1, 2, 3] rfl) (hD.sub [0, 1, 2, 3] rfl rfl) dX11_fault_28
  ·
    have c_1 := (zeq (x := iZ x1) (y := iZ 0) rfl rfl ⟨by omega, by omega⟩ wn_0).mp c_1
    refine lv_aload_n hx hb dX11_fault_4 rfl (lv_at hl 0 rfl) ?_
    refine va_get (D := D) (ci := 11) (v := .ref hr1) (C := RX11) (T := TX11) (N := 16) hx hb hts iX11 hown hK hP 0 rfl rfl 4 (bl rfl) (hts _ qf_X11_32) (fun _ h => h) rfl dX11_fault_5 ?_
    refine va_get (D := D) (ci := 4) (v := .int (iZ fk)) (C := RX4) (T := TX4) (N := 12) hx hb hts iX4 hown hK hP 1 rfl rfl 10 (bl rfl) (hts _ qf_X11_193) (fun _ h => h) rfl dX11_fault_8 ?_
    exact EWi hx hb hr hlocks hS (fk, 0, (), ()) rfl trivial (hP.sub [0, 1, 2, 3] rfl) (hD.sub [0, 1, 2, 3] rfl rfl) dX11_fault_11
set_option maxHeartbeats 4000000 in
set_option maxRecDepth 100000 in
theorem p_lived (l : Launch) (D : va_G) (k : Nat → ClassId) (hx1 : Nat) (ta : Nat) (hw1 : Nat) (hw12 : Nat) (ka : Nat) (hr1 : Nat) (hq : Nat) (hv : Nat) (h : Nat) (hn1 : Nat) (hL : Nat) (li : Nat) (ev : Int) (mk : Int) (ou : Int) (up : Int64) (lo : Int64) (lf : Nat → Int32) (x1 : Int) (hev : ev = 0 ∨ ev = 1) (h9x1 : -2147483648 ≤ x1 ∧ x1 < 2147483648) : WD (σ := ((Int × Int) × (Int64) × (Unit) × (Unit))) l yX11_lived cX11_lived 2 (some .int) 1 0 0 D k [.ref hx1, .int (iZ x1)] [(hx1, .inr (11, [.ref ta, .ref hw1, .ref hw12, .ref ka, .ref hr1, .ref hq, .ref hv, .ref h, .ref hn1, .ref hL, .ref li, .int (iZ ev), .int (iZ mk), .int (iZ ou), .long up, .long lo])), (li, .inl (k 1, 5, .inl lf))] (fun u => some (.int (iZ u.1.1))) (fun _ => True) (fun u => [(hx1, .inr (11, [.ref ta, .ref hw1, .ref hw12, .ref ka, .ref hr1, .ref hq, .ref hv, .ref h, .ref hn1, .ref hL, .ref li, .int (iZ ev), .int (iZ mk), .int (iZ u.1.2), .long up, .long lo])), (li, .inl (k 1, 5, .inl lf))]) := by
  refine MW (by decide) (Nat.le_of_ble_eq_true rfl) (fun p e s m below meth c ls A hx hb hml hr hlocks hin hts hown hKK hP hD hS hA hl => ?_)
  have hK := hKK.1
  have hl : lv_has ls 2 [(0, .ref hx1), (1, .int (iZ x1))] := hl
  refine lv_iload_n hx hb dX11_lived_0 rfl (lv_at hl 1 rfl) ?_
  refine lv_aload_n hx hb dX11_lived_1 rfl (lv_at hl 0 rfl) ?_
  refine va_get (D := D) (ci := 11) (v := .ref li) (C := RX11) (T := TX11) (N := 16) hx hb hts iX11 hown hK hP 0 rfl rfl 10 (bl rfl) (hts _ qf_X11_83) (fun _ h => h) rfl dX11_lived_2 ?_
  refine va_alen (v := iZ 5) hx hb hK hP 1 1 rfl (ty := .int) rfl (show Int32.ofNat 5 = iZ 5 from (by decide +kernel)) dX11_lived_5 ?_
  refine lv_iconst (v := iZ 1) hx hb dX11_lived_6 rfl ?_
  refine lv_isub hx hb dX11_lived_7 ?_
  refine lv_topi (fun x_1 ex_1 => ?_)
  obtain rfl : x_1 = iZ 4 := ex_1.trans (by decide +kernel)
  refine CPS (As := [.int (iZ x1), .int (iZ 4)]) (rest := []) hx hb hml hown hts hKK (hP.sub (ws' := []) [] rfl) (k_isWithin l D k x1 4 ⟨by omega, by omega⟩ ⟨by omega, by omega⟩) ci_X11_isWithin qm_X11_103 ⟨Nat.le_of_ble_eq_true rfl, Nat.le_of_ble_eq_true rfl⟩ ⟨Nat.le_of_ble_eq_true rfl, Nat.le_of_ble_eq_true rfl⟩ rfl hl.1 rfl (Nat.le_of_ble_eq_true rfl) dX11_lived_8 (fun z_2 hz_2 => ?_)
  rcases hz_2 with ⟨qz_2, hz_2⟩ | ⟨qz_2, hz_2⟩
  ·
    subst qz_2
    refine lv_if_ne (tgt := 20) hx hb dX11_lived_11 rfl (fun _ => ?_) (fun c => absurd c (by decide))
    refine lv_aload_n hx hb dX11_lived_20 rfl (lv_at hl 0 rfl) ?_
    refine va_get (D := D) (ci := 11) (v := .int (iZ ev)) (C := RX11) (T := TX11) (N := 16) hx hb hts iX11 hown hK hP 0 rfl rfl 11 (bl rfl) (hts _ qf_X11_369) (fun _ h => h) rfl dX11_lived_21 ?_
    refine lv_if_eq (tgt := 40) hx hb dX11_lived_24 rfl (fun c_4 => ?_) (fun c_4 => ?_)
    ·
      have c_4 := (zeq (x := iZ ev) (y := iZ 0) rfl rfl ⟨by omega, by omega⟩ wn_0).mp c_4
      refine lv_aload_n hx hb dX11_lived_40 rfl (lv_at hl 0 rfl) ?_
      refine lv_bipush (v := iZ 6) hx hb dX11_lived_41 bip_6 ?_
      refine CWV (As := [.int (iZ 6)]) (rest := []) (wc := _) (wr := [(li, .inl (k 1, 5, .inl lf))]) hx hb hml hown hts hKK hP hD hS hA (k_refuse l D k hx1 ta hw1 hw12 ka hr1 hq hv h hn1 hL li ev mk ou up lo 6) ci_X11_refuse qm_X11_126 ⟨Nat.le_of_ble_eq_true rfl, Nat.le_of_ble_eq_true rfl⟩ ⟨Nat.le_of_ble_eq_true rfl, Nat.le_of_ble_eq_true rfl⟩ [0] [1] rfl rfl rfl rfl rfl (dj rfl) 0 rfl rfl rfl hl.1 rfl (Nat.le_of_ble_eq_true rfl) dX11_lived_43 (fun u_5 H locs hφ hP hD hS => ?_)
      refine W.eq (g2 := F0 m 46 ls [.int (iZ (-1))]) rfl ?_
      exact EWi hx hb hr hlocks hS (((-1), 6), 0, (), ()) rfl trivial (hP.sub [1, 0] rfl) (hD.sub [1, 0] rfl rfl) dX11_lived_46
    ·
      have c_4 := mt (zeq (x := iZ ev) (y := iZ 0) rfl rfl ⟨by omega, by omega⟩ wn_0).mpr c_4
      refine lv_aload_n hx hb dX11_lived_27 rfl (lv_at hl 0 rfl) ?_
      refine lv_aload_n hx hb dX11_lived_28 rfl (lv_at hl 0 rfl) ?_
      refine va_get (D := D) (ci := 11) (v := .ref li) (C := RX11) (T := TX11) (N := 16) hx hb hts iX11 hown hK hP 0 rfl rfl 10 (bl rfl) (hts _ qf_X11_83) (fun _ h => h) rfl dX11_lived_29 ?_
      refine lv_iload_n hx hb dX11_lived_32 rfl (lv_at hl 1 rfl) ?_
      refine va_iald hx hb hK hP 1 1 rfl rfl (zin (e := x1) (n := 5) ⟨by omega, by omega⟩ (bl rfl)) dX11_lived_33 ?_
      refine lv_topi (fun x_6 ex_6 => ?_)
      obtain rfl : x_6 = iZ (gz lf x1) := ex_6.trans (gz_eq ⟨by omega, by omega⟩)
      have h_7 := gz_rg lf x1
      refine CWV (As := [.int (iZ (gz lf x1))]) (rest := []) (wc := _) (wr := [(li, .inl (k 1, 5, .inl lf))]) hx hb hml hown hts hKK hP hD hS hA (k_answer l D k hx1 ta hw1 hw12 ka hr1 hq hv h hn1 hL li ev mk ou up lo (gz lf x1)) ci_X11_answer qm_X11_174 ⟨Nat.le_of_ble_eq_true rfl, Nat.le_of_ble_eq_true rfl⟩ ⟨Nat.le_of_ble_eq_true rfl, Nat.le_of_ble_eq_true rfl⟩ [0] [1] rfl rfl rfl rfl rfl (dj rfl) 0 rfl rfl rfl hl.1 rfl (Nat.le_of_ble_eq_true rfl) dX11_lived_34 (fun u_8 H locs hφ hP hD hS => ?_)
      refine W.eq (g2 := F0 m 37 ls [.int (iZ (gz lf x1))]) rfl ?_
      refine lv_goto (tgt := 46) hx hb dX11_lived_37 rfl ?_
      exact EWi hx hb hr hlocks hS (((gz lf x1), 0), 0, (), ()) rfl trivial (hP.sub [1, 0] rfl) (hD.sub [1, 0] rfl rfl) dX11_lived_46
  ·
    subst qz_2
    refine lv_if_ne (tgt := 20) hx hb dX11_lived_11 rfl (fun c => absurd (by decide) c) (fun _ => ?_)
    refine lv_aload_n hx hb dX11_lived_14 rfl (lv_at hl 0 rfl) ?_
    refine lv_iconst (v := iZ 1) hx hb dX11_lived_15 rfl ?_
    refine CWV (As := [.int (iZ 1)]) (rest := []) (wc := _) (wr := [(li, .inl (k 1, 5, .inl lf))]) hx hb hml hown hts hKK hP hD hS hA (k_refuse l D k hx1 ta hw1 hw12 ka hr1 hq hv h hn1 hL li ev mk ou up lo 1) ci_X11_refuse qm_X11_126 ⟨Nat.le_of_ble_eq_true rfl, Nat.le_of_ble_eq_true rfl⟩ ⟨Nat.le_of_ble_eq_true rfl, Nat.le_of_ble_eq_true rfl⟩ [0] [1] rfl rfl rfl rfl rfl (dj rfl) 0 rfl rfl rfl hl.1 rfl (Nat.le_of_ble_eq_true rfl) dX11_lived_16 (fun u_10 H locs hφ hP hD hS => ?_)
    refine W.eq (g2 := F0 m 19 ls [.int (iZ (-1))]) rfl ?_
    exact EWi hx hb hr hlocks hS (((-1), 1), 0, (), ()) rfl trivial (hP.sub [1, 0] rfl) (hD.sub [1, 0] rfl rfl) dX11_lived_19
set_option maxHeartbeats 4000000 in
set_option maxRecDepth 100000 in
theorem p_years (l : Launch) (D : va_G) (k : Nat → ClassId) (hx1 : Nat) (ta : Nat) (hw1 : Nat) (hw12 : Nat) (ka : Nat) (hr1 : Nat) (hq : Nat) (hv : Nat) (h : Nat) (hn1 : Nat) (hL : Nat) (li : Nat) (ev : Int) (mk : Int) (ou : Int) (up : Int64) (lo : Int64) (tx : Nat) (kw : Nat) (hs : Nat) (hN : Nat) (hf : Nat) (hg : Nat) (hc : Nat) (oo : Nat) (hs2 : Nat) (hc2 : Nat) (sv : Value) (sv2 : Value) (de : Int) (n : Int) (ni : Int) (lw : Int) (we : Int) (nf : Nat → Int64) (of0 : Nat → Int32) (tp : Int) (ln : Int) (pl : Int) (en : Int) (ki : Int) (va : Int) (ke : Int) (fk : Int) (fp : Int) (nm : Int64) (bf : Nat → Int32) (kwf : Nat → Int64) (hy : Nat) (yw : Nat) (y1 : Nat) (y2 : Nat) (y3 : Nat) (yp : Nat) (th : Int) (ys : Int) (yr : Int) (ywf : Nat → Int32) (y1f : Nat → Int32) (y2f : Nat → Int32) (y3f : Nat → Int32) (ypf : Nat → Int32) (hy2 : Nat) (yw2 : Nat) (y12 : Nat) (y22 : Nat) (y32 : Nat) (yp2 : Nat) (th2 : Int) (ys2 : Int) (yr2 : Int) (ywf2 : Nat → Int32) (y1f2 : Nat → Int32) (y2f2 : Nat → Int32) (y3f2 : Nat → Int32) (ypf2 : Nat → Int32) (x1 : Int) (hI1 : (0 ≤ tp ∧ tp ≤ 900) ∧ (0 ≤ ln ∧ ln ≤ 900) ∧ (0 ≤ pl ∧ pl ≤ en) ∧ (en ≤ ln) ∧ (0 ≤ ki ∧ ki ≤ 4) ∧ (-2147483648 ≤ va ∧ va < 2147483648) ∧ (-1 ≤ ke ∧ ke ≤ 24)) (hn : 0 ≤ n ∧ n ≤ 6) (hth : th = 0 ∨ th = 1) (hys : 0 ≤ ys ∧ ys ≤ 30) (hyr : 0 ≤ yr ∧ yr ≤ 60) (hYI : YI ywf y1f y3f ypf n yr) (h9x1 : -2147483648 ≤ x1 ∧ x1 < 2147483648) : WD (σ := ((Int × Int × Int × Int × Int × Int × Int × Int × Int × Int × Int × Int × Int × Int × Int × Int × Int × Int) × (Int64 × Int64) × ((Nat → Int32) × (Nat → Int32) × (Nat → Int32) × (Nat → Int32) × (Nat → Int32) × (Nat → Int32) × (Nat → Int32) × (Nat → Int32) × (Nat → Int32) × (Nat → Int32) × (Nat → Int32)) × (Unit) × (Value × Value))) l yX11_years cX11_years 3 (some .int) 7 0 0 D k [.ref hx1, .int (iZ x1)] [(hx1, .inr (11, [.ref ta, .ref hw1, .ref hw12, .ref ka, .ref hr1, .ref hq, .ref hv, .ref h, .ref hn1, .ref hL, .ref li, .int (iZ ev), .int (iZ mk), .int (iZ ou), .long up, .long lo])), (hv, .inr (10, [.ref hr1, .ref oo, .int (iZ de), sv, sv2])), (oo, .inl (k 1, 3, .inl of0)), (hr1, .inr (4, [.ref tx, .ref kw, .int (iZ tp), .int (iZ ln), .int (iZ pl), .int (iZ en), .int (iZ ki), .int (iZ va), .int (iZ ke), .long nm, .int (iZ fk), .int (iZ fp)])), (tx, .inl (k 0, 900, .inl bf)), (kw, .inl (k 2, 25, .inr (.inl kwf))), (hw12, .inr (8, [.ref hs2, .ref hc2, .ref hy2])), (hy2, .inr (9, [.ref yw2, .ref y12, .ref y22, .ref y32, .ref yp2, .int (iZ th2), .int (iZ ys2), .int (iZ yr2)])), (yw2, .inl (k 1, 60, .inl ywf2)), (y12, .inl (k 1, 60, .inl y1f2)), (y22, .inl (k 1, 60, .inl y2f2)), (y32, .inl (k 1, 60, .inl y3f2)), (yp2, .inl (k 1, 60, .inl ypf2)), (hw1, .inr (8, [.ref hs, .ref hc, .ref hy])), (hy, .inr (9, [.ref yw, .ref y1, .ref y2, .ref y3, .ref yp, .int (iZ th), .int (iZ ys), .int (iZ yr)])), (yw, .inl (k 1, 60, .inl ywf)), (y1, .inl (k 1, 60, .inl y1f)), (y2, .inl (k 1, 60, .inl y2f)), (y3, .inl (k 1, 60, .inl y3f)), (yp, .inl (k 1, 60, .inl ypf)), (hs, .inr (5, [.ref hN, .ref hf, .ref hg, .int (iZ n), .int (iZ ni), .int (iZ lw), .int (iZ we)])), (hN, .inl (k 2, 6, .inr (.inl nf)))] (fun u => some (.int (iZ u.1.1))) (fun u => ((0 ≤ u.1.2.1 ∧ u.1.2.1 ≤ 900) ∧ (0 ≤ u.1.2.2.1 ∧ u.1.2.2.1 ≤ 900) ∧ (0 ≤ u.1.2.2.2.1 ∧ u.1.2.2.2.1 ≤ u.1.2.2.2.2.1) ∧ (u.1.2.2.2.2.1 ≤ u.1.2.2.1) ∧ (0 ≤ u.1.2.2.2.2.2.1 ∧ u.1.2.2.2.2.2.1 ≤ 4) ∧ (-2147483648 ≤ u.1.2.2.2.2.2.2.1 ∧ u.1.2.2.2.2.2.2.1 < 2147483648) ∧ (-1 ≤ u.1.2.2.2.2.2.2.2.1 ∧ u.1.2.2.2.2.2.2.2.1 ≤ 24)) ∧ (((0 ≤ x1 ∧ x1 ≤ tp ∧ x1 ≤ 300) ∧ (u.1.2.1 : Int) = 0) ∨ (¬ (0 ≤ x1 ∧ x1 ≤ tp ∧ x1 ≤ 300) ∧ u.1.2.1 = tp)) ∧ ((u.1.2.2.2.2.2.2.2.2.2.2.2.2.2.2.2.1 = 0 ∨ u.1.2.2.2.2.2.2.2.2.2.2.2.2.2.2.2.1 = 1) ∧ (0 ≤ u.1.2.2.2.2.2.2.2.2.2.2.2.2.2.2.2.2.1 ∧ u.1.2.2.2.2.2.2.2.2.2.2.2.2.2.2.2.2.1 ≤ 30) ∧ (0 ≤ u.1.2.2.2.2.2.2.2.2.2.2.2.2.2.2.2.2.2 ∧ u.1.2.2.2.2.2.2.2.2.2.2.2.2.2.2.2.2.2 ≤ 60)) ∧ (YI u.2.2.1.2.2.2.2.2.2.1 u.2.2.1.2.2.2.2.2.2.2.1 u.2.2.1.2.2.2.2.2.2.2.2.2.1 u.2.2.1.2.2.2.2.2.2.2.2.2.2 n u.1.2.2.2.2.2.2.2.2.2.2.2.2.2.2.2.2.2)) (fun u => [(hx1, .inr (11, [.ref ta, .ref hw1, .ref hw12, .ref ka, .ref hr1, .ref hq, .ref hv, .ref h, .ref hn1, .ref hL, .ref li, .int (iZ ev), .int (iZ mk), .int (iZ u.1.2.2.2.2.2.2.2.2.2.2.1), .long up, .long lo])), (hv, .inr (10, [.ref hr1, .ref oo, .int (iZ u.1.2.2.2.2.2.2.2.2.2.2.2.1), u.2.2.2.2.1, u.2.2.2.2.2])), (oo, .inl (k 1, 3, .inl u.2.2.1.1)), (hr1, .inr (4, [.ref tx, .ref kw, .int (iZ u.1.2.1), .int (iZ u.1.2.2.1), .int (iZ u.1.2.2.2.1), .int (iZ u.1.2.2.2.2.1), .int (iZ u.1.2.2.2.2.2.1), .int (iZ u.1.2.2.2.2.2.2.1), .int (iZ u.1.2.2.2.2.2.2.2.1), .long u.2.1.2, .int (iZ u.1.2.2.2.2.2.2.2.2.1), .int (iZ u.1.2.2.2.2.2.2.2.2.2.1)])), (tx, .inl (k 0, 900, .inl bf)), (kw, .inl (k 2, 25, .inr (.inl kwf))), (hw12, .inr (8, [.ref hs2, .ref hc2, .ref hy2])), (hy2, .inr (9, [.ref yw2, .ref y12, .ref y22, .ref y32, .ref yp2, .int (iZ u.1.2.2.2.2.2.2.2.2.2.2.2.2.1), .int (iZ u.1.2.2.2.2.2.2.2.2.2.2.2.2.2.1), .int (iZ u.1.2.2.2.2.2.2.2.2.2.2.2.2.2.2.1)])), (yw2, .inl (k 1, 60, .inl u.2.2.1.2.1)), (y12, .inl (k 1, 60, .inl u.2.2.1.2.2.1)), (y22, .inl (k 1, 60, .inl u.2.2.1.2.2.2.1)), (y32, .inl (k 1, 60, .inl u.2.2.1.2.2.2.2.1)), (yp2, .inl (k 1, 60, .inl u.2.2.1.2.2.2.2.2.1)), (hw1, .inr (8, [.ref hs, .ref hc, .ref hy])), (hy, .inr (9, [.ref yw, .ref y1, .ref y2, .ref y3, .ref yp, .int (iZ u.1.2.2.2.2.2.2.2.2.2.2.2.2.2.2.2.1), .int (iZ u.1.2.2.2.2.2.2.2.2.2.2.2.2.2.2.2.2.1), .int (iZ u.1.2.2.2.2.2.2.2.2.2.2.2.2.2.2.2.2.2)])), (yw, .inl (k 1, 60, .inl u.2.2.1.2.2.2.2.2.2.1)), (y1, .inl (k 1, 60, .inl u.2.2.1.2.2.2.2.2.2.2.1)), (y2, .inl (k 1, 60, .inl u.2.2.1.2.2.2.2.2.2.2.2.1)), (y3, .inl (k 1, 60, .inl u.2.2.1.2.2.2.2.2.2.2.2.2.1)), (yp, .inl (k 1, 60, .inl u.2.2.1.2.2.2.2.2.2.2.2.2.2)), (hs, .inr (5, [.ref hN, .ref hf, .ref hg, .int (iZ n), .int (iZ ni), .int (iZ lw), .int (iZ we)])), (hN, .inl (k 2, 6, .inr (.inl nf)))]) := by
  refine MW (by decide) (Nat.le_of_ble_eq_true rfl) (fun p e s m below meth c ls A hx hb hml hr hlocks hin hts hown hKK hP hD hS hA hl => ?_)
  have hK := hKK.1
  have hl : lv_has ls 3 [(0, .ref hx1), (1, .int (iZ x1))] := hl
  refine lv_iload_n hx hb dX11_years_0 rfl (lv_at hl 1 rfl) ?_
  refine lv_aload_n hx hb dX11_years_1 rfl (lv_at hl 0 rfl) ?_
  refine va_get (D := D) (ci := 11) (v := .ref hr1) (C := RX11) (T := TX11) (N := 16) hx hb hts iX11 hown hK hP 0 rfl rfl 4 (bl rfl) (hts _ qf_X11_32) (fun _ h => h) rfl dX11_years_2 ?_
  refine va_get (D := D) (ci := 4) (v := .int (iZ tp)) (C := RX4) (T := TX4) (N := 12) hx hb hts iX4 hown hK hP 3 rfl rfl 2 (bl rfl) (hts _ qf_X11_149) (fun _ h => h) rfl dX11_years_5 ?_
  refine CPS (As := [.int (iZ x1), .int (iZ tp)]) (rest := []) hx hb hml hown hts hKK (hP.sub (ws' := []) [] rfl) (k_isWithin l D k x1 tp ⟨by omega, by omega⟩ ⟨by omega, by omega⟩) ci_X11_isWithin qm_X11_103 ⟨Nat.le_of_ble_eq_true rfl, Nat.le_of_ble_eq_true rfl⟩ ⟨Nat.le_of_ble_eq_true rfl, Nat.le_of_ble_eq_true rfl⟩ rfl hl.1 rfl (Nat.le_of_ble_eq_true rfl) dX11_years_8 (fun z_1 hz_1 => ?_)
  rcases hz_1 with ⟨qz_1, hz_1⟩ | ⟨qz_1, hz_1⟩
  ·
    subst qz_1
    refine lv_if_eq (tgt := 21) hx hb dX11_years_11 rfl (fun c => absurd c (by decide)) (fun _ => ?_)
    refine lv_iload_n hx hb dX11_years_14 rfl (lv_at hl 1 rfl) ?_
    refine lv_sipush (v := iZ 300) hx hb dX11_years_15 sip_300 ?_
    refine lv_icmp_le (tgt := 27) hx hb dX11_years_18 rfl (fun c_3 => ?_) (fun c_3 => ?_)
    ·
      have c_3 := (zle (x := iZ x1) (y := iZ 300) rfl rfl ⟨by omega, by omega⟩ wn_300).mp c_3
      refine lv_aload_n hx hb dX11_years_27 rfl (lv_at hl 0 rfl) ?_
      refine va_get (D := D) (ci := 11) (v := .ref hr1) (C := RX11) (T := TX11) (N := 16) hx hb hts iX11 hown hK hP 0 rfl rfl 4 (bl rfl) (hts _ qf_X11_32) (fun _ h => h) rfl dX11_years_28 ?_
      refine lv_iload_n hx hb dX11_years_31 rfl (lv_at hl 1 rfl) ?_
      refine CWV (As := [.int (iZ x1)]) (rest := []) (wc := _) (wr := [(hx1, .inr (11, [.ref ta, .ref hw1, .ref hw12, .ref ka, .ref hr1, .ref hq, .ref hv, .ref h, .ref hn1, .ref hL, .ref li, .int (iZ ev), .int (iZ mk), .int (iZ ou), .long up, .long lo])), (hv, .inr (10, [.ref hr1, .ref oo, .int (iZ de), sv, sv2])), (oo, .inl (k 1, 3, .inl of0)), (hw12, .inr (8, [.ref hs2, .ref hc2, .ref hy2])), (hy2, .inr (9, [.ref yw2, .ref y12, .ref y22, .ref y32, .ref yp2, .int (iZ th2), .int (iZ ys2), .int (iZ yr2)])), (yw2, .inl (k 1, 60, .inl ywf2)), (y12, .inl (k 1, 60, .inl y1f2)), (y22, .inl (k 1, 60, .inl y2f2)), (y32, .inl (k 1, 60, .inl y3f2)), (yp2, .inl (k 1, 60, .inl ypf2)), (hw1, .inr (8, [.ref hs, .ref hc, .ref hy])), (hy, .inr (9, [.ref yw, .ref y1, .ref y2, .ref y3, .ref yp, .int (iZ th), .int (iZ ys), .int (iZ yr)])), (yw, .inl (k 1, 60, .inl ywf)), (y1, .inl (k 1, 60, .inl y1f)), (y2, .inl (k 1, 60, .inl y2f)), (y3, .inl (k 1, 60, .inl y3f)), (yp, .inl (k 1, 60, .inl ypf)), (hs, .inr (5, [.ref hN, .ref hf, .ref hg, .int (iZ n), .int (iZ ni), .int (iZ lw), .int (iZ we)])), (hN, .inl (k 2, 6, .inr (.inl nf)))]) hx hb hml hown hts hKK hP hD hS hA (k_open l D k hr1 tx kw bf kwf tp ln pl en ki va ke fk fp nm ⟨by omega, by omega⟩ x1 ⟨by omega, by omega⟩) ci_X4_open qm_X11_156 ⟨Nat.le_of_ble_eq_true rfl, Nat.le_of_ble_eq_true rfl⟩ ⟨Nat.le_of_ble_eq_true rfl, Nat.le_of_ble_eq_true rfl⟩ [3, 4, 5] [0, 1, 2, 6, 7, 8, 9, 10, 11, 12, 13, 14, 15, 16, 17, 18, 19, 20, 21] rfl rfl rfl rfl rfl (dj rfl) 0 rfl rfl rfl hl.1 rfl (Nat.le_of_ble_eq_true rfl) dX11_years_32 (fun u_4 H locs hφ hP hD hS => ?_)
      obtain ⟨I_5, nm_6⟩ := u_4
      obtain ⟨ah_7, b1h_7, b2h_7, b3h_7, b4h_7, b5h_7, b6h_7, b7h_7⟩ := hφ
      dsimp only at ah_7 b1h_7 b2h_7 b3h_7 b4h_7 b5h_7 b6h_7 b7h_7
      refine W.eq (g2 := F0 m 35 ls []) rfl ?_
      refine lv_aload_n hx hb dX11_years_35 rfl (lv_at hl 0 rfl) ?_
      refine va_get (D := D) (ci := 11) (v := .ref hv) (C := RX11) (T := TX11) (N := 16) hx hb hts iX11 hown hK hP 0 rfl rfl 6 (bl rfl) (hts _ qf_X11_48) (fun _ h => h) rfl dX11_years_36 ?_
      refine lv_aload_n hx hb dX11_years_39 rfl (lv_at hl 0 rfl) ?_
      refine va_get (D := D) (ci := 11) (v := .ref hw12) (C := RX11) (T := TX11) (N := 16) hx hb hts iX11 hown hK hP 0 rfl rfl 2 (bl rfl) (hts _ qf_X11_22) (fun _ h => h) rfl dX11_years_40 ?_
      refine va_get (D := D) (ci := 8) (v := .ref hy2) (C := RX8) (T := TX8) (N := 3) hx hb hts iX8 hown hK hP 3 rfl rfl 2 (bl rfl) (hts _ qf_X11_177) (fun _ h => h) rfl dX11_years_43 ?_
      refine lv_aload_n hx hb dX11_years_46 rfl (lv_at hl 0 rfl) ?_
      refine va_get (D := D) (ci := 11) (v := .ref hw1) (C := RX11) (T := TX11) (N := 16) hx hb hts iX11 hown hK hP 0 rfl rfl 1 (bl rfl) (hts _ qf_X11_18) (fun _ h => h) rfl dX11_years_47 ?_
      refine va_get (D := D) (ci := 8) (v := .ref hs) (C := RX8) (T := TX8) (N := 3) hx hb hts iX8 hown hK hP 10 rfl rfl 0 (bl rfl) (hts _ qf_X11_54) (fun _ h => h) rfl dX11_years_50 ?_
      refine CWV (As := [.ref hy2, .ref hs]) (rest := []) (wc := _) (wr := [(hx1, .inr (11, [.ref ta, .ref hw1, .ref hw12, .ref ka, .ref hr1, .ref hq, .ref hv, .ref h, .ref hn1, .ref hL, .ref li, .int (iZ ev), .int (iZ mk), .int (iZ ou), .long up, .long lo])), (hw12, .inr (8, [.ref hs2, .ref hc2, .ref hy2])), (hw1, .inr (8, [.ref hs, .ref hc, .ref hy])), (hy, .inr (9, [.ref yw, .ref y1, .ref y2, .ref y3, .ref yp, .int (iZ th), .int (iZ ys), .int (iZ yr)])), (yw, .inl (k 1, 60, .inl ywf)), (y1, .inl (k 1, 60, .inl y1f)), (y2, .inl (k 1, 60, .inl y2f)), (y3, .inl (k 1, 60, .inl y3f)), (yp, .inl (k 1, 60, .inl ypf))]) hx hb hml hown hts hKK hP hD hS hA (k_yreadInto l D k hv oo hr1 tx kw hs hN hf hg de of0 (I_5 1) (I_5 2) (I_5 3) (I_5 4) (I_5 5) (I_5 6) (I_5 7) (I_5 8) (I_5 9) nm_6 bf kwf hy2 yw2 y12 y22 y32 yp2 th2 ys2 yr2 ywf2 y1f2 y2f2 y3f2 ypf2 n ni lw we nf sv sv2 (by first | with_reducible assumption | exact ⟨⟨by omega, by omega⟩, ⟨by omega, by omega⟩, ⟨by omega, by omega⟩, by omega, ⟨by omega, by omega⟩, ⟨by omega, by omega⟩, by omega, by omega⟩) ⟨by omega, by omega⟩) ci_X10_readInto qm_X11_181 ⟨Nat.le_of_ble_eq_true rfl, Nat.le_of_ble_eq_true rfl⟩ ⟨Nat.le_of_ble_eq_true rfl, Nat.le_of_ble_eq_true rfl⟩ [1, 2, 19, 20, 21, 4, 5, 6, 7, 8, 9, 17, 18] [0, 3, 10, 11, 12, 13, 14, 15, 16] rfl rfl rfl rfl rfl (dj rfl) 0 rfl rfl rfl hl.1 rfl (Nat.le_of_ble_eq_true rfl) dX11_years_53 (fun u_8 H locs hφ hP hD hS => ?_)
      obtain ⟨p_9, p_10, p_11, p_12, p_13⟩ : ((0 ≤ u_8.1.2.1 ∧ u_8.1.2.1 ≤ 900) ∧ (0 ≤ u_8.1.2.2.1 ∧ u_8.1.2.2.1 ≤ 900) ∧ (0 ≤ u_8.1.2.2.2.1 ∧ u_8.1.2.2.2.1 ≤ u_8.1.2.2.2.2.1) ∧ (u_8.1.2.2.2.2.1 ≤ u_8.1.2.2.1) ∧ (0 ≤ u_8.1.2.2.2.2.2.1 ∧ u_8.1.2.2.2.2.2.1 ≤ 4) ∧ (-2147483648 ≤ u_8.1.2.2.2.2.2.2.1 ∧ u_8.1.2.2.2.2.2.2.1 < 2147483648) ∧ (-1 ≤ u_8.1.2.2.2.2.2.2.2.1 ∧ u_8.1.2.2.2.2.2.2.2.1 ≤ 24)) ∧ (u_8.1.2.1 = (I_5 1)) ∧ (u_8.1.1 = 0 ∨ u_8.1.1 = 1) ∧ (u_8.1.2.2.2.2.2.2.2.2.2.2.1 = u_8.1.1) ∧ (u_8.1.1 = 1 → (0 ≤ u_8.1.2.2.2.2.2.2.2.2.2.2.2.2.1 ∧ u_8.1.2.2.2.2.2.2.2.2.2.2.2.2.1 ≤ 30) ∧ (0 ≤ u_8.1.2.2.2.2.2.2.2.2.2.2.2.2.2 ∧ u_8.1.2.2.2.2.2.2.2.2.2.2.2.2.2 ≤ 60) ∧ YI u_8.2.2.1.2.1 u_8.2.2.1.2.2.1 u_8.2.2.1.2.2.2.2.1 u_8.2.2.1.2.2.2.2.2 n u_8.1.2.2.2.2.2.2.2.2.2.2.2.2.2) := hφ
      refine W.eq (g2 := F0 m 56 ls [.int (iZ u_8.1.1)]) rfl ?_
      rcases (show (u_8.1.1 = 0) ∨ (u_8.1.1 = 1) from (by omega)) with s_14 | s_14
      ·
        rw [s_14]
        refine lv_istore_n (lv' := [(2, .int (iZ 0)), (0, .ref hx1), (1, .int (iZ x1))]) hx hb dX11_years_56 rfl hl (bl rfl) rfl (fun ls hl => ?_)
        refine lv_iload_n hx hb dX11_years_57 rfl (lv_at hl 0 rfl) ?_
        refine lv_if_ne (tgt := 68) hx hb dX11_years_58 rfl (fun c => absurd (by decide) c) (fun _ => ?_)
        refine lv_aload_n hx hb dX11_years_61 rfl (lv_at hl 1 rfl) ?_
        refine lv_bipush (v := iZ 9) hx hb dX11_years_62 bip_9 ?_
        refine CWV (As := [.int (iZ 9)]) (rest := []) (wc := _) (wr := [(hw12, .inr (8, [.ref hs2, .ref hc2, .ref hy2])), (hw1, .inr (8, [.ref hs, .ref hc, .ref hy])), (hy, .inr (9, [.ref yw, .ref y1, .ref y2, .ref y3, .ref yp, .int (iZ th), .int (iZ ys), .int (iZ yr)])), (yw, .inl (k 1, 60, .inl ywf)), (y1, .inl (k 1, 60, .inl y1f)), (y2, .inl (k 1, 60, .inl y2f)), (y3, .inl (k 1, 60, .inl y3f)), (yp, .inl (k 1, 60, .inl ypf)), (hv, .inr (10, [.ref hr1, .ref oo, .int (iZ u_8.1.2.2.2.2.2.2.2.2.2.2.2.1), .ref hy2, .ref hs])), (oo, .inl (k 1, 3, .inl u_8.2.2.1.1)), (hr1, .inr (4, [.ref tx, .ref kw, .int (iZ u_8.1.2.1), .int (iZ u_8.1.2.2.1), .int (iZ u_8.1.2.2.2.1), .int (iZ u_8.1.2.2.2.2.1), .int (iZ u_8.1.2.2.2.2.2.1), .int (iZ u_8.1.2.2.2.2.2.2.1), .int (iZ u_8.1.2.2.2.2.2.2.2.1), .long u_8.2.1.2, .int (iZ u_8.1.2.2.2.2.2.2.2.2.1), .int (iZ u_8.1.2.2.2.2.2.2.2.2.2.1)])), (tx, .inl (k 0, 900, .inl bf)), (kw, .inl (k 2, 25, .inr (.inl kwf))), (hy2, .inr (9, [.ref yw2, .ref y12, .ref y22, .ref y32, .ref yp2, .int (iZ u_8.1.2.2.2.2.2.2.2.2.2.2.1), .int (iZ u_8.1.2.2.2.2.2.2.2.2.2.2.2.2.1), .int (iZ u_8.1.2.2.2.2.2.2.2.2.2.2.2.2.2)])), (yw2, .inl (k 1, 60, .inl u_8.2.2.1.2.1)), (y12, .inl (k 1, 60, .inl u_8.2.2.1.2.2.1)), (y22, .inl (k 1, 60, .inl u_8.2.2.1.2.2.2.1)), (y32, .inl (k 1, 60, .inl u_8.2.2.1.2.2.2.2.1)), (yp2, .inl (k 1, 60, .inl u_8.2.2.1.2.2.2.2.2)), (hs, .inr (5, [.ref hN, .ref hf, .ref hg, .int (iZ n), .int (iZ ni), .int (iZ lw), .int (iZ we)])), (hN, .inl (k 2, 6, .inr (.inl nf)))]) hx hb hml hown hts hKK hP hD hS hA (k_refuse l D k hx1 ta hw1 hw12 ka hr1 hq hv h hn1 hL li ev mk ou up lo 9) ci_X11_refuse qm_X11_126 ⟨Nat.le_of_ble_eq_true rfl, Nat.le_of_ble_eq_true rfl⟩ ⟨Nat.le_of_ble_eq_true rfl, Nat.le_of_ble_eq_true rfl⟩ [0] [1, 2, 3, 4, 5, 6, 7, 8, 9, 10, 11, 12, 13, 14, 15, 16, 17, 18, 19, 20, 21] rfl rfl rfl rfl rfl (dj rfl) 0 rfl rfl rfl hl.1 rfl (Nat.le_of_ble_eq_true rfl) dX11_years_64 (fun u_16 H locs hφ hP hD hS => ?_)
        refine W.eq (g2 := F0 m 67 ls [.int (iZ (-1))]) rfl ?_
        exact EWi hx hb hr hlocks hS (((-1), u_8.1.2.1, u_8.1.2.2.1, u_8.1.2.2.2.1, u_8.1.2.2.2.2.1, u_8.1.2.2.2.2.2.1, u_8.1.2.2.2.2.2.2.1, u_8.1.2.2.2.2.2.2.2.1, u_8.1.2.2.2.2.2.2.2.2.1, u_8.1.2.2.2.2.2.2.2.2.2.1, 9, u_8.1.2.2.2.2.2.2.2.2.2.2.2.1, u_8.1.2.2.2.2.2.2.2.2.2.2.1, u_8.1.2.2.2.2.2.2.2.2.2.2.2.2.1, u_8.1.2.2.2.2.2.2.2.2.2.2.2.2.2, th, ys, yr), (0, u_8.2.1.2), (u_8.2.2.1.1, u_8.2.2.1.2.1, u_8.2.2.1.2.2.1, u_8.2.2.1.2.2.2.1, u_8.2.2.1.2.2.2.2.1, u_8.2.2.1.2.2.2.2.2, ywf, y1f, y2f, y3f, ypf), (), (.ref hy2, .ref hs)) rfl ⟨(show (0 ≤ u_8.1.2.1 ∧ u_8.1.2.1 ≤ 900) ∧ (0 ≤ u_8.1.2.2.1 ∧ u_8.1.2.2.1 ≤ 900) ∧ (0 ≤ u_8.1.2.2.2.1 ∧ u_8.1.2.2.2.1 ≤ u_8.1.2.2.2.2.1) ∧ (u_8.1.2.2.2.2.1 ≤ u_8.1.2.2.1) ∧ (0 ≤ u_8.1.2.2.2.2.2.1 ∧ u_8.1.2.2.2.2.2.1 ≤ 4) ∧ (-2147483648 ≤ u_8.1.2.2.2.2.2.2.1 ∧ u_8.1.2.2.2.2.2.2.1 < 2147483648) ∧ (-1 ≤ u_8.1.2.2.2.2.2.2.2.1 ∧ u_8.1.2.2.2.2.2.2.2.1 ≤ 24) from (by first | with_reducible assumption | exact ⟨⟨by omega, by omega⟩, ⟨by omega, by omega⟩, ⟨by omega, by omega⟩, by omega, ⟨by omega, by omega⟩, ⟨by omega, by omega⟩, by omega, by omega⟩)), (show ((0 ≤ x1 ∧ x1 ≤ tp ∧ x1 ≤ 300) ∧ (u_8.1.2.1 : Int) = 0) ∨ (¬ (0 ≤ x1 ∧ x1 ≤ tp ∧ x1 ≤ 300) ∧ u_8.1.2.1 = tp) from (by omega)), (show (th = 0 ∨ th = 1) ∧ (0 ≤ ys ∧ ys ≤ 30) ∧ (0 ≤ yr ∧ yr ≤ 60) from ⟨by omega, ⟨by omega, by omega⟩, ⟨by omega, by omega⟩⟩), (show YI ywf y1f y3f ypf n yr from hYI)⟩ (hP.sub [21, 8, 9, 10, 11, 12, 0, 13, 14, 15, 16, 17, 18, 1, 2, 3, 4, 5, 6, 7, 19, 20] rfl) (hD.sub [21, 8, 9, 10, 11, 12, 0, 13, 14, 15, 16, 17, 18, 1, 2, 3, 4, 5, 6, 7, 19, 20] rfl rfl) dX11_years_67
      ·
        rw [s_14]
        refine lv_istore_n (lv' := [(2, .int (iZ 1)), (0, .ref hx1), (1, .int (iZ x1))]) hx hb dX11_years_56 rfl hl (bl rfl) rfl (fun ls hl => ?_)
        refine lv_iload_n hx hb dX11_years_57 rfl (lv_at hl 0 rfl) ?_
        refine lv_if_ne (tgt := 68) hx hb dX11_years_58 rfl (fun _ => ?_) (fun c => absurd c (by decide))
        obtain ⟨hys9, hyr9, hYI9⟩ := p_13 (by omega)
        refine lv_aload_n hx hb dX11_years_68 rfl (lv_at hl 1 rfl) ?_
        refine va_get (D := D) (ci := 11) (v := .ref hw1) (C := RX11) (T := TX11) (N := 16) hx hb hts iX11 hown hK hP 0 rfl rfl 1 (bl rfl) (hts _ qf_X11_18) (fun _ h => h) rfl dX11_years_69 ?_
        refine va_get (D := D) (ci := 8) (v := .ref hy) (C := RX8) (T := TX8) (N := 3) hx hb hts iX8 hown hK hP 2 rfl rfl 2 (bl rfl) (hts _ qf_X11_177) (fun _ h => h) rfl dX11_years_72 ?_
        refine lv_aload_n hx hb dX11_years_75 rfl (lv_at hl 1 rfl) ?_
        refine va_get (D := D) (ci := 11) (v := .ref hw12) (C := RX11) (T := TX11) (N := 16) hx hb hts iX11 hown hK hP 0 rfl rfl 2 (bl rfl) (hts _ qf_X11_22) (fun _ h => h) rfl dX11_years_76 ?_
        refine va_get (D := D) (ci := 8) (v := .ref hy2) (C := RX8) (T := TX8) (N := 3) hx hb hts iX8 hown hK hP 1 rfl rfl 2 (bl rfl) (hts _ qf_X11_177) (fun _ h => h) rfl dX11_years_79 ?_
        refine CWV (As := [.ref hy2]) (rest := []) (wc := _) (wr := [(hx1, .inr (11, [.ref ta, .ref hw1, .ref hw12, .ref ka, .ref hr1, .ref hq, .ref hv, .ref h, .ref hn1, .ref hL, .ref li, .int (iZ ev), .int (iZ mk), .int (iZ ou), .long up, .long lo])), (hw12, .inr (8, [.ref hs2, .ref hc2, .ref hy2])), (hw1, .inr (8, [.ref hs, .ref hc, .ref hy])), (hv, .inr (10, [.ref hr1, .ref oo, .int (iZ u_8.1.2.2.2.2.2.2.2.2.2.2.2.1), .ref hy2, .ref hs])), (oo, .inl (k 1, 3, .inl u_8.2.2.1.1)), (hr1, .inr (4, [.ref tx, .ref kw, .int (iZ u_8.1.2.1), .int (iZ u_8.1.2.2.1), .int (iZ u_8.1.2.2.2.1), .int (iZ u_8.1.2.2.2.2.1), .int (iZ u_8.1.2.2.2.2.2.1), .int (iZ u_8.1.2.2.2.2.2.2.1), .int (iZ u_8.1.2.2.2.2.2.2.2.1), .long u_8.2.1.2, .int (iZ u_8.1.2.2.2.2.2.2.2.2.1), .int (iZ u_8.1.2.2.2.2.2.2.2.2.2.1)])), (tx, .inl (k 0, 900, .inl bf)), (kw, .inl (k 2, 25, .inr (.inl kwf))), (hs, .inr (5, [.ref hN, .ref hf, .ref hg, .int (iZ n), .int (iZ ni), .int (iZ lw), .int (iZ we)])), (hN, .inl (k 2, 6, .inr (.inl nf)))]) hx hb hml hown hts hKK hP hD hS hA (k_ycopy l D k hy yw y1 y2 y3 yp th ys yr ywf y1f y2f y3f ypf hy2 yw2 y12 y22 y32 yp2 u_8.1.2.2.2.2.2.2.2.2.2.2.1 u_8.1.2.2.2.2.2.2.2.2.2.2.2.2.1 u_8.1.2.2.2.2.2.2.2.2.2.2.2.2.2 u_8.2.2.1.2.1 u_8.2.2.1.2.2.1 u_8.2.2.1.2.2.2.1 u_8.2.2.1.2.2.2.2.1 u_8.2.2.1.2.2.2.2.2 (by omega) ⟨by omega, by omega⟩) ci_X9_copyFrom qm_X11_184 ⟨Nat.le_of_ble_eq_true rfl, Nat.le_of_ble_eq_true rfl⟩ ⟨Nat.le_of_ble_eq_true rfl, Nat.le_of_ble_eq_true rfl⟩ [3, 4, 5, 6, 7, 8, 14, 15, 16, 17, 18, 19] [0, 1, 2, 9, 10, 11, 12, 13, 20, 21] rfl rfl rfl rfl rfl (dj rfl) 0 rfl rfl rfl hl.1 rfl (Nat.le_of_ble_eq_true rfl) dX11_years_82 (fun u_18 H locs hφ hP hD hS => ?_)
        obtain ⟨p_19, p_20, p_21, p_22, p_23⟩ : (CPY u_18.2.2.1.1 u_8.2.2.1.2.1 u_8.1.2.2.2.2.2.2.2.2.2.2.2.2.2) ∧ (CPY u_18.2.2.1.2.1 u_8.2.2.1.2.2.1 u_8.1.2.2.2.2.2.2.2.2.2.2.2.2.2) ∧ (CPY u_18.2.2.1.2.2.1 u_8.2.2.1.2.2.2.1 u_8.1.2.2.2.2.2.2.2.2.2.2.2.2.2) ∧ (CPY u_18.2.2.1.2.2.2.1 u_8.2.2.1.2.2.2.2.1 u_8.1.2.2.2.2.2.2.2.2.2.2.2.2.2) ∧ (CPY u_18.2.2.1.2.2.2.2 u_8.2.2.1.2.2.2.2.2 u_8.1.2.2.2.2.2.2.2.2.2.2.2.2.2) := hφ
        refine W.eq (g2 := F0 m 85 ls []) rfl ?_
        refine lv_aload_n hx hb dX11_years_85 rfl (lv_at hl 1 rfl) ?_
        refine lv_aload_n hx hb dX11_years_86 rfl (lv_at hl 1 rfl) ?_
        refine va_get (D := D) (ci := 11) (v := .ref hw1) (C := RX11) (T := TX11) (N := 16) hx hb hts iX11 hown hK hP 0 rfl rfl 1 (bl rfl) (hts _ qf_X11_18) (fun _ h => h) rfl dX11_years_87 ?_
        refine va_get (D := D) (ci := 8) (v := .ref hy) (C := RX8) (T := TX8) (N := 3) hx hb hts iX8 hown hK hP 2 rfl rfl 2 (bl rfl) (hts _ qf_X11_177) (fun _ h => h) rfl dX11_years_90 ?_
        refine va_get (D := D) (ci := 9) (v := .int (iZ u_8.1.2.2.2.2.2.2.2.2.2.2.2.2.1)) (C := RX9) (T := TX9) (N := 8) hx hb hts iX9 hown hK hP 10 rfl rfl 6 (bl rfl) (hts _ qf_X11_190) (fun _ h => h) rfl dX11_years_93 ?_
        refine CWV (As := [.int (iZ u_8.1.2.2.2.2.2.2.2.2.2.2.2.2.1)]) (rest := []) (wc := _) (wr := [(hw12, .inr (8, [.ref hs2, .ref hc2, .ref hy2])), (hw1, .inr (8, [.ref hs, .ref hc, .ref hy])), (hv, .inr (10, [.ref hr1, .ref oo, .int (iZ u_8.1.2.2.2.2.2.2.2.2.2.2.2.1), .ref hy2, .ref hs])), (oo, .inl (k 1, 3, .inl u_8.2.2.1.1)), (hr1, .inr (4, [.ref tx, .ref kw, .int (iZ u_8.1.2.1), .int (iZ u_8.1.2.2.1), .int (iZ u_8.1.2.2.2.1), .int (iZ u_8.1.2.2.2.2.1), .int (iZ u_8.1.2.2.2.2.2.1), .int (iZ u_8.1.2.2.2.2.2.2.1), .int (iZ u_8.1.2.2.2.2.2.2.2.1), .long u_8.2.1.2, .int (iZ u_8.1.2.2.2.2.2.2.2.2.1), .int (iZ u_8.1.2.2.2.2.2.2.2.2.2.1)])), (tx, .inl (k 0, 900, .inl bf)), (kw, .inl (k 2, 25, .inr (.inl kwf))), (hs, .inr (5, [.ref hN, .ref hf, .ref hg, .int (iZ n), .int (iZ ni), .int (iZ lw), .int (iZ we)])), (hN, .inl (k 2, 6, .inr (.inl nf))), (hy, .inr (9, [.ref yw, .ref y1, .ref y2, .ref y3, .ref yp, .int (iZ u_8.1.2.2.2.2.2.2.2.2.2.2.1), .int (iZ u_8.1.2.2.2.2.2.2.2.2.2.2.2.2.1), .int (iZ u_8.1.2.2.2.2.2.2.2.2.2.2.2.2.2)])), (yw, .inl (k 1, 60, .inl u_18.2.2.1.1)), (y1, .inl (k 1, 60, .inl u_18.2.2.1.2.1)), (y2, .inl (k 1, 60, .inl u_18.2.2.1.2.2.1)), (y3, .inl (k 1, 60, .inl u_18.2.2.1.2.2.2.1)), (yp, .inl (k 1, 60, .inl u_18.2.2.1.2.2.2.2)), (hy2, .inr (9, [.ref yw2, .ref y12, .ref y22, .ref y32, .ref yp2, .int (iZ u_8.1.2.2.2.2.2.2.2.2.2.2.1), .int (iZ u_8.1.2.2.2.2.2.2.2.2.2.2.2.2.1), .int (iZ u_8.1.2.2.2.2.2.2.2.2.2.2.2.2.2)])), (yw2, .inl (k 1, 60, .inl u_8.2.2.1.2.1)), (y12, .inl (k 1, 60, .inl u_8.2.2.1.2.2.1)), (y22, .inl (k 1, 60, .inl u_8.2.2.1.2.2.2.1)), (y32, .inl (k 1, 60, .inl u_8.2.2.1.2.2.2.2.1)), (yp2, .inl (k 1, 60, .inl u_8.2.2.1.2.2.2.2.2))]) hx hb hml hown hts hKK hP hD hS hA (k_answer l D k hx1 ta hw1 hw12 ka hr1 hq hv h hn1 hL li ev mk ou up lo u_8.1.2.2.2.2.2.2.2.2.2.2.2.2.1) ci_X11_answer qm_X11_174 ⟨Nat.le_of_ble_eq_true rfl, Nat.le_of_ble_eq_true rfl⟩ ⟨Nat.le_of_ble_eq_true rfl, Nat.le_of_ble_eq_true rfl⟩ [0] [1, 2, 3, 4, 5, 6, 7, 8, 9, 10, 11, 12, 13, 14, 15, 16, 17, 18, 19, 20, 21] rfl rfl rfl rfl rfl (dj rfl) 0 rfl rfl rfl hl.1 rfl (Nat.le_of_ble_eq_true rfl) dX11_years_96 (fun u_24 H locs hφ hP hD hS => ?_)
        refine W.eq (g2 := F0 m 99 ls [.int (iZ u_8.1.2.2.2.2.2.2.2.2.2.2.2.2.1)]) rfl ?_
        exact EWi hx hb hr hlocks hS ((u_8.1.2.2.2.2.2.2.2.2.2.2.2.2.1, u_8.1.2.1, u_8.1.2.2.1, u_8.1.2.2.2.1, u_8.1.2.2.2.2.1, u_8.1.2.2.2.2.2.1, u_8.1.2.2.2.2.2.2.1, u_8.1.2.2.2.2.2.2.2.1, u_8.1.2.2.2.2.2.2.2.2.1, u_8.1.2.2.2.2.2.2.2.2.2.1, 0, u_8.1.2.2.2.2.2.2.2.2.2.2.2.1, u_8.1.2.2.2.2.2.2.2.2.2.2.1, u_8.1.2.2.2.2.2.2.2.2.2.2.2.2.1, u_8.1.2.2.2.2.2.2.2.2.2.2.2.2.2, u_8.1.2.2.2.2.2.2.2.2.2.2.1, u_8.1.2.2.2.2.2.2.2.2.2.2.2.2.1, u_8.1.2.2.2.2.2.2.2.2.2.2.2.2.2), (0, u_8.2.1.2), (u_8.2.2.1.1, u_8.2.2.1.2.1, u_8.2.2.1.2.2.1, u_8.2.2.1.2.2.2.1, u_8.2.2.1.2.2.2.2.1, u_8.2.2.1.2.2.2.2.2, u_18.2.2.1.1, u_18.2.2.1.2.1, u_18.2.2.1.2.2.1, u_18.2.2.1.2.2.2.1, u_18.2.2.1.2.2.2.2), (), (.ref hy2, .ref hs)) rfl ⟨(show (0 ≤ u_8.1.2.1 ∧ u_8.1.2.1 ≤ 900) ∧ (0 ≤ u_8.1.2.2.1 ∧ u_8.1.2.2.1 ≤ 900) ∧ (0 ≤ u_8.1.2.2.2.1 ∧ u_8.1.2.2.2.1 ≤ u_8.1.2.2.2.2.1) ∧ (u_8.1.2.2.2.2.1 ≤ u_8.1.2.2.1) ∧ (0 ≤ u_8.1.2.2.2.2.2.1 ∧ u_8.1.2.2.2.2.2.1 ≤ 4) ∧ (-2147483648 ≤ u_8.1.2.2.2.2.2.2.1 ∧ u_8.1.2.2.2.2.2.2.1 < 2147483648) ∧ (-1 ≤ u_8.1.2.2.2.2.2.2.2.1 ∧ u_8.1.2.2.2.2.2.2.2.1 ≤ 24) from (by first | with_reducible assumption | exact ⟨⟨by omega, by omega⟩, ⟨by omega, by omega⟩, ⟨by omega, by omega⟩, by omega, ⟨by omega, by omega⟩, ⟨by omega, by omega⟩, by omega, by omega⟩)), (show ((0 ≤ x1 ∧ x1 ≤ tp ∧ x1 ≤ 300) ∧ (u_8.1.2.1 : Int) = 0) ∨ (¬ (0 ≤ x1 ∧ x1 ≤ tp ∧ x1 ≤ 300) ∧ u_8.1.2.1 = tp) from (by omega)), (show (u_8.1.2.2.2.2.2.2.2.2.2.2.1 = 0 ∨ u_8.1.2.2.2.2.2.2.2.2.2.2.1 = 1) ∧ (0 ≤ u_8.1.2.2.2.2.2.2.2.2.2.2.2.2.1 ∧ u_8.1.2.2.2.2.2.2.2.2.2.2.2.2.1 ≤ 30) ∧ (0 ≤ u_8.1.2.2.2.2.2.2.2.2.2.2.2.2.2 ∧ u_8.1.2.2.2.2.2.2.2.2.2.2.2.2.2 ≤ 60) from ⟨by omega, ⟨by omega, by omega⟩, ⟨by omega, by omega⟩⟩), (show YI u_18.2.2.1.1 u_18.2.2.1.2.1 u_18.2.2.1.2.2.2.1 u_18.2.2.1.2.2.2.2 n u_8.1.2.2.2.2.2.2.2.2.2.2.2.2.2 from (CPY.yi p_19 p_20 p_22 p_23 hYI9))⟩ (hP.sub [21, 2, 3, 4, 5, 6, 0, 15, 16, 17, 18, 19, 20, 1, 9, 10, 11, 12, 13, 14, 7, 8] rfl) (hD.sub [21, 2, 3, 4, 5, 6, 0, 15, 16, 17, 18, 19, 20, 1, 9, 10, 11, 12, 13, 14, 7, 8] rfl rfl) dX11_years_99
    ·
      have c_3 := mt (zle (x := iZ x1) (y := iZ 300) rfl rfl ⟨by omega, by omega⟩ wn_300).mpr c_3
      refine lv_aload_n hx hb dX11_years_21 rfl (lv_at hl 0 rfl) ?_
      refine lv_iconst (v := iZ 1) hx hb dX11_years_22 rfl ?_
      refine CWV (As := [.int (iZ 1)]) (rest := []) (wc := _) (wr := [(hv, .inr (10, [.ref hr1, .ref oo, .int (iZ de), sv, sv2])), (oo, .inl (k 1, 3, .inl of0)), (hr1, .inr (4, [.ref tx, .ref kw, .int (iZ tp), .int (iZ ln), .int (iZ pl), .int (iZ en), .int (iZ ki), .int (iZ va), .int (iZ ke), .long nm, .int (iZ fk), .int (iZ fp)])), (tx, .inl (k 0, 900, .inl bf)), (kw, .inl (k 2, 25, .inr (.inl kwf))), (hw12, .inr (8, [.ref hs2, .ref hc2, .ref hy2])), (hy2, .inr (9, [.ref yw2, .ref y12, .ref y22, .ref y32, .ref yp2, .int (iZ th2), .int (iZ ys2), .int (iZ yr2)])), (yw2, .inl (k 1, 60, .inl ywf2)), (y12, .inl (k 1, 60, .inl y1f2)), (y22, .inl (k 1, 60, .inl y2f2)), (y32, .inl (k 1, 60, .inl y3f2)), (yp2, .inl (k 1, 60, .inl ypf2)), (hw1, .inr (8, [.ref hs, .ref hc, .ref hy])), (hy, .inr (9, [.ref yw, .ref y1, .ref y2, .ref y3, .ref yp, .int (iZ th), .int (iZ ys), .int (iZ yr)])), (yw, .inl (k 1, 60, .inl ywf)), (y1, .inl (k 1, 60, .inl y1f)), (y2, .inl (k 1, 60, .inl y2f)), (y3, .inl (k 1, 60, .inl y3f)), (yp, .inl (k 1, 60, .inl ypf)), (hs, .inr (5, [.ref hN, .ref hf, .ref hg, .int (iZ n), .int (iZ ni), .int (iZ lw), .int (iZ we)])), (hN, .inl (k 2, 6, .inr (.inl nf)))]) hx hb hml hown hts hKK hP hD hS hA (k_refuse l D k hx1 ta hw1 hw12 ka hr1 hq hv h hn1 hL li ev mk ou up lo 1) ci_X11_refuse qm_X11_126 ⟨Nat.le_of_ble_eq_true rfl, Nat.le_of_ble_eq_true rfl⟩ ⟨Nat.le_of_ble_eq_true rfl, Nat.le_of_ble_eq_true rfl⟩ [0] [1, 2, 3, 4, 5, 6, 7, 8, 9, 10, 11, 12, 13, 14, 15, 16, 17, 18, 19, 20, 21] rfl rfl rfl rfl rfl (dj rfl) 0 rfl rfl rfl hl.1 rfl (Nat.le_of_ble_eq_true rfl) dX11_years_23 (fun u_25 H locs hφ hP hD hS => ?_)
      refine W.eq (g2 := F0 m 26 ls [.int (iZ (-1))]) rfl ?_
      exact EWi hx hb hr hlocks hS (((-1), tp, ln, pl, en, ki, va, ke, fk, fp, 1, de, th2, ys2, yr2, th, ys, yr), (0, nm), (of0, ywf2, y1f2, y2f2, y3f2, ypf2, ywf, y1f, y2f, y3f, ypf), (), (sv, sv2)) rfl ⟨(show (0 ≤ tp ∧ tp ≤ 900) ∧ (0 ≤ ln ∧ ln ≤ 900) ∧ (0 ≤ pl ∧ pl ≤ en) ∧ (en ≤ ln) ∧ (0 ≤ ki ∧ ki ≤ 4) ∧ (-2147483648 ≤ va ∧ va < 2147483648) ∧ (-1 ≤ ke ∧ ke ≤ 24) from (by first | with_reducible assumption | exact ⟨⟨by omega, by omega⟩, ⟨by omega, by omega⟩, ⟨by omega, by omega⟩, by omega, ⟨by omega, by omega⟩, ⟨by omega, by omega⟩, by omega, by omega⟩)), (show ((0 ≤ x1 ∧ x1 ≤ tp ∧ x1 ≤ 300) ∧ (tp : Int) = 0) ∨ (¬ (0 ≤ x1 ∧ x1 ≤ tp ∧ x1 ≤ 300) ∧ tp = tp) from (by omega)), (show (th = 0 ∨ th = 1) ∧ (0 ≤ ys ∧ ys ≤ 30) ∧ (0 ≤ yr ∧ yr ≤ 60) from ⟨by omega, ⟨by omega, by omega⟩, ⟨by omega, by omega⟩⟩), (show YI ywf y1f y3f ypf n yr from hYI)⟩ (hP.sub [21, 0, 1, 2, 3, 4, 5, 6, 7, 8, 9, 10, 11, 12, 13, 14, 15, 16, 17, 18, 19, 20] rfl) (hD.sub [21, 0, 1, 2, 3, 4, 5, 6, 7, 8, 9, 10, 11, 12, 13, 14, 15, 16, 17, 18, 19, 20] rfl rfl) dX11_years_26
  ·
    subst qz_1
    refine lv_if_eq (tgt := 21) hx hb dX11_years_11 rfl (fun _ => ?_) (fun c => absurd (by decide) c)
    refine lv_aload_n hx hb dX11_years_21 rfl (lv_at hl 0 rfl) ?_
    refine lv_iconst (v := iZ 1) hx hb dX11_years_22 rfl ?_
    refine CWV (As := [.int (iZ 1)]) (rest := []) (wc := _) (wr := [(hv, .inr (10, [.ref hr1, .ref oo, .int (iZ de), sv, sv2])), (oo, .inl (k 1, 3, .inl of0)), (hr1, .inr (4, [.ref tx, .ref kw, .int (iZ tp), .int (iZ ln), .int (iZ pl), .int (iZ en), .int (iZ ki), .int (iZ va), .int (iZ ke), .long nm, .int (iZ fk), .int (iZ fp)])), (tx, .inl (k 0, 900, .inl bf)), (kw, .inl (k 2, 25, .inr (.inl kwf))), (hw12, .inr (8, [.ref hs2, .ref hc2, .ref hy2])), (hy2, .inr (9, [.ref yw2, .ref y12, .ref y22, .ref y32, .ref yp2, .int (iZ th2), .int (iZ ys2), .int (iZ yr2)])), (yw2, .inl (k 1, 60, .inl ywf2)), (y12, .inl (k 1, 60, .inl y1f2)), (y22, .inl (k 1, 60, .inl y2f2)), (y32, .inl (k 1, 60, .inl y3f2)), (yp2, .inl (k 1, 60, .inl ypf2)), (hw1, .inr (8, [.ref hs, .ref hc, .ref hy])), (hy, .inr (9, [.ref yw, .ref y1, .ref y2, .ref y3, .ref yp, .int (iZ th), .int (iZ ys), .int (iZ yr)])), (yw, .inl (k 1, 60, .inl ywf)), (y1, .inl (k 1, 60, .inl y1f)), (y2, .inl (k 1, 60, .inl y2f)), (y3, .inl (k 1, 60, .inl y3f)), (yp, .inl (k 1, 60, .inl ypf)), (hs, .inr (5, [.ref hN, .ref hf, .ref hg, .int (iZ n), .int (iZ ni), .int (iZ lw), .int (iZ we)])), (hN, .inl (k 2, 6, .inr (.inl nf)))]) hx hb hml hown hts hKK hP hD hS hA (k_refuse l D k hx1 ta hw1 hw12 ka hr1 hq hv h hn1 hL li ev mk ou up lo 1) ci_X11_refuse qm_X11_126 ⟨Nat.le_of_ble_eq_true rfl, Nat.le_of_ble_eq_true rfl⟩ ⟨Nat.le_of_ble_eq_true rfl, Nat.le_of_ble_eq_true rfl⟩ [0] [1, 2, 3, 4, 5, 6, 7, 8, 9, 10, 11, 12, 13, 14, 15, 16, 17, 18, 19, 20, 21] rfl rfl rfl rfl rfl (dj rfl) 0 rfl rfl rfl hl.1 rfl (Nat.le_of_ble_eq_true rfl) dX11_years_23 (fun u_27 H locs hφ hP hD hS => ?_)
    refine W.eq (g2 := F0 m 26 ls [.int (iZ (-1))]) rfl ?_
    exact EWi hx hb hr hlocks hS (((-1), tp, ln, pl, en, ki, va, ke, fk, fp, 1, de, th2, ys2, yr2, th, ys, yr), (0, nm), (of0, ywf2, y1f2, y2f2, y3f2, ypf2, ywf, y1f, y2f, y3f, ypf), (), (sv, sv2)) rfl ⟨(show (0 ≤ tp ∧ tp ≤ 900) ∧ (0 ≤ ln ∧ ln ≤ 900) ∧ (0 ≤ pl ∧ pl ≤ en) ∧ (en ≤ ln) ∧ (0 ≤ ki ∧ ki ≤ 4) ∧ (-2147483648 ≤ va ∧ va < 2147483648) ∧ (-1 ≤ ke ∧ ke ≤ 24) from (by first | with_reducible assumption | exact ⟨⟨by omega, by omega⟩, ⟨by omega, by omega⟩, ⟨by omega, by omega⟩, by omega, ⟨by omega, by omega⟩, ⟨by omega, by omega⟩, by omega, by omega⟩)), (show ((0 ≤ x1 ∧ x1 ≤ tp ∧ x1 ≤ 300) ∧ (tp : Int) = 0) ∨ (¬ (0 ≤ x1 ∧ x1 ≤ tp ∧ x1 ≤ 300) ∧ tp = tp) from (by omega)), (show (th = 0 ∨ th = 1) ∧ (0 ≤ ys ∧ ys ≤ 30) ∧ (0 ≤ yr ∧ yr ≤ 60) from ⟨by omega, ⟨by omega, by omega⟩, ⟨by omega, by omega⟩⟩), (show YI ywf y1f y3f ypf n yr from hYI)⟩ (hP.sub [21, 0, 1, 2, 3, 4, 5, 6, 7, 8, 9, 10, 11, 12, 13, 14, 15, 16, 17, 18, 19, 20] rfl) (hD.sub [21, 0, 1, 2, 3, 4, 5, 6, 7, 8, 9, 10, 11, 12, 13, 14, 15, 16, 17, 18, 19, 20] rfl rfl) dX11_years_26
end
