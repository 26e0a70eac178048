section
theorem qc_X5_heading : Cond.code yX5_heading cX5_heading 5 (some .int) ∈ gw := tbt (tb4 (List.mem_of_getElem? (i := 48) rfl)) rfl
theorem qi_yX5_heading : Cond.instanceMethod yX5_heading ∈ gw := tbt (tb4 (List.mem_of_getElem? (i := 46) rfl)) rfl
theorem qs_X5_heading : Cond.selects (yX5_heading).cls yX5_heading yX5_heading ∈ gw := tbt (tb4 (List.mem_of_getElem? (i := 47) rfl)) rfl
theorem qz_X5 : Cond.initialized RX5 ∈ gw := tbt (tb1 (List.mem_of_getElem? (i := 3) rfl)) rfl
theorem ci_X5_heading : CIv yX5_heading cX5_heading 5 (some .int) 2 := ⟨qc_X5_heading, qi_yX5_heading, qs_X5_heading, qz_X5, by decide +kernel⟩
theorem qm_X5_47 : Cond.methodLink RX5 47 yX5_heading ∈ gw := tbt (tb4 (List.mem_of_getElem? (i := 57) rfl)) rfl
theorem qc_X5_apart : Cond.code yX5_apart cX5_apart 12 (some .int) ∈ gw := tbt (tb4 (List.mem_of_getElem? (i := 61) rfl)) rfl
theorem qi_yX5_apart : Cond.instanceMethod yX5_apart ∈ gw := tbt (tb4 (List.mem_of_getElem? (i := 59) rfl)) rfl
theorem qs_X5_apart : Cond.selects (yX5_apart).cls yX5_apart yX5_apart ∈ gw := tbt (tb4 (List.mem_of_getElem? (i := 60) rfl)) rfl
theorem ci_X5_apart : CIv yX5_apart cX5_apart 12 (some .int) 4 := ⟨qc_X5_apart, qi_yX5_apart, qs_X5_apart, qz_X5, by decide +kernel⟩
theorem qm_X5_51 : Cond.methodLink RX5 51 yX5_apart ∈ gw := tbt (tb4 (List.mem_of_getElem? (i := 58) rfl)) rfl
theorem qc_X5_landing : Cond.code yX5_landing cX5_landing 7 (some .int) ∈ gw := tbt (tb4 (List.mem_of_getElem? (i := 103) rfl)) rfl
theorem qi_yX5_landing : Cond.instanceMethod yX5_landing ∈ gw := tbt (tb4 (List.mem_of_getElem? (i := 101) rfl)) rfl
theorem qs_X5_landing : Cond.selects (yX5_landing).cls yX5_landing yX5_landing ∈ gw := tbt (tb4 (List.mem_of_getElem? (i := 102) rfl)) rfl
theorem ci_X5_landing : CIv yX5_landing cX5_landing 7 (some .int) 3 := ⟨qc_X5_landing, qi_yX5_landing, qs_X5_landing, qz_X5, by decide +kernel⟩
theorem qm_X5_55 : Cond.methodLink RX5 55 yX5_landing ∈ gw := tbt (tb5 (List.mem_of_getElem? (i := 135) rfl)) rfl
theorem qc_X5_priceIn : Cond.code yX5_priceIn cX5_priceIn 3 (some .int) ∈ gw := tbt (tb5 (List.mem_of_getElem? (i := 122) rfl)) rfl
theorem qi_yX5_priceIn : Cond.instanceMethod yX5_priceIn ∈ gw := tbt (tb5 (List.mem_of_getElem? (i := 120) rfl)) rfl
theorem qs_X5_priceIn : Cond.selects (yX5_priceIn).cls yX5_priceIn yX5_priceIn ∈ gw := tbt (tb5 (List.mem_of_getElem? (i := 121) rfl)) rfl
theorem ci_X5_priceIn : CIv yX5_priceIn cX5_priceIn 3 (some .int) 2 := ⟨qc_X5_priceIn, qi_yX5_priceIn, qs_X5_priceIn, qz_X5, by decide +kernel⟩
theorem qm_X5_59 : Cond.methodLink RX5 59 yX5_priceIn ∈ gw := tbt (tb5 (List.mem_of_getElem? (i := 136) rfl)) rfl
theorem qf_X5_26 : Cond.fieldLink RX5 26 "SlowWorlds$Sky" "ices" "I" ∈ gw := tbt (tb1 (List.mem_of_getElem? (i := 57) rfl)) rfl
theorem qf_X5_19 : Cond.fieldLink RX5 19 "SlowWorlds$Sky" "iceFacts" "[I" ∈ gw := tbt (tb1 (List.mem_of_getElem? (i := 48) rfl)) rfl
theorem qf_X5_22 : Cond.fieldLink RX5 22 "SlowWorlds$Sky" "rocks" "I" ∈ gw := tbt (tb1 (List.mem_of_getElem? (i := 51) rfl)) rfl
theorem qf_X5_9 : Cond.fieldLink RX5 9 "SlowWorlds$Sky" "names" "[J" ∈ gw := tbt (tb1 (List.mem_of_getElem? (i := 44) rfl)) rfl
def fb_X5_fact_0 : List UInt8 := [0x2a, 0xb4, 0x00, 0x0f, 0x1b, 0x10, 0x06, 0x68, 0x1c, 0x60, 0x2e, 0xac]
theorem fl_X5_fact_0 {p j : Nat} {b : UInt8} (e : p = 0 + j) (h : fb_X5_fact_0[j]? = some b) : cX5_fact.data.toList[p]? = some b := fq_l (n := 64) (show (cX5_fact.data.toList.drop 0).take 64 = fb_X5_fact_0 by decide +kernel) e h
theorem dX5_fact_0 : decode cX5_fact 0 = .ok (.aload_n 0, 1) := fq1_42 (fl_X5_fact_0 (j := 0) rfl rfl)
theorem dX5_fact_1 : decode cX5_fact 1 = .ok (.getfield 15, 3) := fq3_180 (fl_X5_fact_0 (j := 1) rfl rfl) (fl_X5_fact_0 (j := 2) rfl rfl) (fl_X5_fact_0 (j := 3) rfl rfl) rfl
theorem dX5_fact_4 : decode cX5_fact 4 = .ok (.iload_n 1, 1) := fq1_27 (fl_X5_fact_0 (j := 4) rfl rfl)
theorem dX5_fact_5 : decode cX5_fact 5 = .ok (.bipush 6, 2) := fq2_16 (fl_X5_fact_0 (j := 5) rfl rfl) (fl_X5_fact_0 (j := 6) rfl rfl) (s1p rfl (bl rfl))
theorem dX5_fact_7 : decode cX5_fact 7 = .ok (.imul, 1) := fq1_104 (fl_X5_fact_0 (j := 7) rfl rfl)
theorem dX5_fact_8 : decode cX5_fact 8 = .ok (.iload_n 2, 1) := fq1_28 (fl_X5_fact_0 (j := 8) rfl rfl)
theorem dX5_fact_9 : decode cX5_fact 9 = .ok (.iadd, 1) := fq1_96 (fl_X5_fact_0 (j := 9) rfl rfl)
theorem dX5_fact_10 : decode cX5_fact 10 = .ok (.iaload, 1) := fq1_46 (fl_X5_fact_0 (j := 10) rfl rfl)
theorem dX5_fact_11 : decode cX5_fact 11 = .ok (.ireturn, 1) := fq1_172 (fl_X5_fact_0 (j := 11) rfl rfl)
def fb_X5_gainOf_0 : List UInt8 := [0x2a, 0x1d, 0x2a, 0x1b, 0x1c, 0x1d, 0xb6, 0x00, 0x37, 0xb6, 0x00, 0x3b, 0x2a, 0x1b, 0x1c, 0xb6, 0x00, 0x3b, 0x64, 0xac]
theorem fl_X5_gainOf_0 {p j : Nat} {b : UInt8} (e : p = 0 + j) (h : fb_X5_gainOf_0[j]? = some b) : cX5_gainOf.data.toList[p]? = some b := fq_l (n := 64) (show (cX5_gainOf.data.toList.drop 0).take 64 = fb_X5_gainOf_0 by decide +kernel) e h
theorem dX5_gainOf_0 : decode cX5_gainOf 0 = .ok (.aload_n 0, 1) := fq1_42 (fl_X5_gainOf_0 (j := 0) rfl rfl)
theorem dX5_gainOf_1 : decode cX5_gainOf 1 = .ok (.iload_n 3, 1) := fq1_29 (fl_X5_gainOf_0 (j := 1) rfl rfl)
theorem dX5_gainOf_2 : decode cX5_gainOf 2 = .ok (.aload_n 0, 1) := fq1_42 (fl_X5_gainOf_0 (j := 2) rfl rfl)
theorem dX5_gainOf_3 : decode cX5_gainOf 3 = .ok (.iload_n 1, 1) := fq1_27 (fl_X5_gainOf_0 (j := 3) rfl rfl)
theorem dX5_gainOf_4 : decode cX5_gainOf 4 = .ok (.iload_n 2, 1) := fq1_28 (fl_X5_gainOf_0 (j := 4) rfl rfl)
theorem dX5_gainOf_5 : decode cX5_gainOf 5 = .ok (.iload_n 3, 1) := fq1_29 (fl_X5_gainOf_0 (j := 5) rfl rfl)
theorem dX5_gainOf_6 : decode cX5_gainOf 6 = .ok (.invokevirtual 55, 3) := fq3_182 (fl_X5_gainOf_0 (j := 6) rfl rfl) (fl_X5_gainOf_0 (j := 7) rfl rfl) (fl_X5_gainOf_0 (j := 8) rfl rfl) rfl
theorem dX5_gainOf_9 : decode cX5_gainOf 9 = .ok (.invokevirtual 59, 3) := fq3_182 (fl_X5_gainOf_0 (j := 9) rfl rfl) (fl_X5_gainOf_0 (j := 10) rfl rfl) (fl_X5_gainOf_0 (j := 11) rfl rfl) rfl
theorem dX5_gainOf_12 : decode cX5_gainOf 12 = .ok (.aload_n 0, 1) := fq1_42 (fl_X5_gainOf_0 (j := 12) rfl rfl)
theorem dX5_gainOf_13 : decode cX5_gainOf 13 = .ok (.iload_n 1, 1) := fq1_27 (fl_X5_gainOf_0 (j := 13) rfl rfl)
theorem dX5_gainOf_14 : decode cX5_gainOf 14 = .ok (.iload_n 2, 1) := fq1_28 (fl_X5_gainOf_0 (j := 14) rfl rfl)
theorem dX5_gainOf_15 : decode cX5_gainOf 15 = .ok (.invokevirtual 59, 3) := fq3_182 (fl_X5_gainOf_0 (j := 15) rfl rfl) (fl_X5_gainOf_0 (j := 16) rfl rfl) (fl_X5_gainOf_0 (j := 17) rfl rfl) rfl
theorem dX5_gainOf_18 : decode cX5_gainOf 18 = .ok (.isub, 1) := fq1_100 (fl_X5_gainOf_0 (j := 18) rfl rfl)
theorem dX5_gainOf_19 : decode cX5_gainOf 19 = .ok (.ireturn, 1) := fq1_172 (fl_X5_gainOf_0 (j := 19) rfl rfl)
def fb_X5_hasIce_0 : List UInt8 := [0x03, 0x36, 0x04, 0x15, 0x04, 0x2a, 0xb4, 0x00, 0x1a, 0xa2, 0x00, 0x65, 0x15, 0x04, 0x07, 0x68, 0x36, 0x05, 0x2a, 0xb4, 0x00, 0x13, 0x15, 0x05, 0x03, 0x60, 0x2e, 0x36, 0x06, 0x2a, 0xb4, 0x00, 0x13, 0x15, 0x05, 0x04, 0x60, 0x2e, 0x36, 0x07, 0x15, 0x06, 0x1b, 0xa0, 0x00, 0x09, 0x15, 0x07, 0x1c, 0x9f, 0x00, 0x0f, 0x15, 0x06, 0x1c, 0xa0, 0x00, 0x0d, 0x15, 0x07, 0x1b, 0xa0, 0x00, 0x07]
theorem fl_X5_hasIce_0 {p j : Nat} {b : UInt8} (e : p = 0 + j) (h : fb_X5_hasIce_0[j]? = some b) : cX5_hasIce.data.toList[p]? = some b := fq_l (n := 64) (show (cX5_hasIce.data.toList.drop 0).take 64 = fb_X5_hasIce_0 by decide +kernel) e h
theorem dX5_hasIce_0 : decode cX5_hasIce 0 = .ok (.iconst 0, 1) := fq1_3 (fl_X5_hasIce_0 (j := 0) rfl rfl)
theorem dX5_hasIce_1 : decode cX5_hasIce 1 = .ok (.istore 4, 2) := fq2_54 (fl_X5_hasIce_0 (j := 1) rfl rfl) (fl_X5_hasIce_0 (j := 2) rfl rfl) rfl
theorem dX5_hasIce_3 : decode cX5_hasIce 3 = .ok (.iload 4, 2) := fq2_21 (fl_X5_hasIce_0 (j := 3) rfl rfl) (fl_X5_hasIce_0 (j := 4) rfl rfl) rfl
theorem dX5_hasIce_5 : decode cX5_hasIce 5 = .ok (.aload_n 0, 1) := fq1_42 (fl_X5_hasIce_0 (j := 5) rfl rfl)
theorem dX5_hasIce_6 : decode cX5_hasIce 6 = .ok (.getfield 26, 3) := fq3_180 (fl_X5_hasIce_0 (j := 6) rfl rfl) (fl_X5_hasIce_0 (j := 7) rfl rfl) (fl_X5_hasIce_0 (j := 8) rfl rfl) rfl
theorem dX5_hasIce_9 : decode cX5_hasIce 9 = .ok (.if_icmp .ge 101, 3) := fq3_162 (fl_X5_hasIce_0 (j := 9) rfl rfl) (fl_X5_hasIce_0 (j := 10) rfl rfl) (fl_X5_hasIce_0 (j := 11) rfl rfl) (s2p rfl (bl rfl))
theorem dX5_hasIce_12 : decode cX5_hasIce 12 = .ok (.iload 4, 2) := fq2_21 (fl_X5_hasIce_0 (j := 12) rfl rfl) (fl_X5_hasIce_0 (j := 13) rfl rfl) rfl
theorem dX5_hasIce_14 : decode cX5_hasIce 14 = .ok (.iconst 4, 1) := fq1_7 (fl_X5_hasIce_0 (j := 14) rfl rfl)
theorem dX5_hasIce_15 : decode cX5_hasIce 15 = .ok (.imul, 1) := fq1_104 (fl_X5_hasIce_0 (j := 15) rfl rfl)
theorem dX5_hasIce_16 : decode cX5_hasIce 16 = .ok (.istore 5, 2) := fq2_54 (fl_X5_hasIce_0 (j := 16) rfl rfl) (fl_X5_hasIce_0 (j := 17) rfl rfl) rfl
theorem dX5_hasIce_18 : decode cX5_hasIce 18 = .ok (.aload_n 0, 1) := fq1_42 (fl_X5_hasIce_0 (j := 18) rfl rfl)
theorem dX5_hasIce_19 : decode cX5_hasIce 19 = .ok (.getfield 19, 3) := fq3_180 (fl_X5_hasIce_0 (j := 19) rfl rfl) (fl_X5_hasIce_0 (j := 20) rfl rfl) (fl_X5_hasIce_0 (j := 21) rfl rfl) rfl
theorem dX5_hasIce_22 : decode cX5_hasIce 22 = .ok (.iload 5, 2) := fq2_21 (fl_X5_hasIce_0 (j := 22) rfl rfl) (fl_X5_hasIce_0 (j := 23) rfl rfl) rfl
theorem dX5_hasIce_24 : decode cX5_hasIce 24 = .ok (.iconst 0, 1) := fq1_3 (fl_X5_hasIce_0 (j := 24) rfl rfl)
theorem dX5_hasIce_25 : decode cX5_hasIce 25 = .ok (.iadd, 1) := fq1_96 (fl_X5_hasIce_0 (j := 25) rfl rfl)
theorem dX5_hasIce_26 : decode cX5_hasIce 26 = .ok (.iaload, 1) := fq1_46 (fl_X5_hasIce_0 (j := 26) rfl rfl)
theorem dX5_hasIce_27 : decode cX5_hasIce 27 = .ok (.istore 6, 2) := fq2_54 (fl_X5_hasIce_0 (j := 27) rfl rfl) (fl_X5_hasIce_0 (j := 28) rfl rfl) rfl
theorem dX5_hasIce_29 : decode cX5_hasIce 29 = .ok (.aload_n 0, 1) := fq1_42 (fl_X5_hasIce_0 (j := 29) rfl rfl)
theorem dX5_hasIce_30 : decode cX5_hasIce 30 = .ok (.getfield 19, 3) := fq3_180 (fl_X5_hasIce_0 (j := 30) rfl rfl) (fl_X5_hasIce_0 (j := 31) rfl rfl) (fl_X5_hasIce_0 (j := 32) rfl rfl) rfl
theorem dX5_hasIce_33 : decode cX5_hasIce 33 = .ok (.iload 5, 2) := fq2_21 (fl_X5_hasIce_0 (j := 33) rfl rfl) (fl_X5_hasIce_0 (j := 34) rfl rfl) rfl
theorem dX5_hasIce_35 : decode cX5_hasIce 35 = .ok (.iconst 1, 1) := fq1_4 (fl_X5_hasIce_0 (j := 35) rfl rfl)
theorem dX5_hasIce_36 : decode cX5_hasIce 36 = .ok (.iadd, 1) := fq1_96 (fl_X5_hasIce_0 (j := 36) rfl rfl)
theorem dX5_hasIce_37 : decode cX5_hasIce 37 = .ok (.iaload, 1) := fq1_46 (fl_X5_hasIce_0 (j := 37) rfl rfl)
theorem dX5_hasIce_38 : decode cX5_hasIce 38 = .ok (.istore 7, 2) := fq2_54 (fl_X5_hasIce_0 (j := 38) rfl rfl) (fl_X5_hasIce_0 (j := 39) rfl rfl) rfl
theorem dX5_hasIce_40 : decode cX5_hasIce 40 = .ok (.iload 6, 2) := fq2_21 (fl_X5_hasIce_0 (j := 40) rfl rfl) (fl_X5_hasIce_0 (j := 41) rfl rfl) rfl
theorem dX5_hasIce_42 : decode cX5_hasIce 42 = .ok (.iload_n 1, 1) := fq1_27 (fl_X5_hasIce_0 (j := 42) rfl rfl)
theorem dX5_hasIce_43 : decode cX5_hasIce 43 = .ok (.if_icmp .ne 9, 3) := fq3_160 (fl_X5_hasIce_0 (j := 43) rfl rfl) (fl_X5_hasIce_0 (j := 44) rfl rfl) (fl_X5_hasIce_0 (j := 45) rfl rfl) (s2p rfl (bl rfl))
theorem dX5_hasIce_46 : decode cX5_hasIce 46 = .ok (.iload 7, 2) := fq2_21 (fl_X5_hasIce_0 (j := 46) rfl rfl) (fl_X5_hasIce_0 (j := 47) rfl rfl) rfl
theorem dX5_hasIce_48 : decode cX5_hasIce 48 = .ok (.iload_n 2, 1) := fq1_28 (fl_X5_hasIce_0 (j := 48) rfl rfl)
theorem dX5_hasIce_49 : decode cX5_hasIce 49 = .ok (.if_icmp .eq 15, 3) := fq3_159 (fl_X5_hasIce_0 (j := 49) rfl rfl) (fl_X5_hasIce_0 (j := 50) rfl rfl) (fl_X5_hasIce_0 (j := 51) rfl rfl) (s2p rfl (bl rfl))
theorem dX5_hasIce_52 : decode cX5_hasIce 52 = .ok (.iload 6, 2) := fq2_21 (fl_X5_hasIce_0 (j := 52) rfl rfl) (fl_X5_hasIce_0 (j := 53) rfl rfl) rfl
theorem dX5_hasIce_54 : decode cX5_hasIce 54 = .ok (.iload_n 2, 1) := fq1_28 (fl_X5_hasIce_0 (j := 54) rfl rfl)
theorem dX5_hasIce_55 : decode cX5_hasIce 55 = .ok (.if_icmp .ne 13, 3) := fq3_160 (fl_X5_hasIce_0 (j := 55) rfl rfl) (fl_X5_hasIce_0 (j := 56) rfl rfl) (fl_X5_hasIce_0 (j := 57) rfl rfl) (s2p rfl (bl rfl))
theorem dX5_hasIce_58 : decode cX5_hasIce 58 = .ok (.iload 7, 2) := fq2_21 (fl_X5_hasIce_0 (j := 58) rfl rfl) (fl_X5_hasIce_0 (j := 59) rfl rfl) rfl
theorem dX5_hasIce_60 : decode cX5_hasIce 60 = .ok (.iload_n 1, 1) := fq1_27 (fl_X5_hasIce_0 (j := 60) rfl rfl)
theorem dX5_hasIce_61 : decode cX5_hasIce 61 = .ok (.if_icmp .ne 7, 3) := fq3_160 (fl_X5_hasIce_0 (j := 61) rfl rfl) (fl_X5_hasIce_0 (j := 62) rfl rfl) (fl_X5_hasIce_0 (j := 63) rfl rfl) (s2p rfl (bl rfl))
def fb_X5_hasIce_1 : List UInt8 := [0x04, 0xa7, 0x00, 0x04, 0x03, 0x36, 0x08, 0x15, 0x08, 0x99, 0x00, 0x1f, 0x1d, 0x2a, 0xb4, 0x00, 0x13, 0x15, 0x05, 0x05, 0x60, 0x2e, 0xa1, 0x00, 0x12, 0x1d, 0x2a, 0xb4, 0x00, 0x13, 0x15, 0x05, 0x06, 0x60, 0x2e, 0xa3, 0x00, 0x05, 0x04, 0xac, 0x84, 0x04, 0x01, 0xa7, 0xff, 0x98, 0x03, 0xac]
theorem fl_X5_hasIce_1 {p j : Nat} {b : UInt8} (e : p = 64 + j) (h : fb_X5_hasIce_1[j]? = some b) : cX5_hasIce.data.toList[p]? = some b := fq_l (n := 64) (show (cX5_hasIce.data.toList.drop 64).take 64 = fb_X5_hasIce_1 by decide +kernel) e h
theorem dX5_hasIce_64 : decode cX5_hasIce 64 = .ok (.iconst 1, 1) := fq1_4 (fl_X5_hasIce_1 (j := 0) rfl rfl)
theorem dX5_hasIce_65 : decode cX5_hasIce 65 = .ok (.goto 4, 3) := fq3_167 (fl_X5_hasIce_1 (j := 1) rfl rfl) (fl_X5_hasIce_1 (j := 2) rfl rfl) (fl_X5_hasIce_1 (j := 3) rfl rfl) (s2p rfl (bl rfl))
theorem dX5_hasIce_68 : decode cX5_hasIce 68 = .ok (.iconst 0, 1) := fq1_3 (fl_X5_hasIce_1 (j := 4) rfl rfl)
theorem dX5_hasIce_69 : decode cX5_hasIce 69 = .ok (.istore 8, 2) := fq2_54 (fl_X5_hasIce_1 (j := 5) rfl rfl) (fl_X5_hasIce_1 (j := 6) rfl rfl) rfl
theorem dX5_hasIce_71 : decode cX5_hasIce 71 = .ok (.iload 8, 2) := fq2_21 (fl_X5_hasIce_1 (j := 7) rfl rfl) (fl_X5_hasIce_1 (j := 8) rfl rfl) rfl
theorem dX5_hasIce_73 : decode cX5_hasIce 73 = .ok (.ifCond .eq 31, 3) := fq3_153 (fl_X5_hasIce_1 (j := 9) rfl rfl) (fl_X5_hasIce_1 (j := 10) rfl rfl) (fl_X5_hasIce_1 (j := 11) rfl rfl) (s2p rfl (bl rfl))
theorem dX5_hasIce_76 : decode cX5_hasIce 76 = .ok (.iload_n 3, 1) := fq1_29 (fl_X5_hasIce_1 (j := 12) rfl rfl)
theorem dX5_hasIce_77 : decode cX5_hasIce 77 = .ok (.aload_n 0, 1) := fq1_42 (fl_X5_hasIce_1 (j := 13) rfl rfl)
theorem dX5_hasIce_78 : decode cX5_hasIce 78 = .ok (.getfield 19, 3) := fq3_180 (fl_X5_hasIce_1 (j := 14) rfl rfl) (fl_X5_hasIce_1 (j := 15) rfl rfl) (fl_X5_hasIce_1 (j := 16) rfl rfl) rfl
theorem dX5_hasIce_81 : decode cX5_hasIce 81 = .ok (.iload 5, 2) := fq2_21 (fl_X5_hasIce_1 (j := 17) rfl rfl) (fl_X5_hasIce_1 (j := 18) rfl rfl) rfl
theorem dX5_hasIce_83 : decode cX5_hasIce 83 = .ok (.iconst 2, 1) := fq1_5 (fl_X5_hasIce_1 (j := 19) rfl rfl)
theorem dX5_hasIce_84 : decode cX5_hasIce 84 = .ok (.iadd, 1) := fq1_96 (fl_X5_hasIce_1 (j := 20) rfl rfl)
theorem dX5_hasIce_85 : decode cX5_hasIce 85 = .ok (.iaload, 1) := fq1_46 (fl_X5_hasIce_1 (j := 21) rfl rfl)
theorem dX5_hasIce_86 : decode cX5_hasIce 86 = .ok (.if_icmp .lt 18, 3) := fq3_161 (fl_X5_hasIce_1 (j := 22) rfl rfl) (fl_X5_hasIce_1 (j := 23) rfl rfl) (fl_X5_hasIce_1 (j := 24) rfl rfl) (s2p rfl (bl rfl))
theorem dX5_hasIce_89 : decode cX5_hasIce 89 = .ok (.iload_n 3, 1) := fq1_29 (fl_X5_hasIce_1 (j := 25) rfl rfl)
theorem dX5_hasIce_90 : decode cX5_hasIce 90 = .ok (.aload_n 0, 1) := fq1_42 (fl_X5_hasIce_1 (j := 26) rfl rfl)
theorem dX5_hasIce_91 : decode cX5_hasIce 91 = .ok (.getfield 19, 3) := fq3_180 (fl_X5_hasIce_1 (j := 27) rfl rfl) (fl_X5_hasIce_1 (j := 28) rfl rfl) (fl_X5_hasIce_1 (j := 29) rfl rfl) rfl
theorem dX5_hasIce_94 : decode cX5_hasIce 94 = .ok (.iload 5, 2) := fq2_21 (fl_X5_hasIce_1 (j := 30) rfl rfl) (fl_X5_hasIce_1 (j := 31) rfl rfl) rfl
theorem dX5_hasIce_96 : decode cX5_hasIce 96 = .ok (.iconst 3, 1) := fq1_6 (fl_X5_hasIce_1 (j := 32) rfl rfl)
theorem dX5_hasIce_97 : decode cX5_hasIce 97 = .ok (.iadd, 1) := fq1_96 (fl_X5_hasIce_1 (j := 33) rfl rfl)
theorem dX5_hasIce_98 : decode cX5_hasIce 98 = .ok (.iaload, 1) := fq1_46 (fl_X5_hasIce_1 (j := 34) rfl rfl)
theorem dX5_hasIce_99 : decode cX5_hasIce 99 = .ok (.if_icmp .gt 5, 3) := fq3_163 (fl_X5_hasIce_1 (j := 35) rfl rfl) (fl_X5_hasIce_1 (j := 36) rfl rfl) (fl_X5_hasIce_1 (j := 37) rfl rfl) (s2p rfl (bl rfl))
theorem dX5_hasIce_102 : decode cX5_hasIce 102 = .ok (.iconst 1, 1) := fq1_4 (fl_X5_hasIce_1 (j := 38) rfl rfl)
theorem dX5_hasIce_103 : decode cX5_hasIce 103 = .ok (.ireturn, 1) := fq1_172 (fl_X5_hasIce_1 (j := 39) rfl rfl)
theorem dX5_hasIce_104 : decode cX5_hasIce 104 = .ok (.iinc 4 1, 3) := fq3_132 (fl_X5_hasIce_1 (j := 40) rfl rfl) (fl_X5_hasIce_1 (j := 41) rfl rfl) (fl_X5_hasIce_1 (j := 42) rfl rfl) rfl (s1p rfl (bl rfl))
theorem dX5_hasIce_107 : decode cX5_hasIce 107 = .ok (.goto (-104), 3) := fq3_167 (fl_X5_hasIce_1 (j := 43) rfl rfl) (fl_X5_hasIce_1 (j := 44) rfl rfl) (fl_X5_hasIce_1 (j := 45) rfl rfl) (by decide)
theorem dX5_hasIce_110 : decode cX5_hasIce 110 = .ok (.iconst 0, 1) := fq1_3 (fl_X5_hasIce_1 (j := 46) rfl rfl)
theorem dX5_hasIce_111 : decode cX5_hasIce 111 = .ok (.ireturn, 1) := fq1_172 (fl_X5_hasIce_1 (j := 47) rfl rfl)
def fb_X5_landing_0 : List UInt8 := [0x1b, 0x1d, 0xa0, 0x00, 0x05, 0x1c, 0xac, 0x2a, 0x1b, 0x1c, 0xb6, 0x00, 0x2f, 0x36, 0x04, 0x1c, 0x11, 0x00, 0xc8, 0x60, 0x36, 0x05, 0x1c, 0x10, 0x0a, 0x60, 0x36, 0x06, 0x15, 0x06, 0x15, 0x05, 0xa2, 0x00, 0x25, 0x10, 0x0a, 0x2a, 0x1b, 0x15, 0x04, 0x1d, 0x2a, 0x1d, 0x15, 0x06, 0xb6, 0x00, 0x2f, 0xb6, 0x00, 0x33, 0x68, 0x15, 0x06, 0x1c, 0x64, 0xa3, 0x00, 0x06, 0x15, 0x06, 0xac, 0x84]
theorem fl_X5_landing_0 {p j : Nat} {b : UInt8} (e : p = 0 + j) (h : fb_X5_landing_0[j]? = some b) : cX5_landing.data.toList[p]? = some b := fq_l (n := 64) (show (cX5_landing.data.toList.drop 0).take 64 = fb_X5_landing_0 by decide +kernel) e h
theorem dX5_landing_0 : decode cX5_landing 0 = .ok (.iload_n 1, 1) := fq1_27 (fl_X5_landing_0 (j := 0) rfl rfl)
theorem dX5_landing_1 : decode cX5_landing 1 = .ok (.iload_n 3, 1) := fq1_29 (fl_X5_landing_0 (j := 1) rfl rfl)
theorem dX5_landing_2 : decode cX5_landing 2 = .ok (.if_icmp .ne 5, 3) := fq3_160 (fl_X5_landing_0 (j := 2) rfl rfl) (fl_X5_landing_0 (j := 3) rfl rfl) (fl_X5_landing_0 (j := 4) rfl rfl) (s2p rfl (bl rfl))
theorem dX5_landing_5 : decode cX5_landing 5 = .ok (.iload_n 2, 1) := fq1_28 (fl_X5_landing_0 (j := 5) rfl rfl)
theorem dX5_landing_6 : decode cX5_landing 6 = .ok (.ireturn, 1) := fq1_172 (fl_X5_landing_0 (j := 6) rfl rfl)
theorem dX5_landing_7 : decode cX5_landing 7 = .ok (.aload_n 0, 1) := fq1_42 (fl_X5_landing_0 (j := 7) rfl rfl)
theorem dX5_landing_8 : decode cX5_landing 8 = .ok (.iload_n 1, 1) := fq1_27 (fl_X5_landing_0 (j := 8) rfl rfl)
theorem dX5_landing_9 : decode cX5_landing 9 = .ok (.iload_n 2, 1) := fq1_28 (fl_X5_landing_0 (j := 9) rfl rfl)
theorem dX5_landing_10 : decode cX5_landing 10 = .ok (.invokevirtual 47, 3) := fq3_182 (fl_X5_landing_0 (j := 10) rfl rfl) (fl_X5_landing_0 (j := 11) rfl rfl) (fl_X5_landing_0 (j := 12) rfl rfl) rfl
theorem dX5_landing_13 : decode cX5_landing 13 = .ok (.istore 4, 2) := fq2_54 (fl_X5_landing_0 (j := 13) rfl rfl) (fl_X5_landing_0 (j := 14) rfl rfl) rfl
theorem dX5_landing_15 : decode cX5_landing 15 = .ok (.iload_n 2, 1) := fq1_28 (fl_X5_landing_0 (j := 15) rfl rfl)
theorem dX5_landing_16 : decode cX5_landing 16 = .ok (.sipush 200, 3) := fq3_17 (fl_X5_landing_0 (j := 16) rfl rfl) (fl_X5_landing_0 (j := 17) rfl rfl) (fl_X5_landing_0 (j := 18) rfl rfl) (s2p rfl (bl rfl))
theorem dX5_landing_19 : decode cX5_landing 19 = .ok (.iadd, 1) := fq1_96 (fl_X5_landing_0 (j := 19) rfl rfl)
theorem dX5_landing_20 : decode cX5_landing 20 = .ok (.istore 5, 2) := fq2_54 (fl_X5_landing_0 (j := 20) rfl rfl) (fl_X5_landing_0 (j := 21) rfl rfl) rfl
theorem dX5_landing_22 : decode cX5_landing 22 = .ok (.iload_n 2, 1) := fq1_28 (fl_X5_landing_0 (j := 22) rfl rfl)
theorem dX5_landing_23 : decode cX5_landing 23 = .ok (.bipush 10, 2) := fq2_16 (fl_X5_landing_0 (j := 23) rfl rfl) (fl_X5_landing_0 (j := 24) rfl rfl) (s1p rfl (bl rfl))
theorem dX5_landing_25 : decode cX5_landing 25 = .ok (.iadd, 1) := fq1_96 (fl_X5_landing_0 (j := 25) rfl rfl)
theorem dX5_landing_26 : decode cX5_landing 26 = .ok (.istore 6, 2) := fq2_54 (fl_X5_landing_0 (j := 26) rfl rfl) (fl_X5_landing_0 (j := 27) rfl rfl) rfl
theorem dX5_landing_28 : decode cX5_landing 28 = .ok (.iload 6, 2) := fq2_21 (fl_X5_landing_0 (j := 28) rfl rfl) (fl_X5_landing_0 (j := 29) rfl rfl) rfl
theorem dX5_landing_30 : decode cX5_landing 30 = .ok (.iload 5, 2) := fq2_21 (fl_X5_landing_0 (j := 30) rfl rfl) (fl_X5_landing_0 (j := 31) rfl rfl) rfl
theorem dX5_landing_32 : decode cX5_landing 32 = .ok (.if_icmp .ge 37, 3) := fq3_162 (fl_X5_landing_0 (j := 32) rfl rfl) (fl_X5_landing_0 (j := 33) rfl rfl) (fl_X5_landing_0 (j := 34) rfl rfl) (s2p rfl (bl rfl))
theorem dX5_landing_35 : decode cX5_landing 35 = .ok (.bipush 10, 2) := fq2_16 (fl_X5_landing_0 (j := 35) rfl rfl) (fl_X5_landing_0 (j := 36) rfl rfl) (s1p rfl (bl rfl))
theorem dX5_landing_37 : decode cX5_landing 37 = .ok (.aload_n 0, 1) := fq1_42 (fl_X5_landing_0 (j := 37) rfl rfl)
theorem dX5_landing_38 : decode cX5_landing 38 = .ok (.iload_n 1, 1) := fq1_27 (fl_X5_landing_0 (j := 38) rfl rfl)
theorem dX5_landing_39 : decode cX5_landing 39 = .ok (.iload 4, 2) := fq2_21 (fl_X5_landing_0 (j := 39) rfl rfl) (fl_X5_landing_0 (j := 40) rfl rfl) rfl
theorem dX5_landing_41 : decode cX5_landing 41 = .ok (.iload_n 3, 1) := fq1_29 (fl_X5_landing_0 (j := 41) rfl rfl)
theorem dX5_landing_42 : decode cX5_landing 42 = .ok (.aload_n 0, 1) := fq1_42 (fl_X5_landing_0 (j := 42) rfl rfl)
theorem dX5_landing_43 : decode cX5_landing 43 = .ok (.iload_n 3, 1) := fq1_29 (fl_X5_landing_0 (j := 43) rfl rfl)
theorem dX5_landing_44 : decode cX5_landing 44 = .ok (.iload 6, 2) := fq2_21 (fl_X5_landing_0 (j := 44) rfl rfl) (fl_X5_landing_0 (j := 45) rfl rfl) rfl
theorem dX5_landing_46 : decode cX5_landing 46 = .ok (.invokevirtual 47, 3) := fq3_182 (fl_X5_landing_0 (j := 46) rfl rfl) (fl_X5_landing_0 (j := 47) rfl rfl) (fl_X5_landing_0 (j := 48) rfl rfl) rfl
theorem dX5_landing_49 : decode cX5_landing 49 = .ok (.invokevirtual 51, 3) := fq3_182 (fl_X5_landing_0 (j := 49) rfl rfl) (fl_X5_landing_0 (j := 50) rfl rfl) (fl_X5_landing_0 (j := 51) rfl rfl) rfl
theorem dX5_landing_52 : decode cX5_landing 52 = .ok (.imul, 1) := fq1_104 (fl_X5_landing_0 (j := 52) rfl rfl)
theorem dX5_landing_53 : decode cX5_landing 53 = .ok (.iload 6, 2) := fq2_21 (fl_X5_landing_0 (j := 53) rfl rfl) (fl_X5_landing_0 (j := 54) rfl rfl) rfl
theorem dX5_landing_55 : decode cX5_landing 55 = .ok (.iload_n 2, 1) := fq1_28 (fl_X5_landing_0 (j := 55) rfl rfl)
theorem dX5_landing_56 : decode cX5_landing 56 = .ok (.isub, 1) := fq1_100 (fl_X5_landing_0 (j := 56) rfl rfl)
theorem dX5_landing_57 : decode cX5_landing 57 = .ok (.if_icmp .gt 6, 3) := fq3_163 (fl_X5_landing_0 (j := 57) rfl rfl) (fl_X5_landing_0 (j := 58) rfl rfl) (fl_X5_landing_0 (j := 59) rfl rfl) (s2p rfl (bl rfl))
theorem dX5_landing_60 : decode cX5_landing 60 = .ok (.iload 6, 2) := fq2_21 (fl_X5_landing_0 (j := 60) rfl rfl) (fl_X5_landing_0 (j := 61) rfl rfl) rfl
theorem dX5_landing_62 : decode cX5_landing 62 = .ok (.ireturn, 1) := fq1_172 (fl_X5_landing_0 (j := 62) rfl rfl)
def fb_X5_landing_1 : List UInt8 := [0x06, 0x01, 0xa7, 0xff, 0xda, 0x15, 0x05, 0xac]
theorem fl_X5_landing_1 {p j : Nat} {b : UInt8} (e : p = 64 + j) (h : fb_X5_landing_1[j]? = some b) : cX5_landing.data.toList[p]? = some b := fq_l (n := 64) (show (cX5_landing.data.toList.drop 64).take 64 = fb_X5_landing_1 by decide +kernel) e h
theorem dX5_landing_63 : decode cX5_landing 63 = .ok (.iinc 6 1, 3) := fq3_132 (fl_X5_landing_0 (j := 63) rfl rfl) (fl_X5_landing_1 (j := 0) rfl rfl) (fl_X5_landing_1 (j := 1) rfl rfl) rfl (s1p rfl (bl rfl))
theorem dX5_landing_66 : decode cX5_landing 66 = .ok (.goto (-38), 3) := fq3_167 (fl_X5_landing_1 (j := 2) rfl rfl) (fl_X5_landing_1 (j := 3) rfl rfl) (fl_X5_landing_1 (j := 4) rfl rfl) (by decide)
theorem dX5_landing_69 : decode cX5_landing 69 = .ok (.iload 5, 2) := fq2_21 (fl_X5_landing_1 (j := 5) rfl rfl) (fl_X5_landing_1 (j := 6) rfl rfl) rfl
theorem dX5_landing_71 : decode cX5_landing 71 = .ok (.ireturn, 1) := fq1_172 (fl_X5_landing_1 (j := 7) rfl rfl)
def fb_X5_lightBetween_0 : List UInt8 := [0x2a, 0x1b, 0x2a, 0x1b, 0x1c, 0xb6, 0x00, 0x2f, 0x1d, 0x2a, 0x1d, 0x15, 0x04, 0xb6, 0x00, 0x2f, 0xb6, 0x00, 0x33, 0xac]
theorem fl_X5_lightBetween_0 {p j : Nat} {b : UInt8} (e : p = 0 + j) (h : fb_X5_lightBetween_0[j]? = some b) : cX5_lightBetween.data.toList[p]? = some b := fq_l (n := 64) (show (cX5_lightBetween.data.toList.drop 0).take 64 = fb_X5_lightBetween_0 by decide +kernel) e h
theorem dX5_lightBetween_0 : decode cX5_lightBetween 0 = .ok (.aload_n 0, 1) := fq1_42 (fl_X5_lightBetween_0 (j := 0) rfl rfl)
theorem dX5_lightBetween_1 : decode cX5_lightBetween 1 = .ok (.iload_n 1, 1) := fq1_27 (fl_X5_lightBetween_0 (j := 1) rfl rfl)
theorem dX5_lightBetween_2 : decode cX5_lightBetween 2 = .ok (.aload_n 0, 1) := fq1_42 (fl_X5_lightBetween_0 (j := 2) rfl rfl)
theorem dX5_lightBetween_3 : decode cX5_lightBetween 3 = .ok (.iload_n 1, 1) := fq1_27 (fl_X5_lightBetween_0 (j := 3) rfl rfl)
theorem dX5_lightBetween_4 : decode cX5_lightBetween 4 = .ok (.iload_n 2, 1) := fq1_28 (fl_X5_lightBetween_0 (j := 4) rfl rfl)
theorem dX5_lightBetween_5 : decode cX5_lightBetween 5 = .ok (.invokevirtual 47, 3) := fq3_182 (fl_X5_lightBetween_0 (j := 5) rfl rfl) (fl_X5_lightBetween_0 (j := 6) rfl rfl) (fl_X5_lightBetween_0 (j := 7) rfl rfl) rfl
theorem dX5_lightBetween_8 : decode cX5_lightBetween 8 = .ok (.iload_n 3, 1) := fq1_29 (fl_X5_lightBetween_0 (j := 8) rfl rfl)
theorem dX5_lightBetween_9 : decode cX5_lightBetween 9 = .ok (.aload_n 0, 1) := fq1_42 (fl_X5_lightBetween_0 (j := 9) rfl rfl)
theorem dX5_lightBetween_10 : decode cX5_lightBetween 10 = .ok (.iload_n 3, 1) := fq1_29 (fl_X5_lightBetween_0 (j := 10) rfl rfl)
theorem dX5_lightBetween_11 : decode cX5_lightBetween 11 = .ok (.iload 4, 2) := fq2_21 (fl_X5_lightBetween_0 (j := 11) rfl rfl) (fl_X5_lightBetween_0 (j := 12) rfl rfl) rfl
theorem dX5_lightBetween_13 : decode cX5_lightBetween 13 = .ok (.invokevirtual 47, 3) := fq3_182 (fl_X5_lightBetween_0 (j := 13) rfl rfl) (fl_X5_lightBetween_0 (j := 14) rfl rfl) (fl_X5_lightBetween_0 (j := 15) rfl rfl) rfl
theorem dX5_lightBetween_16 : decode cX5_lightBetween 16 = .ok (.invokevirtual 51, 3) := fq3_182 (fl_X5_lightBetween_0 (j := 16) rfl rfl) (fl_X5_lightBetween_0 (j := 17) rfl rfl) (fl_X5_lightBetween_0 (j := 18) rfl rfl) rfl
theorem dX5_lightBetween_19 : decode cX5_lightBetween 19 = .ok (.ireturn, 1) := fq1_172 (fl_X5_lightBetween_0 (j := 19) rfl rfl)
def fb_X5_named_0 : List UInt8 := [0x03, 0x3e, 0x1d, 0x2a, 0xb4, 0x00, 0x16, 0xa2, 0x00, 0x16, 0x2a, 0xb4, 0x00, 0x09, 0x1d, 0x2f, 0x1f, 0x94, 0x9a, 0x00, 0x05, 0x1d, 0xac, 0x84, 0x03, 0x01, 0xa7, 0xff, 0xe8, 0x02, 0xac]
theorem fl_X5_named_0 {p j : Nat} {b : UInt8} (e : p = 0 + j) (h : fb_X5_named_0[j]? = some b) : cX5_named.data.toList[p]? = some b := fq_l (n := 64) (show (cX5_named.data.toList.drop 0).take 64 = fb_X5_named_0 by decide +kernel) e h
theorem dX5_named_0 : decode cX5_named 0 = .ok (.iconst 0, 1) := fq1_3 (fl_X5_named_0 (j := 0) rfl rfl)
theorem dX5_named_1 : decode cX5_named 1 = .ok (.istore_n 3, 1) := fq1_62 (fl_X5_named_0 (j := 1) rfl rfl)
theorem dX5_named_2 : decode cX5_named 2 = .ok (.iload_n 3, 1) := fq1_29 (fl_X5_named_0 (j := 2) rfl rfl)
theorem dX5_named_3 : decode cX5_named 3 = .ok (.aload_n 0, 1) := fq1_42 (fl_X5_named_0 (j := 3) rfl rfl)
theorem dX5_named_4 : decode cX5_named 4 = .ok (.getfield 22, 3) := fq3_180 (fl_X5_named_0 (j := 4) rfl rfl) (fl_X5_named_0 (j := 5) rfl rfl) (fl_X5_named_0 (j := 6) rfl rfl) rfl
theorem dX5_named_7 : decode cX5_named 7 = .ok (.if_icmp .ge 22, 3) := fq3_162 (fl_X5_named_0 (j := 7) rfl rfl) (fl_X5_named_0 (j := 8) rfl rfl) (fl_X5_named_0 (j := 9) rfl rfl) (s2p rfl (bl rfl))
theorem dX5_named_10 : decode cX5_named 10 = .ok (.aload_n 0, 1) := fq1_42 (fl_X5_named_0 (j := 10) rfl rfl)
theorem dX5_named_11 : decode cX5_named 11 = .ok (.getfield 9, 3) := fq3_180 (fl_X5_named_0 (j := 11) rfl rfl) (fl_X5_named_0 (j := 12) rfl rfl) (fl_X5_named_0 (j := 13) rfl rfl) rfl
theorem dX5_named_14 : decode cX5_named 14 = .ok (.iload_n 3, 1) := fq1_29 (fl_X5_named_0 (j := 14) rfl rfl)
theorem dX5_named_15 : decode cX5_named 15 = .ok (.laload, 1) := fq1_47 (fl_X5_named_0 (j := 15) rfl rfl)
theorem dX5_named_16 : decode cX5_named 16 = .ok (.lload_n 1, 1) := fq1_31 (fl_X5_named_0 (j := 16) rfl rfl)
theorem dX5_named_17 : decode cX5_named 17 = .ok (.lcmp, 1) := fq1_148 (fl_X5_named_0 (j := 17) rfl rfl)
theorem dX5_named_18 : decode cX5_named 18 = .ok (.ifCond .ne 5, 3) := fq3_154 (fl_X5_named_0 (j := 18) rfl rfl) (fl_X5_named_0 (j := 19) rfl rfl) (fl_X5_named_0 (j := 20) rfl rfl) (s2p rfl (bl rfl))
theorem dX5_named_21 : decode cX5_named 21 = .ok (.iload_n 3, 1) := fq1_29 (fl_X5_named_0 (j := 21) rfl rfl)
theorem dX5_named_22 : decode cX5_named 22 = .ok (.ireturn, 1) := fq1_172 (fl_X5_named_0 (j := 22) rfl rfl)
theorem dX5_named_23 : decode cX5_named 23 = .ok (.iinc 3 1, 3) := fq3_132 (fl_X5_named_0 (j := 23) rfl rfl) (fl_X5_named_0 (j := 24) rfl rfl) (fl_X5_named_0 (j := 25) rfl rfl) rfl (s1p rfl (bl rfl))
theorem dX5_named_26 : decode cX5_named 26 = .ok (.goto (-24), 3) := fq3_167 (fl_X5_named_0 (j := 26) rfl rfl) (fl_X5_named_0 (j := 27) rfl rfl) (fl_X5_named_0 (j := 28) rfl rfl) (by decide)
theorem dX5_named_29 : decode cX5_named 29 = .ok (.iconst (-1), 1) := fq1_2 (fl_X5_named_0 (j := 29) rfl rfl)
theorem dX5_named_30 : decode cX5_named 30 = .ok (.ireturn, 1) := fq1_172 (fl_X5_named_0 (j := 30) rfl rfl)
def fb_X5_priceIn_0 : List UInt8 := [0x2a, 0xb4, 0x00, 0x0f, 0x1b, 0x10, 0x06, 0x68, 0x07, 0x60, 0x2e, 0x2a, 0xb4, 0x00, 0x0f, 0x1b, 0x10, 0x06, 0x68, 0x08, 0x60, 0x2e, 0x2a, 0x1b, 0x1c, 0xb6, 0x00, 0x2f, 0x68, 0x60, 0xac]
theorem fl_X5_priceIn_0 {p j : Nat} {b : UInt8} (e : p = 0 + j) (h : fb_X5_priceIn_0[j]? = some b) : cX5_priceIn.data.toList[p]? = some b := fq_l (n := 64) (show (cX5_priceIn.data.toList.drop 0).take 64 = fb_X5_priceIn_0 by decide +kernel) e h
theorem dX5_priceIn_0 : decode cX5_priceIn 0 = .ok (.aload_n 0, 1) := fq1_42 (fl_X5_priceIn_0 (j := 0) rfl rfl)
theorem dX5_priceIn_1 : decode cX5_priceIn 1 = .ok (.getfield 15, 3) := fq3_180 (fl_X5_priceIn_0 (j := 1) rfl rfl) (fl_X5_priceIn_0 (j := 2) rfl rfl) (fl_X5_priceIn_0 (j := 3) rfl rfl) rfl
theorem dX5_priceIn_4 : decode cX5_priceIn 4 = .ok (.iload_n 1, 1) := fq1_27 (fl_X5_priceIn_0 (j := 4) rfl rfl)
theorem dX5_priceIn_5 : decode cX5_priceIn 5 = .ok (.bipush 6, 2) := fq2_16 (fl_X5_priceIn_0 (j := 5) rfl rfl) (fl_X5_priceIn_0 (j := 6) rfl rfl) (s1p rfl (bl rfl))
theorem dX5_priceIn_7 : decode cX5_priceIn 7 = .ok (.imul, 1) := fq1_104 (fl_X5_priceIn_0 (j := 7) rfl rfl)
theorem dX5_priceIn_8 : decode cX5_priceIn 8 = .ok (.iconst 4, 1) := fq1_7 (fl_X5_priceIn_0 (j := 8) rfl rfl)
theorem dX5_priceIn_9 : decode cX5_priceIn 9 = .ok (.iadd, 1) := fq1_96 (fl_X5_priceIn_0 (j := 9) rfl rfl)
theorem dX5_priceIn_10 : decode cX5_priceIn 10 = .ok (.iaload, 1) := fq1_46 (fl_X5_priceIn_0 (j := 10) rfl rfl)
theorem dX5_priceIn_11 : decode cX5_priceIn 11 = .ok (.aload_n 0, 1) := fq1_42 (fl_X5_priceIn_0 (j := 11) rfl rfl)
theorem dX5_priceIn_12 : decode cX5_priceIn 12 = .ok (.getfield 15, 3) := fq3_180 (fl_X5_priceIn_0 (j := 12) rfl rfl) (fl_X5_priceIn_0 (j := 13) rfl rfl) (fl_X5_priceIn_0 (j := 14) rfl rfl) rfl
theorem dX5_priceIn_15 : decode cX5_priceIn 15 = .ok (.iload_n 1, 1) := fq1_27 (fl_X5_priceIn_0 (j := 15) rfl rfl)
theorem dX5_priceIn_16 : decode cX5_priceIn 16 = .ok (.bipush 6, 2) := fq2_16 (fl_X5_priceIn_0 (j := 16) rfl rfl) (fl_X5_priceIn_0 (j := 17) rfl rfl) (s1p rfl (bl rfl))
theorem dX5_priceIn_18 : decode cX5_priceIn 18 = .ok (.imul, 1) := fq1_104 (fl_X5_priceIn_0 (j := 18) rfl rfl)
theorem dX5_priceIn_19 : decode cX5_priceIn 19 = .ok (.iconst 5, 1) := fq1_8 (fl_X5_priceIn_0 (j := 19) rfl rfl)
theorem dX5_priceIn_20 : decode cX5_priceIn 20 = .ok (.iadd, 1) := fq1_96 (fl_X5_priceIn_0 (j := 20) rfl rfl)
theorem dX5_priceIn_21 : decode cX5_priceIn 21 = .ok (.iaload, 1) := fq1_46 (fl_X5_priceIn_0 (j := 21) rfl rfl)
theorem dX5_priceIn_22 : decode cX5_priceIn 22 = .ok (.aload_n 0, 1) := fq1_42 (fl_X5_priceIn_0 (j := 22) rfl rfl)
theorem dX5_priceIn_23 : decode cX5_priceIn 23 = .ok (.iload_n 1, 1) := fq1_27 (fl_X5_priceIn_0 (j := 23) rfl rfl)
theorem dX5_priceIn_24 : decode cX5_priceIn 24 = .ok (.iload_n 2, 1) := fq1_28 (fl_X5_priceIn_0 (j := 24) rfl rfl)
theorem dX5_priceIn_25 : decode cX5_priceIn 25 = .ok (.invokevirtual 47, 3) := fq3_182 (fl_X5_priceIn_0 (j := 25) rfl rfl) (fl_X5_priceIn_0 (j := 26) rfl rfl) (fl_X5_priceIn_0 (j := 27) rfl rfl) rfl
theorem dX5_priceIn_28 : decode cX5_priceIn 28 = .ok (.imul, 1) := fq1_104 (fl_X5_priceIn_0 (j := 28) rfl rfl)
theorem dX5_priceIn_29 : decode cX5_priceIn 29 = .ok (.iadd, 1) := fq1_96 (fl_X5_priceIn_0 (j := 29) rfl rfl)
theorem dX5_priceIn_30 : decode cX5_priceIn 30 = .ok (.ireturn, 1) := fq1_172 (fl_X5_priceIn_0 (j := 30) rfl rfl)
end

section
/-- light between two rocks in two weeks -/
def lt (f : Nat → Int32) (a w b t : Int) : Int := ap f a (hd f a w) b (hd f b t)
theorem lt_rg {f : Nat → Int32} {n a w b t : Int} (hx0 : FXI f n) (ha : 0 ≤ a ∧ a < n) (hb : 0 ≤ b ∧ b < n) : 0 ≤ lt f a w b t ∧ lt f a w b t ≤ 20 := ap_rg hx0 ha hb (hd_rg f a w) (hd_rg f b t)
set_option maxHeartbeats 4000000 in
set_option maxRecDepth 100000 in
theorem k_light (l : Launch) (D : va_G) (k : Nat → ClassId) (h hf : Nat) (fs : List Value) (f1 : fs[1]? = some (.ref hf)) (f : Nat → Int32) (n : Int) (hn : n ≤ 6) (hx0 : FXI f n) (a w b t : Int) (ha : 0 ≤ a ∧ a < n) (hb0 : 0 ≤ b ∧ b < n) (hw : 0 ≤ w ∧ w ≤ 1000) (ht0 : 0 ≤ t ∧ t ≤ 1000) : RD l yX5_lightBetween cX5_lightBetween 5 (some .int) 1 D k [.ref h, .int (iZ a), .int (iZ w), .int (iZ b), .int (iZ t)] [(h, .inr (5, fs)), (hf, .inl (k 1, 36, .inl f))] (iZ (lt f a w b t)) := by
  refine MR (by decide) (Nat.le_of_ble_eq_true rfl) (fun p e s m below meth c ls hx hb hml hr hlocks hts hown hKK hP hl => ?_)
  have hK := hKK.1
  have hl : lv_has ls 5 [(0, .ref h), (1, .int (iZ a)), (2, .int (iZ w)), (3, .int (iZ b)), (4, .int (iZ t))] := hl
  refine lv_aload_n hx hb dX5_lightBetween_0 rfl (lv_at hl 0 rfl) ?_
  refine lv_iload_n hx hb dX5_lightBetween_1 rfl (lv_at hl 1 rfl) ?_
  refine lv_aload_n hx hb dX5_lightBetween_2 rfl (lv_at hl 0 rfl) ?_
  refine lv_iload_n hx hb dX5_lightBetween_3 rfl (lv_at hl 1 rfl) ?_
  refine lv_iload_n hx hb dX5_lightBetween_4 rfl (lv_at hl 2 rfl) ?_
  refine CRV (As := [.int (iZ a), .int (iZ w)]) (rest := [.int (iZ a), .ref h]) hx hb hml hown hts hKK hP (k_heading l D k h hf fs f1 f n hn hx0 a w ⟨by omega, by omega⟩ ⟨by omega, by omega⟩) ci_X5_heading qm_X5_47 ⟨Nat.le_of_ble_eq_true rfl, Nat.le_of_ble_eq_true rfl⟩ ⟨Nat.le_of_ble_eq_true rfl, Nat.le_of_ble_eq_true rfl⟩ 0 rfl rfl rfl hl.1 rfl (Nat.le_of_ble_eq_true rfl) dX5_lightBetween_5 ?_
  have hh_h_1 := hd_rg f a w
  refine lv_iload_n hx hb dX5_lightBetween_8 rfl (lv_at hl 3 rfl) ?_
  refine lv_aload_n hx hb dX5_lightBetween_9 rfl (lv_at hl 0 rfl) ?_
  refine lv_iload_n hx hb dX5_lightBetween_10 rfl (lv_at hl 3 rfl) ?_
  refine lv_iload hx hb dX5_lightBetween_11 (lv_at hl 4 rfl) ?_
  refine CRV (As := [.int (iZ b), .int (iZ t)]) (rest := [.int (iZ b), .int (iZ (hd f a w)), .int (iZ a), .ref h]) hx hb hml hown hts hKK hP (k_heading l D k h hf fs f1 f n hn hx0 b t ⟨by omega, by omega⟩ ⟨by omega, by omega⟩) ci_X5_heading qm_X5_47 ⟨Nat.le_of_ble_eq_true rfl, Nat.le_of_ble_eq_true rfl⟩ ⟨Nat.le_of_ble_eq_true rfl, Nat.le_of_ble_eq_true rfl⟩ 0 rfl rfl rfl hl.1 rfl (Nat.le_of_ble_eq_true rfl) dX5_lightBetween_13 ?_
  have hh_h_2 := hd_rg f b t
  refine CRV (As := [.int (iZ a), .int (iZ (hd f a w)), .int (iZ b), .int (iZ (hd f b t))]) (rest := []) hx hb hml hown hts hKK hP (k_apart l D k h hf fs f1 f n hn hx0 a (hd f a w) b (hd f b t) ⟨by omega, by omega⟩ ⟨by omega, by omega⟩ ⟨by omega, by omega⟩ ⟨by omega, by omega⟩) ci_X5_apart qm_X5_51 ⟨Nat.le_of_ble_eq_true rfl, Nat.le_of_ble_eq_true rfl⟩ ⟨Nat.le_of_ble_eq_true rfl, Nat.le_of_ble_eq_true rfl⟩ 0 rfl rfl rfl hl.1 rfl (Nat.le_of_ble_eq_true rfl) dX5_lightBetween_16 ?_
  have ha_h_3 := ap_rg (h := (hd f a w)) (g := (hd f b t)) hx0 (a := a) (b := b) ⟨by omega, by omega⟩ ⟨by omega, by omega⟩ ⟨by omega, by omega⟩ ⟨by omega, by omega⟩
  exact ERi hx hb hr hlocks rfl dX5_lightBetween_19
/-- when a ship is there: the first week by which it has come so far -/
def isLd (f : Nat → Int32) (a w b t : Int) : Prop := if a = b then t = w else (w + 10 ≤ t ∧ t ≤ w + 200 ∧ 10 * lt f a w b t ≤ t - w ∧ ∀ s : Int, w + 10 ≤ s → s < t → ¬ 10 * lt f a w b s ≤ s - w)
set_option maxHeartbeats 4000000 in
set_option maxRecDepth 100000 in
theorem k_landing (l : Launch) (D : va_G) (k : Nat → ClassId) (h hf : Nat) (fs : List Value) (f1 : fs[1]? = some (.ref hf)) (f : Nat → Int32) (n : Int) (hn : n ≤ 6) (hx0 : FXI f n) (a w b : Int) (ha : 0 ≤ a ∧ a < n) (hb0 : 0 ≤ b ∧ b < n) (hw : 0 ≤ w ∧ w ≤ 700) : RP l yX5_landing cX5_landing 7 (some .int) 1 D k [.ref h, .int (iZ a), .int (iZ w), .int (iZ b)] [(h, .inr (5, fs)), (hf, .inl (k 1, 36, .inl f))] (fun z => isLd f a w b z) := by
  refine MRP (by decide) (Nat.le_of_ble_eq_true rfl) (fun p e s m below meth c ls hx hb hml hr hlocks hts hown hKK hP hl => ?_)
  have hK := hKK.1
  have hl : lv_has ls 7 [(0, .ref h), (1, .int (iZ a)), (2, .int (iZ w)), (3, .int (iZ b))] := hl
  refine lv_iload_n hx hb dX5_landing_0 rfl (lv_at hl 1 rfl) ?_
  refine lv_iload_n hx hb dX5_landing_1 rfl (lv_at hl 3 rfl) ?_
  refine lv_icmp_ne (tgt := 7) hx hb dX5_landing_2 rfl (fun c_1 => ?_) (fun c_1 => ?_)
  ·
    have c_1 := mt (zeq (x := iZ a) (y := iZ b) rfl rfl ⟨by omega, by omega⟩ ⟨by omega, by omega⟩).mpr c_1
    refine lv_aload_n hx hb dX5_landing_7 rfl (lv_at hl 0 rfl) ?_
    refine lv_iload_n hx hb dX5_landing_8 rfl (lv_at hl 1 rfl) ?_
    refine lv_iload_n hx hb dX5_landing_9 rfl (lv_at hl 2 rfl) ?_
    refine CRV (As := [.int (iZ a), .int (iZ w)]) (rest := []) hx hb hml hown hts hKK hP (k_heading l D k h hf fs f1 f n hn hx0 a w ⟨by omega, by omega⟩ ⟨by omega, by omega⟩) ci_X5_heading qm_X5_47 ⟨Nat.le_of_ble_eq_true rfl, Nat.le_of_ble_eq_true rfl⟩ ⟨Nat.le_of_ble_eq_true rfl, Nat.le_of_ble_eq_true rfl⟩ 0 rfl rfl rfl hl.1 rfl (Nat.le_of_ble_eq_true rfl) dX5_landing_10 ?_
    have hh_h_2 := hd_rg f a w
    refine lv_istore (lv' := [(4, .int (iZ (hd f a w))), (0, .ref h), (1, .int (iZ a)), (2, .int (iZ w)), (3, .int (iZ b))]) hx hb dX5_landing_13 hl (bl rfl) rfl (fun ls hl => ?_)
    refine lv_iload_n hx hb dX5_landing_15 rfl (lv_at hl 3 rfl) ?_
    refine lv_sipush (v := iZ 200) hx hb dX5_landing_16 sip_200 ?_
    refine lv_iadd hx hb dX5_landing_19 ?_
    refine lv_topi (fun x_3 ex_3 => ?_)
    obtain rfl : x_3 = iZ (w + 200) := ex_3.trans (iZ_add w 200)
    refine lv_istore (lv' := [(5, .int (iZ (w + 200))), (4, .int (iZ (hd f a w))), (0, .ref h), (1, .int (iZ a)), (2, .int (iZ w)), (3, .int (iZ b))]) hx hb dX5_landing_20 hl (bl rfl) rfl (fun ls hl => ?_)
    refine lv_iload_n hx hb dX5_landing_22 rfl (lv_at hl 4 rfl) ?_
    refine lv_bipush (v := iZ 10) hx hb dX5_landing_23 bip_10 ?_
    refine lv_iadd hx hb dX5_landing_25 ?_
    refine lv_topi (fun x_4 ex_4 => ?_)
    obtain rfl : x_4 = iZ (w + 10) := ex_4.trans (iZ_add w 10)
    refine lv_istore (lv' := [(6, .int (iZ (w + 10))), (5, .int (iZ (w + 200))), (4, .int (iZ (hd f a w))), (0, .ref h), (1, .int (iZ a)), (2, .int (iZ w)), (3, .int (iZ b))]) hx hb dX5_landing_26 hl (bl rfl) rfl (fun ls hl => ?_)
    have HL1 : ∀ (fu : Nat) (i : Int) (ls : Array Slot), (w + 201 - i) < (fu : Int) → w + 10 ≤ i → i ≤ w + 200 → (∀ t : Int, w + 10 ≤ t → t < i → ¬ 10 * lt f a w b t ≤ t - w) → lv_has ls 7 [(6, .int (iZ i)), (5, .int (iZ (w + 200))), (4, .int (iZ (hd f a w))), (0, .ref h), (1, .int (iZ a)), (2, .int (iZ w)), (3, .int (iZ b))] → W p l e (rj 1 0 0) s m [.ref h, .int (iZ a), .int (iZ w), .int (iZ b)].toArray below meth c s.heap [] 0 0 (MQ below (QcP (fun z => isLd f a w b z)) [.ref h, .int (iZ a), .int (iZ w), .int (iZ b)].toArray s 0 0 (fun _ => False)) (F0 m 28 ls []) := by
      intro fu
      induction fu with
      | zero => intro i ls hμ1 hi1 hi2 hi3 hl; exact absurd hμ1 (by omega)
      | succ fu ih1 =>
        intro i ls hμ1 hi1 hi2 hi3 hl
        refine lv_iload hx hb dX5_landing_28 (lv_at hl 0 rfl) ?_
        refine lv_iload hx hb dX5_landing_30 (lv_at hl 1 rfl) ?_
        refine lv_icmp_ge (tgt := 69) hx hb dX5_landing_32 rfl (fun c_5 => ?_) (fun c_5 => ?_)
        ·
          have c_5 := (zle (x := iZ (w + 200)) (y := iZ i) rfl rfl ⟨by omega, by omega⟩ ⟨by omega, by omega⟩).mp c_5
          refine lv_iload hx hb dX5_landing_69 (lv_at hl 1 rfl) ?_
          exact EPi hx hb hr hlocks (by obtain rfl : i = w + 200 := (by omega); unfold isLd; rw [if_neg c_1]; have := lt_rg (w := w) (t := (w + 200)) hx0 ha hb0; exact ⟨by omega, by omega, by omega, hi3⟩) dX5_landing_71
        ·
          have c_5 := mt (zle (x := iZ (w + 200)) (y := iZ i) rfl rfl ⟨by omega, by omega⟩ ⟨by omega, by omega⟩).mpr c_5
          refine lv_bipush (v := iZ 10) hx hb dX5_landing_35 bip_10 ?_
          refine lv_aload_n hx hb dX5_landing_37 rfl (lv_at hl 3 rfl) ?_
          refine lv_iload_n hx hb dX5_landing_38 rfl (lv_at hl 4 rfl) ?_
          refine lv_iload hx hb dX5_landing_39 (lv_at hl 2 rfl) ?_
          refine lv_iload_n hx hb dX5_landing_41 rfl (lv_at hl 6 rfl) ?_
          refine lv_aload_n hx hb dX5_landing_42 rfl (lv_at hl 3 rfl) ?_
          refine lv_iload_n hx hb dX5_landing_43 rfl (lv_at hl 6 rfl) ?_
          refine lv_iload hx hb dX5_landing_44 (lv_at hl 0 rfl) ?_
          refine CRV (As := [.int (iZ b), .int (iZ i)]) (rest := [.int (iZ b), .int (iZ (hd f a w)), .int (iZ a), .ref h, .int (iZ 10)]) hx hb hml hown hts hKK hP (k_heading l D k h hf fs f1 f n hn hx0 b i ⟨by omega, by omega⟩ ⟨by omega, by omega⟩) ci_X5_heading qm_X5_47 ⟨Nat.le_of_ble_eq_true rfl, Nat.le_of_ble_eq_true rfl⟩ ⟨Nat.le_of_ble_eq_true rfl, Nat.le_of_ble_eq_true rfl⟩ 0 rfl rfl rfl hl.1 rfl (Nat.le_of_ble_eq_true rfl) dX5_landing_46 ?_
          have hh_h_6 := hd_rg f b i
          refine CRV (As := [.int (iZ a), .int (iZ (hd f a w)), .int (iZ b), .int (iZ (hd f b i))]) (rest := [.int (iZ 10)]) hx hb hml hown hts hKK hP (k_apart l D k h hf fs f1 f n hn hx0 a (hd f a w) b (hd f b i) ⟨by omega, by omega⟩ ⟨by omega, by omega⟩ ⟨by omega, by omega⟩ ⟨by omega, by omega⟩) ci_X5_apart qm_X5_51 ⟨Nat.le_of_ble_eq_true rfl, Nat.le_of_ble_eq_true rfl⟩ ⟨Nat.le_of_ble_eq_true rfl, Nat.le_of_ble_eq_true rfl⟩ 0 rfl rfl rfl hl.1 rfl (Nat.le_of_ble_eq_true rfl) dX5_landing_49 ?_
          have ha_h_7 := ap_rg (h := (hd f a w)) (g := (hd f b i)) hx0 (a := a) (b := b) ⟨by omega, by omega⟩ ⟨by omega, by omega⟩ ⟨by omega, by omega⟩ ⟨by omega, by omega⟩
          refine lv_imul hx hb dX5_landing_52 ?_
          refine lv_topi (fun x_8 ex_8 => ?_)
          obtain rfl : x_8 = iZ (10 * (ap f a (hd f a w) b (hd f b i))) := ex_8.trans (iZ_mul 10 (ap f a (hd f a w) b (hd f b i)))
          refine lv_iload hx hb dX5_landing_53 (lv_at hl 0 rfl) ?_
          refine lv_iload_n hx hb dX5_landing_55 rfl (lv_at hl 5 rfl) ?_
          refine lv_isub hx hb dX5_landing_56 ?_
          refine lv_topi (fun x_9 ex_9 => ?_)
          obtain rfl : x_9 = iZ (i - w) := ex_9.trans (iZ_sub i w)
          refine lv_icmp_gt (tgt := 63) hx hb dX5_landing_57 rfl (fun c_10 => ?_) (fun c_10 => ?_)
          ·
            have c_10 := (zlt (x := iZ (i - w)) (y := iZ (10 * (ap f a (hd f a w) b (hd f b i)))) rfl rfl ⟨by omega, by omega⟩ ⟨by omega, by omega⟩).mp c_10
            refine lv_iinc (v := iZ (i + 1)) (lv' := [(6, .int (iZ (i + 1))), (5, .int (iZ (w + 200))), (4, .int (iZ (hd f a w))), (0, .ref h), (1, .int (iZ a)), (2, .int (iZ w)), (3, .int (iZ b))]) hx hb dX5_landing_63 hl (k := 0) rfl (iZ_add i 1) (by decide) rfl (fun ls hl => ?_)
            refine lv_goto (tgt := 28) hx hb dX5_landing_66 rfl ?_
            exact ih1  (i + 1) _ (by omega) (by omega) (by omega) (by intro t h1 h2; rcases Int.lt_or_eq_of_le (show t ≤ i by omega) with h3 | h3; exact hi3 t h1 h3; rw [h3]; have := c_10; unfold lt; omega) (lv_sub hl [0, 1, 2, 3, 4, 5, 6] rfl)
          ·
            have c_10 := mt (zlt (x := iZ (i - w)) (y := iZ (10 * (ap f a (hd f a w) b (hd f b i)))) rfl rfl ⟨by omega, by omega⟩ ⟨by omega, by omega⟩).mpr c_10
            refine lv_iload hx hb dX5_landing_60 (lv_at hl 0 rfl) ?_
            exact EPi hx hb hr hlocks (by unfold isLd; rw [if_neg c_1]; refine ⟨hi1, hi2, ?_, hi3⟩; have := c_10; unfold lt; omega) dX5_landing_62
    exact HL1 200 (w + 10) _ (by omega) (by omega) (by omega) (fun t h1 h2 => absurd h1 (by omega)) (lv_sub hl [0, 1, 2, 3, 4, 5, 6] rfl)
  ·
    have c_1 := (zeq (x := iZ a) (y := iZ b) rfl rfl ⟨by omega, by omega⟩ ⟨by omega, by omega⟩).mp c_1
    refine lv_iload_n hx hb dX5_landing_5 rfl (lv_at hl 2 rfl) ?_
    exact EPi hx hb hr hlocks (by unfold isLd; rw [if_pos c_1]) dX5_landing_6
theorem ld_rg {f : Nat → Int32} {n a w b t : Int} (hx0 : FXI f n) (ha : 0 ≤ a ∧ a < n) (hb : 0 ≤ b ∧ b < n) (h : isLd f a w b t) : w ≤ t ∧ t ≤ w + 200 := by
  unfold isLd at h
  split at h
  · omega
  · omega
def pr (f : Nat → Int32) (a w : Int) : Int := (gz f ((a * 6) + 4) + (gz f ((a * 6) + 5) * hd f a w))
theorem pr_rg {f : Nat → Int32} {n a w : Int} (hx0 : FXI f n) (ha : 0 ≤ a ∧ a < n) : 0 ≤ pr f a w ∧ pr f a w ≤ 319 := by
  have h := hx0 a ha.1 ha.2
  have h2 := hd_rg f a w
  have h3 := mul_b (a := gz f ((a * 6) + 5)) (b := hd f a w) (A := 20) (B := 11) (by omega) (by omega) (by omega) (by omega)
  unfold pr
  omega
set_option maxHeartbeats 4000000 in
set_option maxRecDepth 100000 in
theorem k_price (l : Launch) (D : va_G) (k : Nat → ClassId) (h hf : Nat) (fs : List Value) (f1 : fs[1]? = some (.ref hf)) (f : Nat → Int32) (n : Int) (hn : n ≤ 6) (hx0 : FXI f n) (a w : Int) (ha : 0 ≤ a ∧ a < n) (hw : 0 ≤ w ∧ w ≤ 1000) : RD l yX5_priceIn cX5_priceIn 3 (some .int) 1 D k [.ref h, .int (iZ a), .int (iZ w)] [(h, .inr (5, fs)), (hf, .inl (k 1, 36, .inl f))] (iZ (pr f a w)) := by
  refine MR (by decide) (Nat.le_of_ble_eq_true rfl) (fun p e s m below meth c ls hx hb hml hr hlocks hts hown hKK hP hl => ?_)
  have hK := hKK.1
  have hl : lv_has ls 3 [(0, .ref h), (1, .int (iZ a)), (2, .int (iZ w))] := hl
  have hfx := hx0 a ha.1 ha.2
  refine lv_aload_n hx hb dX5_priceIn_0 rfl (lv_at hl 0 rfl) ?_
  refine va_get (D := D) (ci := 5) (v := .ref hf) (C := RX5) (T := TX5) (N := 7) hx hb hts iX5 hown hK hP 0 rfl rfl 1 (bl rfl) (hts _ qf_X5_15) (fun _ h => h) f1 dX5_priceIn_1 ?_
  refine lv_iload_n hx hb dX5_priceIn_4 rfl (lv_at hl 1 rfl) ?_
  refine lv_bipush (v := iZ 6) hx hb dX5_priceIn_5 bip_6 ?_
  refine lv_imul hx hb dX5_priceIn_7 ?_
  refine lv_topi (fun x_1 ex_1 => ?_)
  obtain rfl : x_1 = iZ (a * 6) := ex_1.trans (iZ_mul a 6)
  refine lv_iconst (v := iZ 4) hx hb dX5_priceIn_8 rfl ?_
  refine lv_iadd hx hb dX5_priceIn_9 ?_
  refine lv_topi (fun x_2 ex_2 => ?_)
  obtain rfl : x_2 = iZ ((a * 6) + 4) := ex_2.trans (iZ_add (a * 6) 4)
  refine va_iald hx hb hK hP 1 1 rfl rfl (zin (e := ((a * 6) + 4)) (n := 36) ⟨by omega, by omega⟩ (bl rfl)) dX5_priceIn_10 ?_
  refine lv_topi (fun x_3 ex_3 => ?_)
  obtain rfl : x_3 = iZ (gz f ((a * 6) + 4)) := ex_3.trans (gz_eq ⟨by omega, by omega⟩)
  have h_4 := gz_rg f ((a * 6) + 4)
  refine lv_aload_n hx hb dX5_priceIn_11 rfl (lv_at hl 0 rfl) ?_
  refine va_get (D := D) (ci := 5) (v := .ref hf) (C := RX5) (T := TX5) (N := 7) hx hb hts iX5 hown hK hP 0 rfl rfl 1 (bl rfl) (hts _ qf_X5_15) (fun _ h => h) f1 dX5_priceIn_12 ?_
  refine lv_iload_n hx hb dX5_priceIn_15 rfl (lv_at hl 1 rfl) ?_
  refine lv_bipush (v := iZ 6) hx hb dX5_priceIn_16 bip_6 ?_
  refine lv_imul hx hb dX5_priceIn_18 ?_
  refine lv_topi (fun x_5 ex_5 => ?_)
  obtain rfl : x_5 = iZ (a * 6) := ex_5.trans (iZ_mul a 6)
  refine lv_iconst (v := iZ 5) hx hb dX5_priceIn_19 rfl ?_
  refine lv_iadd hx hb dX5_priceIn_20 ?_
  refine lv_topi (fun x_6 ex_6 => ?_)
  obtain rfl : x_6 = iZ ((a * 6) + 5) := ex_6.trans (iZ_add (a * 6) 5)
  refine va_iald hx hb hK hP 1 1 rfl rfl (zin (e := ((a * 6) + 5)) (n := 36) ⟨by omega, by omega⟩ (bl rfl)) dX5_priceIn_21 ?_
  refine lv_topi (fun x_7 ex_7 => ?_)
  obtain rfl : x_7 = iZ (gz f ((a * 6) + 5)) := ex_7.trans (gz_eq ⟨by omega, by omega⟩)
  have h_8 := gz_rg f ((a * 6) + 5)
  refine lv_aload_n hx hb dX5_priceIn_22 rfl (lv_at hl 0 rfl) ?_
  refine lv_iload_n hx hb dX5_priceIn_23 rfl (lv_at hl 1 rfl) ?_
  refine lv_iload_n hx hb dX5_priceIn_24 rfl (lv_at hl 2 rfl) ?_
  refine CRV (As := [.int (iZ a), .int (iZ w)]) (rest := [.int (iZ (gz f ((a * 6) + 5))), .int (iZ (gz f ((a * 6) + 4)))]) hx hb hml hown hts hKK hP (k_heading l D k h hf fs f1 f n hn hx0 a w ⟨by omega, by omega⟩ ⟨by omega, by omega⟩) ci_X5_heading qm_X5_47 ⟨Nat.le_of_ble_eq_true rfl, Nat.le_of_ble_eq_true rfl⟩ ⟨Nat.le_of_ble_eq_true rfl, Nat.le_of_ble_eq_true rfl⟩ 0 rfl rfl rfl hl.1 rfl (Nat.le_of_ble_eq_true rfl) dX5_priceIn_25 ?_
  have hh_h_9 := hd_rg f a w
  have hm_28 := mul_b (a := (gz f ((a * 6) + 5))) (b := (hd f a w)) (A := 20) (B := 11) (by omega) (by omega) (by omega) (by omega)
  refine lv_imul hx hb dX5_priceIn_28 ?_
  refine lv_topi (fun x_10 ex_10 => ?_)
  obtain rfl : x_10 = iZ ((gz f ((a * 6) + 5)) * (hd f a w)) := ex_10.trans (iZ_mul (gz f ((a * 6) + 5)) (hd f a w))
  refine lv_iadd hx hb dX5_priceIn_29 ?_
  refine lv_topi (fun x_11 ex_11 => ?_)
  obtain rfl : x_11 = iZ ((gz f ((a * 6) + 4)) + ((gz f ((a * 6) + 5)) * (hd f a w))) := ex_11.trans (iZ_add (gz f ((a * 6) + 4)) ((gz f ((a * 6) + 5)) * (hd f a w)))
  exact ERi hx hb hr hlocks rfl dX5_priceIn_30
set_option maxHeartbeats 4000000 in
set_option maxRecDepth 100000 in
theorem k_gain (l : Launch) (D : va_G) (k : Nat → ClassId) (h hf : Nat) (fs : List Value) (f1 : fs[1]? = some (.ref hf)) (f : Nat → Int32) (n : Int) (hn : n ≤ 6) (hx0 : FXI f n) (a w b : Int) (ha : 0 ≤ a ∧ a < n) (hb0 : 0 ≤ b ∧ b < n) (hw : 0 ≤ w ∧ w ≤ 700) : RP l yX5_gainOf cX5_gainOf 4 (some .int) 2 D k [.ref h, .int (iZ a), .int (iZ w), .int (iZ b)] [(h, .inr (5, fs)), (hf, .inl (k 1, 36, .inl f))] (fun z => ∃ t, isLd f a w b t ∧ z = pr f b t - pr f a w) := by
  refine MRP (by decide) (Nat.le_of_ble_eq_true rfl) (fun p e s m below meth c ls hx hb hml hr hlocks hts hown hKK hP hl => ?_)
  have hK := hKK.1
  have hl : lv_has ls 4 [(0, .ref h), (1, .int (iZ a)), (2, .int (iZ w)), (3, .int (iZ b))] := hl
  refine lv_aload_n hx hb dX5_gainOf_0 rfl (lv_at hl 0 rfl) ?_
  refine lv_iload_n hx hb dX5_gainOf_1 rfl (lv_at hl 3 rfl) ?_
  refine lv_aload_n hx hb dX5_gainOf_2 rfl (lv_at hl 0 rfl) ?_
  refine lv_iload_n hx hb dX5_gainOf_3 rfl (lv_at hl 1 rfl) ?_
  refine lv_iload_n hx hb dX5_gainOf_4 rfl (lv_at hl 2 rfl) ?_
  refine lv_iload_n hx hb dX5_gainOf_5 rfl (lv_at hl 3 rfl) ?_
  refine CPV (As := [.int (iZ a), .int (iZ w), .int (iZ b)]) (rest := [.int (iZ b), .ref h]) hx hb hml hown hts hKK hP (k_landing l D k h hf fs f1 f n hn hx0 a w b ⟨by omega, by omega⟩ ⟨by omega, by omega⟩ ⟨by omega, by omega⟩) ci_X5_landing qm_X5_55 ⟨Nat.le_of_ble_eq_true rfl, Nat.le_of_ble_eq_true rfl⟩ ⟨Nat.le_of_ble_eq_true rfl, Nat.le_of_ble_eq_true rfl⟩ 0 rfl rfl rfl hl.1 rfl (Nat.le_of_ble_eq_true rfl) dX5_gainOf_6 (fun z_1 hz_1 => ?_)
  have hrz_1 := ld_rg hx0 ⟨by omega, by omega⟩ ⟨by omega, by omega⟩ hz_1
  refine CRV (As := [.int (iZ b), .int (iZ z_1)]) (rest := []) hx hb hml hown hts hKK hP (k_price l D k h hf fs f1 f n hn hx0 b z_1 ⟨by omega, by omega⟩ ⟨by omega, by omega⟩) ci_X5_priceIn qm_X5_59 ⟨Nat.le_of_ble_eq_true rfl, Nat.le_of_ble_eq_true rfl⟩ ⟨Nat.le_of_ble_eq_true rfl, Nat.le_of_ble_eq_true rfl⟩ 0 rfl rfl rfl hl.1 rfl (Nat.le_of_ble_eq_true rfl) dX5_gainOf_9 ?_
  have hp_h_2 := pr_rg (w := z_1) hx0 (a := b) ⟨by omega, by omega⟩
  refine lv_aload_n hx hb dX5_gainOf_12 rfl (lv_at hl 0 rfl) ?_
  refine lv_iload_n hx hb dX5_gainOf_13 rfl (lv_at hl 1 rfl) ?_
  refine lv_iload_n hx hb dX5_gainOf_14 rfl (lv_at hl 2 rfl) ?_
  refine CRV (As := [.int (iZ a), .int (iZ w)]) (rest := [.int (iZ (pr f b z_1))]) hx hb hml hown hts hKK hP (k_price l D k h hf fs f1 f n hn hx0 a w ⟨by omega, by omega⟩ ⟨by omega, by omega⟩) ci_X5_priceIn qm_X5_59 ⟨Nat.le_of_ble_eq_true rfl, Nat.le_of_ble_eq_true rfl⟩ ⟨Nat.le_of_ble_eq_true rfl, Nat.le_of_ble_eq_true rfl⟩ 0 rfl rfl rfl hl.1 rfl (Nat.le_of_ble_eq_true rfl) dX5_gainOf_15 ?_
  have hp_h_3 := pr_rg (w := w) hx0 (a := a) ⟨by omega, by omega⟩
  refine lv_isub hx hb dX5_gainOf_18 ?_
  refine lv_topi (fun x_4 ex_4 => ?_)
  obtain rfl : x_4 = iZ ((pr f b z_1) - (pr f a w)) := ex_4.trans (iZ_sub (pr f b z_1) (pr f a w))
  exact EPi hx hb hr hlocks ⟨_, hz_1, rfl⟩ dX5_gainOf_19
set_option maxHeartbeats 4000000 in
set_option maxRecDepth 100000 in
theorem k_fact (l : Launch) (D : va_G) (k : Nat → ClassId) (h hf : Nat) (fs : List Value) (f1 : fs[1]? = some (.ref hf)) (f : Nat → Int32) (a w : Int) (ha : 0 ≤ a ∧ a < 6) (hw : 0 ≤ w ∧ w < 6) : RD l yX5_fact cX5_fact 3 (some .int) 0 D k [.ref h, .int (iZ a), .int (iZ w)] [(h, .inr (5, fs)), (hf, .inl (k 1, 36, .inl f))] (iZ (gz f ((a * 6) + w))) := by
  refine MR (by decide) (Nat.le_of_ble_eq_true rfl) (fun p e s m below meth c ls hx hb hml hr hlocks hts hown hKK hP hl => ?_)
  have hK := hKK.1
  have hl : lv_has ls 3 [(0, .ref h), (1, .int (iZ a)), (2, .int (iZ w))] := hl
  refine lv_aload_n hx hb dX5_fact_0 rfl (lv_at hl 0 rfl) ?_
  refine va_get (D := D) (ci := 5) (v := .ref hf) (C := RX5) (T := TX5) (N := 7) hx hb hts iX5 hown hK hP 0 rfl rfl 1 (bl rfl) (hts _ qf_X5_15) (fun _ h => h) f1 dX5_fact_1 ?_
  refine lv_iload_n hx hb dX5_fact_4 rfl (lv_at hl 1 rfl) ?_
  refine lv_bipush (v := iZ 6) hx hb dX5_fact_5 bip_6 ?_
  refine lv_imul hx hb dX5_fact_7 ?_
  refine lv_topi (fun x_1 ex_1 => ?_)
  obtain rfl : x_1 = iZ (a * 6) := ex_1.trans (iZ_mul a 6)
  refine lv_iload_n hx hb dX5_fact_8 rfl (lv_at hl 2 rfl) ?_
  refine lv_iadd hx hb dX5_fact_9 ?_
  refine lv_topi (fun x_2 ex_2 => ?_)
  obtain rfl : x_2 = iZ ((a * 6) + w) := ex_2.trans (iZ_add (a * 6) w)
  refine va_iald hx hb hK hP 1 1 rfl rfl (zin (e := ((a * 6) + w)) (n := 36) ⟨by omega, by omega⟩ (bl rfl)) dX5_fact_10 ?_
  refine lv_topi (fun x_3 ex_3 => ?_)
  obtain rfl : x_3 = iZ (gz f ((a * 6) + w)) := ex_3.trans (gz_eq ⟨by omega, by omega⟩)
  have h_4 := gz_rg f ((a * 6) + w)
  exact ERi hx hb hr hlocks rfl dX5_fact_11
noncomputable def bz (P : Prop) : Int := @ite Int P (Classical.propDecidable P) 1 0
theorem bz_t {P : Prop} (h : P) : bz P = 1 := by unfold bz; exact if_pos h
theorem bz_f {P : Prop} (h : ¬ P) : bz P = 0 := by unfold bz; exact if_neg h
/-- the ICE of a row is between two rocks in a week -/
def icR (g : Nat → Int32) (j a b w : Int) : Prop := ((gz g ((j * 4) + 0) = a ∧ gz g ((j * 4) + 1) = b) ∨ (gz g ((j * 4) + 0) = b ∧ gz g ((j * 4) + 1) = a)) ∧ gz g ((j * 4) + 2) ≤ w ∧ w ≤ gz g ((j * 4) + 3)
def isIc (g : Nat → Int32) (n a b w : Int) : Prop := ∃ j : Int, 0 ≤ j ∧ j < n ∧ icR g j a b w
set_option maxHeartbeats 4000000 in
set_option maxRecDepth 100000 in
theorem k_ice (l : Launch) (D : va_G) (k : Nat → ClassId) (h hg : Nat) (fs : List Value) (f2 : fs[2]? = some (.ref hg)) (g : Nat → Int32) (ni : Int) (f4 : fs[4]? = some (.int (iZ ni))) (hni : 0 ≤ ni ∧ ni ≤ 8) (a b w : Int) (ha : 0 ≤ a ∧ a < 6) (hb0 : 0 ≤ b ∧ b < 6) (hw : 0 ≤ w ∧ w ≤ 1000) : RD l yX5_hasIce cX5_hasIce 9 (some .boolean) 0 D k [.ref h, .int (iZ a), .int (iZ b), .int (iZ w)] [(h, .inr (5, fs)), (hg, .inl (k 1, 32, .inl g))] (iZ (bz (isIc g ni a b w))) := by
  refine MR (by decide) (Nat.le_of_ble_eq_true rfl) (fun p e s m below meth c ls hx hb hml hr hlocks hts hown hKK hP hl => ?_)
  have hK := hKK.1
  have hl : lv_has ls 9 [(0, .ref h), (1, .int (iZ a)), (2, .int (iZ b)), (3, .int (iZ w))] := hl
  refine lv_iconst (v := iZ 0) hx hb dX5_hasIce_0 rfl ?_
  refine lv_istore (lv' := [(4, .int (iZ 0)), (0, .ref h), (1, .int (iZ a)), (2, .int (iZ b)), (3, .int (iZ w))]) hx hb dX5_hasIce_1 hl (bl rfl) rfl (fun ls hl => ?_)
  have HL1 : ∀ (fu : Nat) (i : Int) (ls : Array Slot), (ni + 1 - i) < (fu : Int) → 0 ≤ i → i ≤ ni → (∀ j : Int, 0 ≤ j → j < i → ¬ icR g j a b w) → lv_has ls 9 [(4, .int (iZ i)), (0, .ref h), (1, .int (iZ a)), (2, .int (iZ b)), (3, .int (iZ w))] → W p l e (rj 0 0 0) s m [.ref h, .int (iZ a), .int (iZ b), .int (iZ w)].toArray below meth c s.heap [] 0 0 (MQ below (QcRead (iZ (bz (isIc g ni a b w)))) [.ref h, .int (iZ a), .int (iZ b), .int (iZ w)].toArray s 0 0 (fun _ => False)) (F0 m 3 ls []) := by
    intro fu
    induction fu with
    | zero => intro i ls hμ1 hi1 hi2 hi3 hl; exact absurd hμ1 (by omega)
    | succ fu ih1 =>
      intro i ls hμ1 hi1 hi2 hi3 hl
      refine lv_iload hx hb dX5_hasIce_3 (lv_at hl 0 rfl) ?_
      refine lv_aload_n hx hb dX5_hasIce_5 rfl (lv_at hl 1 rfl) ?_
      refine va_get (D := D) (ci := 5) (v := .int (iZ ni)) (C := RX5) (T := TX5) (N := 7) hx hb hts iX5 hown hK hP 0 rfl rfl 4 (bl rfl) (hts _ qf_X5_26) (fun _ h => h) f4 dX5_hasIce_6 ?_
      refine lv_icmp_ge (tgt := 110) hx hb dX5_hasIce_9 rfl (fun c_1 => ?_) (fun c_1 => ?_)
      ·
        have c_1 := (zle (x := iZ ni) (y := iZ i) rfl rfl ⟨by omega, by omega⟩ ⟨by omega, by omega⟩).mp c_1
        refine lv_iconst (v := iZ 0) hx hb dX5_hasIce_110 rfl ?_
        exact ERz hx hb hr hlocks rfl (by rw [bz_f (fun ⟨j, h1, h2, h3⟩ => hi3 j h1 (by omega) h3)]) dX5_hasIce_111
      ·
        have c_1 := mt (zle (x := iZ ni) (y := iZ i) rfl rfl ⟨by omega, by omega⟩ ⟨by omega, by omega⟩).mpr c_1
        refine lv_iload hx hb dX5_hasIce_12 (lv_at hl 0 rfl) ?_
        refine lv_iconst (v := iZ 4) hx hb dX5_hasIce_14 rfl ?_
        refine lv_imul hx hb dX5_hasIce_15 ?_
        refine lv_topi (fun x_2 ex_2 => ?_)
        obtain rfl : x_2 = iZ (i * 4) := ex_2.trans (iZ_mul i 4)
        refine lv_istore (lv' := [(5, .int (iZ (i * 4))), (4, .int (iZ i)), (0, .ref h), (1, .int (iZ a)), (2, .int (iZ b)), (3, .int (iZ w))]) hx hb dX5_hasIce_16 hl (bl rfl) rfl (fun ls hl => ?_)
        refine lv_aload_n hx hb dX5_hasIce_18 rfl (lv_at hl 2 rfl) ?_
        refine va_get (D := D) (ci := 5) (v := .ref hg) (C := RX5) (T := TX5) (N := 7) hx hb hts iX5 hown hK hP 0 rfl rfl 2 (bl rfl) (hts _ qf_X5_19) (fun _ h => h) f2 dX5_hasIce_19 ?_
        refine lv_iload hx hb dX5_hasIce_22 (lv_at hl 0 rfl) ?_
        refine lv_iconst (v := iZ 0) hx hb dX5_hasIce_24 rfl ?_
        refine lv_iadd hx hb dX5_hasIce_25 ?_
        refine lv_topi (fun x_3 ex_3 => ?_)
        obtain rfl : x_3 = iZ ((i * 4) + 0) := ex_3.trans (iZ_add (i * 4) 0)
        refine va_iald hx hb hK hP 1 1 rfl rfl (zin (e := ((i * 4) + 0)) (n := 32) ⟨by omega, by omega⟩ (bl rfl)) dX5_hasIce_26 ?_
        refine lv_topi (fun x_4 ex_4 => ?_)
        obtain rfl : x_4 = iZ (gz g ((i * 4) + 0)) := ex_4.trans (gz_eq ⟨by omega, by omega⟩)
        have h_5 := gz_rg g ((i * 4) + 0)
        refine lv_istore (lv' := [(6, .int (iZ (gz g ((i * 4) + 0)))), (5, .int (iZ (i * 4))), (4, .int (iZ i)), (0, .ref h), (1, .int (iZ a)), (2, .int (iZ b)), (3, .int (iZ w))]) hx hb dX5_hasIce_27 hl (bl rfl) rfl (fun ls hl => ?_)
        refine lv_aload_n hx hb dX5_hasIce_29 rfl (lv_at hl 3 rfl) ?_
        refine va_get (D := D) (ci := 5) (v := .ref hg) (C := RX5) (T := TX5) (N := 7) hx hb hts iX5 hown hK hP 0 rfl rfl 2 (bl rfl) (hts _ qf_X5_19) (fun _ h => h) f2 dX5_hasIce_30 ?_
        refine lv_iload hx hb dX5_hasIce_33 (lv_at hl 1 rfl) ?_
        refine lv_iconst (v := iZ 1) hx hb dX5_hasIce_35 rfl ?_
        refine lv_iadd hx hb dX5_hasIce_36 ?_
        refine lv_topi (fun x_6 ex_6 => ?_)
        obtain rfl : x_6 = iZ ((i * 4) + 1) := ex_6.trans (iZ_add (i * 4) 1)
        refine va_iald hx hb hK hP 1 1 rfl rfl (zin (e := ((i * 4) + 1)) (n := 32) ⟨by omega, by omega⟩ (bl rfl)) dX5_hasIce_37 ?_
        refine lv_topi (fun x_7 ex_7 => ?_)
        obtain rfl : x_7 = iZ (gz g ((i * 4) + 1)) := ex_7.trans (gz_eq ⟨by omega, by omega⟩)
        have h_8 := gz_rg g ((i * 4) + 1)
        refine lv_istore (lv' := [(7, .int (iZ (gz g ((i * 4) + 1)))), (6, .int (iZ (gz g ((i * 4) + 0)))), (5, .int (iZ (i * 4))), (4, .int (iZ i)), (0, .ref h), (1, .int (iZ a)), (2, .int (iZ b)), (3, .int (iZ w))]) hx hb dX5_hasIce_38 hl (bl rfl) rfl (fun ls hl => ?_)
        refine lv_iload hx hb dX5_hasIce_40 (lv_at hl 1 rfl) ?_
        refine lv_iload_n hx hb dX5_hasIce_42 rfl (lv_at hl 5 rfl) ?_
        refine lv_icmp_ne (tgt := 52) hx hb dX5_hasIce_43 rfl (fun c_9 => ?_) (fun c_9 => ?_)
        ·
          have c_9 := mt (zeq (x := iZ (gz g ((i * 4) + 0))) (y := iZ a) rfl rfl (gz_rg g ((i * 4) + 0)) ⟨by omega, by omega⟩).mpr c_9
          refine lv_iload hx hb dX5_hasIce_52 (lv_at hl 1 rfl) ?_
          refine lv_iload_n hx hb dX5_hasIce_54 rfl (lv_at hl 6 rfl) ?_
          refine lv_icmp_ne (tgt := 68) hx hb dX5_hasIce_55 rfl (fun c_10 => ?_) (fun c_10 => ?_)
          ·
            have c_10 := mt (zeq (x := iZ (gz g ((i * 4) + 0))) (y := iZ b) rfl rfl (gz_rg g ((i * 4) + 0)) ⟨by omega, by omega⟩).mpr c_10
            refine lv_iconst (v := iZ 0) hx hb dX5_hasIce_68 rfl ?_
            refine lv_istore (lv' := [(8, .int (iZ 0)), (7, .int (iZ (gz g ((i * 4) + 1)))), (6, .int (iZ (gz g ((i * 4) + 0)))), (5, .int (iZ (i * 4))), (4, .int (iZ i)), (0, .ref h), (1, .int (iZ a)), (2, .int (iZ b)), (3, .int (iZ w))]) hx hb dX5_hasIce_69 hl (bl rfl) rfl (fun ls hl => ?_)
            refine lv_iload hx hb dX5_hasIce_71 (lv_at hl 0 rfl) ?_
            refine lv_if_eq (tgt := 104) hx hb dX5_hasIce_73 rfl (fun _ => ?_) (fun c => absurd (by decide) c)
            refine lv_iinc (v := iZ (i + 1)) (lv' := [(4, .int (iZ (i + 1))), (8, .int (iZ 0)), (7, .int (iZ (gz g ((i * 4) + 1)))), (6, .int (iZ (gz g ((i * 4) + 0)))), (5, .int (iZ (i * 4))), (0, .ref h), (1, .int (iZ a)), (2, .int (iZ b)), (3, .int (iZ w))]) hx hb dX5_hasIce_104 hl (k := 4) rfl (iZ_add i 1) (by decide) rfl (fun ls hl => ?_)
            refine lv_goto (tgt := 3) hx hb dX5_hasIce_107 rfl ?_
            exact ih1  (i + 1) _ (by omega) (by omega) (by omega) (by intro j h1 h2; rcases Int.lt_or_eq_of_le (show j ≤ i by omega) with h3 | h3; exact hi3 j h1 h3; rw [h3]; unfold icR; omega) (lv_sub hl [0, 5, 6, 7, 8] rfl)
          ·
            have c_10 := (zeq (x := iZ (gz g ((i * 4) + 0))) (y := iZ b) rfl rfl (gz_rg g ((i * 4) + 0)) ⟨by omega, by omega⟩).mp c_10
            refine lv_iload hx hb dX5_hasIce_58 (lv_at hl 0 rfl) ?_
            refine lv_iload_n hx hb dX5_hasIce_60 rfl (lv_at hl 5 rfl) ?_
            refine lv_icmp_ne (tgt := 68) hx hb dX5_hasIce_61 rfl (fun c_12 => ?_) (fun c_12 => ?_)
            ·
              have c_12 := mt (zeq (x := iZ (gz g ((i * 4) + 1))) (y := iZ a) rfl rfl (gz_rg g ((i * 4) + 1)) ⟨by omega, by omega⟩).mpr c_12
              refine lv_iconst (v := iZ 0) hx hb dX5_hasIce_68 rfl ?_
              refine lv_istore (lv' := [(8, .int (iZ 0)), (7, .int (iZ (gz g ((i * 4) + 1)))), (6, .int (iZ (gz g ((i * 4) + 0)))), (5, .int (iZ (i * 4))), (4, .int (iZ i)), (0, .ref h), (1, .int (iZ a)), (2, .int (iZ b)), (3, .int (iZ w))]) hx hb dX5_hasIce_69 hl (bl rfl) rfl (fun ls hl => ?_)
              refine lv_iload hx hb dX5_hasIce_71 (lv_at hl 0 rfl) ?_
              refine lv_if_eq (tgt := 104) hx hb dX5_hasIce_73 rfl (fun _ => ?_) (fun c => absurd (by decide) c)
              refine lv_iinc (v := iZ (i + 1)) (lv' := [(4, .int (iZ (i + 1))), (8, .int (iZ 0)), (7, .int (iZ (gz g ((i * 4) + 1)))), (6, .int (iZ (gz g ((i * 4) + 0)))), (5, .int (iZ (i * 4))), (0, .ref h), (1, .int (iZ a)), (2, .int (iZ b)), (3, .int (iZ w))]) hx hb dX5_hasIce_104 hl (k := 4) rfl (iZ_add i 1) (by decide) rfl (fun ls hl => ?_)
              refine lv_goto (tgt := 3) hx hb dX5_hasIce_107 rfl ?_
              exact ih1  (i + 1) _ (by omega) (by omega) (by omega) (by intro j h1 h2; rcases Int.lt_or_eq_of_le (show j ≤ i by omega) with h3 | h3; exact hi3 j h1 h3; rw [h3]; unfold icR; omega) (lv_sub hl [0, 5, 6, 7, 8] rfl)
            ·
              have c_12 := (zeq (x := iZ (gz g ((i * 4) + 1))) (y := iZ a) rfl rfl (gz_rg g ((i * 4) + 1)) ⟨by omega, by omega⟩).mp c_12
              refine lv_iconst (v := iZ 1) hx hb dX5_hasIce_64 rfl ?_
              refine lv_goto (tgt := 69) hx hb dX5_hasIce_65 rfl ?_
              refine lv_istore (lv' := [(8, .int (iZ 1)), (7, .int (iZ (gz g ((i * 4) + 1)))), (6, .int (iZ (gz g ((i * 4) + 0)))), (5, .int (iZ (i * 4))), (4, .int (iZ i)), (0, .ref h), (1, .int (iZ a)), (2, .int (iZ b)), (3, .int (iZ w))]) hx hb dX5_hasIce_69 hl (bl rfl) rfl (fun ls hl => ?_)
              refine lv_iload hx hb dX5_hasIce_71 (lv_at hl 0 rfl) ?_
              refine lv_if_eq (tgt := 104) hx hb dX5_hasIce_73 rfl (fun c => absurd c (by decide)) (fun _ => ?_)
              refine lv_iload_n hx hb dX5_hasIce_76 rfl (lv_at hl 8 rfl) ?_
              refine lv_aload_n hx hb dX5_hasIce_77 rfl (lv_at hl 5 rfl) ?_
              refine va_get (D := D) (ci := 5) (v := .ref hg) (C := RX5) (T := TX5) (N := 7) hx hb hts iX5 hown hK hP 0 rfl rfl 2 (bl rfl) (hts _ qf_X5_19) (fun _ h => h) f2 dX5_hasIce_78 ?_
              refine lv_iload hx hb dX5_hasIce_81 (lv_at hl 3 rfl) ?_
              refine lv_iconst (v := iZ 2) hx hb dX5_hasIce_83 rfl ?_
              refine lv_iadd hx hb dX5_hasIce_84 ?_
              refine lv_topi (fun x_15 ex_15 => ?_)
              obtain rfl : x_15 = iZ ((i * 4) + 2) := ex_15.trans (iZ_add (i * 4) 2)
              refine va_iald hx hb hK hP 1 1 rfl rfl (zin (e := ((i * 4) + 2)) (n := 32) ⟨by omega, by omega⟩ (bl rfl)) dX5_hasIce_85 ?_
              refine lv_topi (fun x_16 ex_16 => ?_)
              obtain rfl : x_16 = iZ (gz g ((i * 4) + 2)) := ex_16.trans (gz_eq ⟨by omega, by omega⟩)
              have h_17 := gz_rg g ((i * 4) + 2)
              refine lv_icmp_lt (tgt := 104) hx hb dX5_hasIce_86 rfl (fun c_18 => ?_) (fun c_18 => ?_)
              ·
                have c_18 := (zlt (x := iZ w) (y := iZ (gz g ((i * 4) + 2))) rfl rfl ⟨by omega, by omega⟩ (gz_rg g ((i * 4) + 2))).mp c_18
                refine lv_iinc (v := iZ (i + 1)) (lv' := [(4, .int (iZ (i + 1))), (8, .int (iZ 1)), (7, .int (iZ (gz g ((i * 4) + 1)))), (6, .int (iZ (gz g ((i * 4) + 0)))), (5, .int (iZ (i * 4))), (0, .ref h), (1, .int (iZ a)), (2, .int (iZ b)), (3, .int (iZ w))]) hx hb dX5_hasIce_104 hl (k := 4) rfl (iZ_add i 1) (by decide) rfl (fun ls hl => ?_)
                refine lv_goto (tgt := 3) hx hb dX5_hasIce_107 rfl ?_
                exact ih1  (i + 1) _ (by omega) (by omega) (by omega) (by intro j h1 h2; rcases Int.lt_or_eq_of_le (show j ≤ i by omega) with h3 | h3; exact hi3 j h1 h3; rw [h3]; unfold icR; omega) (lv_sub hl [0, 5, 6, 7, 8] rfl)
              ·
                have c_18 := mt (zlt (x := iZ w) (y := iZ (gz g ((i * 4) + 2))) rfl rfl ⟨by omega, by omega⟩ (gz_rg g ((i * 4) + 2))).mpr c_18
                refine lv_iload_n hx hb dX5_hasIce_89 rfl (lv_at hl 8 rfl) ?_
                refine lv_aload_n hx hb dX5_hasIce_90 rfl (lv_at hl 5 rfl) ?_
                refine va_get (D := D) (ci := 5) (v := .ref hg) (C := RX5) (T := TX5) (N := 7) hx hb hts iX5 hown hK hP 0 rfl rfl 2 (bl rfl) (hts _ qf_X5_19) (fun _ h => h) f2 dX5_hasIce_91 ?_
                refine lv_iload hx hb dX5_hasIce_94 (lv_at hl 3 rfl) ?_
                refine lv_iconst (v := iZ 3) hx hb dX5_hasIce_96 rfl ?_
                refine lv_iadd hx hb dX5_hasIce_97 ?_
                refine lv_topi (fun x_19 ex_19 => ?_)
                obtain rfl : x_19 = iZ ((i * 4) + 3) := ex_19.trans (iZ_add (i * 4) 3)
                refine va_iald hx hb hK hP 1 1 rfl rfl (zin (e := ((i * 4) + 3)) (n := 32) ⟨by omega, by omega⟩ (bl rfl)) dX5_hasIce_98 ?_
                refine lv_topi (fun x_20 ex_20 => ?_)
                obtain rfl : x_20 = iZ (gz g ((i * 4) + 3)) := ex_20.trans (gz_eq ⟨by omega, by omega⟩)
                have h_21 := gz_rg g ((i * 4) + 3)
                refine lv_icmp_gt (tgt := 104) hx hb dX5_hasIce_99 rfl (fun c_22 => ?_) (fun c_22 => ?_)
                ·
                  have c_22 := (zlt (x := iZ (gz g ((i * 4) + 3))) (y := iZ w) rfl rfl (gz_rg g ((i * 4) + 3)) ⟨by omega, by omega⟩).mp c_22
                  refine lv_iinc (v := iZ (i + 1)) (lv' := [(4, .int (iZ (i + 1))), (8, .int (iZ 1)), (7, .int (iZ (gz g ((i * 4) + 1)))), (6, .int (iZ (gz g ((i * 4) + 0)))), (5, .int (iZ (i * 4))), (0, .ref h), (1, .int (iZ a)), (2, .int (iZ b)), (3, .int (iZ w))]) hx hb dX5_hasIce_104 hl (k := 4) rfl (iZ_add i 1) (by decide) rfl (fun ls hl => ?_)
                  refine lv_goto (tgt := 3) hx hb dX5_hasIce_107 rfl ?_
                  exact ih1  (i + 1) _ (by omega) (by omega) (by omega) (by intro j h1 h2; rcases Int.lt_or_eq_of_le (show j ≤ i by omega) with h3 | h3; exact hi3 j h1 h3; rw [h3]; unfold icR; omega) (lv_sub hl [0, 5, 6, 7, 8] rfl)
                ·
                  have c_22 := mt (zlt (x := iZ (gz g ((i * 4) + 3))) (y := iZ w) rfl rfl (gz_rg g ((i * 4) + 3)) ⟨by omega, by omega⟩).mpr c_22
                  refine lv_iconst (v := iZ 1) hx hb dX5_hasIce_102 rfl ?_
                  exact ERz hx hb hr hlocks rfl (by rw [bz_t ⟨i, hi1, by omega, by unfold icR; omega⟩]) dX5_hasIce_103
        ·
          have c_9 := (zeq (x := iZ (gz g ((i * 4) + 0))) (y := iZ a) rfl rfl (gz_rg g ((i * 4) + 0)) ⟨by omega, by omega⟩).mp c_9
          refine lv_iload hx hb dX5_hasIce_46 (lv_at hl 0 rfl) ?_
          refine lv_iload_n hx hb dX5_hasIce_48 rfl (lv_at hl 6 rfl) ?_
          refine lv_icmp_eq (tgt := 64) hx hb dX5_hasIce_49 rfl (fun c_23 => ?_) (fun c_23 => ?_)
          ·
            have c_23 := (zeq (x := iZ (gz g ((i * 4) + 1))) (y := iZ b) rfl rfl (gz_rg g ((i * 4) + 1)) ⟨by omega, by omega⟩).mp c_23
            refine lv_iconst (v := iZ 1) hx hb dX5_hasIce_64 rfl ?_
            refine lv_goto (tgt := 69) hx hb dX5_hasIce_65 rfl ?_
            refine lv_istore (lv' := [(8, .int (iZ 1)), (7, .int (iZ (gz g ((i * 4) + 1)))), (6, .int (iZ (gz g ((i * 4) + 0)))), (5, .int (iZ (i * 4))), (4, .int (iZ i)), (0, .ref h), (1, .int (iZ a)), (2, .int (iZ b)), (3, .int (iZ w))]) hx hb dX5_hasIce_69 hl (bl rfl) rfl (fun ls hl => ?_)
            refine lv_iload hx hb dX5_hasIce_71 (lv_at hl 0 rfl) ?_
            refine lv_if_eq (tgt := 104) hx hb dX5_hasIce_73 rfl (fun c => absurd c (by decide)) (fun _ => ?_)
            refine lv_iload_n hx hb dX5_hasIce_76 rfl (lv_at hl 8 rfl) ?_
            refine lv_aload_n hx hb dX5_hasIce_77 rfl (lv_at hl 5 rfl) ?_
            refine va_get (D := D) (ci := 5) (v := .ref hg) (C := RX5) (T := TX5) (N := 7) hx hb hts iX5 hown hK hP 0 rfl rfl 2 (bl rfl) (hts _ qf_X5_19) (fun _ h => h) f2 dX5_hasIce_78 ?_
            refine lv_iload hx hb dX5_hasIce_81 (lv_at hl 3 rfl) ?_
            refine lv_iconst (v := iZ 2) hx hb dX5_hasIce_83 rfl ?_
            refine lv_iadd hx hb dX5_hasIce_84 ?_
            refine lv_topi (fun x_25 ex_25 => ?_)
            obtain rfl : x_25 = iZ ((i * 4) + 2) := ex_25.trans (iZ_add (i * 4) 2)
            refine va_iald hx hb hK hP 1 1 rfl rfl (zin (e := ((i * 4) + 2)) (n := 32) ⟨by omega, by omega⟩ (bl rfl)) dX5_hasIce_85 ?_
            refine lv_topi (fun x_26 ex_26 => ?_)
            obtain rfl : x_26 = iZ (gz g ((i * 4) + 2)) := ex_26.trans (gz_eq ⟨by omega, by omega⟩)
            have h_27 := gz_rg g ((i * 4) + 2)
            refine lv_icmp_lt (tgt := 104) hx hb dX5_hasIce_86 rfl (fun c_28 => ?_) (fun c_28 => ?_)
            ·
              have c_28 := (zlt (x := iZ w) (y := iZ (gz g ((i * 4) + 2))) rfl rfl ⟨by omega, by omega⟩ (gz_rg g ((i * 4) + 2))).mp c_28
              refine lv_iinc (v := iZ (i + 1)) (lv' := [(4, .int (iZ (i + 1))), (8, .int (iZ 1)), (7, .int (iZ (gz g ((i * 4) + 1)))), (6, .int (iZ (gz g ((i * 4) + 0)))), (5, .int (iZ (i * 4))), (0, .ref h), (1, .int (iZ a)), (2, .int (iZ b)), (3, .int (iZ w))]) hx hb dX5_hasIce_104 hl (k := 4) rfl (iZ_add i 1) (by decide) rfl (fun ls hl => ?_)
              refine lv_goto (tgt := 3) hx hb dX5_hasIce_107 rfl ?_
              exact ih1  (i + 1) _ (by omega) (by omega) (by omega) (by intro j h1 h2; rcases Int.lt_or_eq_of_le (show j ≤ i by omega) with h3 | h3; exact hi3 j h1 h3; rw [h3]; unfold icR; omega) (lv_sub hl [0, 5, 6, 7, 8] rfl)
            ·
              have c_28 := mt (zlt (x := iZ w) (y := iZ (gz g ((i * 4) + 2))) rfl rfl ⟨by omega, by omega⟩ (gz_rg g ((i * 4) + 2))).mpr c_28
              refine lv_iload_n hx hb dX5_hasIce_89 rfl (lv_at hl 8 rfl) ?_
              refine lv_aload_n hx hb dX5_hasIce_90 rfl (lv_at hl 5 rfl) ?_
              refine va_get (D := D) (ci := 5) (v := .ref hg) (C := RX5) (T := TX5) (N := 7) hx hb hts iX5 hown hK hP 0 rfl rfl 2 (bl rfl) (hts _ qf_X5_19) (fun _ h => h) f2 dX5_hasIce_91 ?_
              refine lv_iload hx hb dX5_hasIce_94 (lv_at hl 3 rfl) ?_
              refine lv_iconst (v := iZ 3) hx hb dX5_hasIce_96 rfl ?_
              refine lv_iadd hx hb dX5_hasIce_97 ?_
              refine lv_topi (fun x_29 ex_29 => ?_)
              obtain rfl : x_29 = iZ ((i * 4) + 3) := ex_29.trans (iZ_add (i * 4) 3)
              refine va_iald hx hb hK hP 1 1 rfl rfl (zin (e := ((i * 4) + 3)) (n := 32) ⟨by omega, by omega⟩ (bl rfl)) dX5_hasIce_98 ?_
              refine lv_topi (fun x_30 ex_30 => ?_)
              obtain rfl : x_30 = iZ (gz g ((i * 4) + 3)) := ex_30.trans (gz_eq ⟨by omega, by omega⟩)
              have h_31 := gz_rg g ((i * 4) + 3)
              refine lv_icmp_gt (tgt := 104) hx hb dX5_hasIce_99 rfl (fun c_32 => ?_) (fun c_32 => ?_)
              ·
                have c_32 := (zlt (x := iZ (gz g ((i * 4) + 3))) (y := iZ w) rfl rfl (gz_rg g ((i * 4) + 3)) ⟨by omega, by omega⟩).mp c_32
                refine lv_iinc (v := iZ (i + 1)) (lv' := [(4, .int (iZ (i + 1))), (8, .int (iZ 1)), (7, .int (iZ (gz g ((i * 4) + 1)))), (6, .int (iZ (gz g ((i * 4) + 0)))), (5, .int (iZ (i * 4))), (0, .ref h), (1, .int (iZ a)), (2, .int (iZ b)), (3, .int (iZ w))]) hx hb dX5_hasIce_104 hl (k := 4) rfl (iZ_add i 1) (by decide) rfl (fun ls hl => ?_)
                refine lv_goto (tgt := 3) hx hb dX5_hasIce_107 rfl ?_
                exact ih1  (i + 1) _ (by omega) (by omega) (by omega) (by intro j h1 h2; rcases Int.lt_or_eq_of_le (show j ≤ i by omega) with h3 | h3; exact hi3 j h1 h3; rw [h3]; unfold icR; omega) (lv_sub hl [0, 5, 6, 7, 8] rfl)
              ·
                have c_32 := mt (zlt (x := iZ (gz g ((i * 4) + 3))) (y := iZ w) rfl rfl (gz_rg g ((i * 4) + 3)) ⟨by omega, by omega⟩).mpr c_32
                refine lv_iconst (v := iZ 1) hx hb dX5_hasIce_102 rfl ?_
                exact ERz hx hb hr hlocks rfl (by rw [bz_t ⟨i, hi1, by omega, by unfold icR; omega⟩]) dX5_hasIce_103
          ·
            have c_23 := mt (zeq (x := iZ (gz g ((i * 4) + 1))) (y := iZ b) rfl rfl (gz_rg g ((i * 4) + 1)) ⟨by omega, by omega⟩).mpr c_23
            refine lv_iload hx hb dX5_hasIce_52 (lv_at hl 1 rfl) ?_
            refine lv_iload_n hx hb dX5_hasIce_54 rfl (lv_at hl 6 rfl) ?_
            refine lv_icmp_ne (tgt := 68) hx hb dX5_hasIce_55 rfl (fun c_33 => ?_) (fun c_33 => ?_)
            ·
              have c_33 := mt (zeq (x := iZ (gz g ((i * 4) + 0))) (y := iZ b) rfl rfl (gz_rg g ((i * 4) + 0)) ⟨by omega, by omega⟩).mpr c_33
              refine lv_iconst (v := iZ 0) hx hb dX5_hasIce_68 rfl ?_
              refine lv_istore (lv' := [(8, .int (iZ 0)), (7, .int (iZ (gz g ((i * 4) + 1)))), (6, .int (iZ (gz g ((i * 4) + 0)))), (5, .int (iZ (i * 4))), (4, .int (iZ i)), (0, .ref h), (1, .int (iZ a)), (2, .int (iZ b)), (3, .int (iZ w))]) hx hb dX5_hasIce_69 hl (bl rfl) rfl (fun ls hl => ?_)
              refine lv_iload hx hb dX5_hasIce_71 (lv_at hl 0 rfl) ?_
              refine lv_if_eq (tgt := 104) hx hb dX5_hasIce_73 rfl (fun _ => ?_) (fun c => absurd (by decide) c)
              refine lv_iinc (v := iZ (i + 1)) (lv' := [(4, .int (iZ (i + 1))), (8, .int (iZ 0)), (7, .int (iZ (gz g ((i * 4) + 1)))), (6, .int (iZ (gz g ((i * 4) + 0)))), (5, .int (iZ (i * 4))), (0, .ref h), (1, .int (iZ a)), (2, .int (iZ b)), (3, .int (iZ w))]) hx hb dX5_hasIce_104 hl (k := 4) rfl (iZ_add i 1) (by decide) rfl (fun ls hl => ?_)
              refine lv_goto (tgt := 3) hx hb dX5_hasIce_107 rfl ?_
              exact ih1  (i + 1) _ (by omega) (by omega) (by omega) (by intro j h1 h2; rcases Int.lt_or_eq_of_le (show j ≤ i by omega) with h3 | h3; exact hi3 j h1 h3; rw [h3]; unfold icR; omega) (lv_sub hl [0, 5, 6, 7, 8] rfl)
            ·
              have c_33 := (zeq (x := iZ (gz g ((i * 4) + 0))) (y := iZ b) rfl rfl (gz_rg g ((i * 4) + 0)) ⟨by omega, by omega⟩).mp c_33
              refine lv_iload hx hb dX5_hasIce_58 (lv_at hl 0 rfl) ?_
              refine lv_iload_n hx hb dX5_hasIce_60 rfl (lv_at hl 5 rfl) ?_
              refine lv_icmp_ne (tgt := 68) hx hb dX5_hasIce_61 rfl (fun c_35 => ?_) (fun c_35 => ?_)
              ·
                have c_35 := mt (zeq (x := iZ (gz g ((i * 4) + 1))) (y := iZ a) rfl rfl (gz_rg g ((i * 4) + 1)) ⟨by omega, by omega⟩).mpr c_35
                refine lv_iconst (v := iZ 0) hx hb dX5_hasIce_68 rfl ?_
                refine lv_istore (lv' := [(8, .int (iZ 0)), (7, .int (iZ (gz g ((i * 4) + 1)))), (6, .int (iZ (gz g ((i * 4) + 0)))), (5, .int (iZ (i * 4))), (4, .int (iZ i)), (0, .ref h), (1, .int (iZ a)), (2, .int (iZ b)), (3, .int (iZ w))]) hx hb dX5_hasIce_69 hl (bl rfl) rfl (fun ls hl => ?_)
                refine lv_iload hx hb dX5_hasIce_71 (lv_at hl 0 rfl) ?_
                refine lv_if_eq (tgt := 104) hx hb dX5_hasIce_73 rfl (fun _ => ?_) (fun c => absurd (by decide) c)
                refine lv_iinc (v := iZ (i + 1)) (lv' := [(4, .int (iZ (i + 1))), (8, .int (iZ 0)), (7, .int (iZ (gz g ((i * 4) + 1)))), (6, .int (iZ (gz g ((i * 4) + 0)))), (5, .int (iZ (i * 4))), (0, .ref h), (1, .int (iZ a)), (2, .int (iZ b)), (3, .int (iZ w))]) hx hb dX5_hasIce_104 hl (k := 4) rfl (iZ_add i 1) (by decide) rfl (fun ls hl => ?_)
                refine lv_goto (tgt := 3) hx hb dX5_hasIce_107 rfl ?_
                exact ih1  (i + 1) _ (by omega) (by omega) (by omega) (by intro j h1 h2; rcases Int.lt_or_eq_of_le (show j ≤ i by omega) with h3 | h3; exact hi3 j h1 h3; rw [h3]; unfold icR; omega) (lv_sub hl [0, 5, 6, 7, 8] rfl)
              ·
                have c_35 := (zeq (x := iZ (gz g ((i * 4) + 1))) (y := iZ a) rfl rfl (gz_rg g ((i * 4) + 1)) ⟨by omega, by omega⟩).mp c_35
                refine lv_iconst (v := iZ 1) hx hb dX5_hasIce_64 rfl ?_
                refine lv_goto (tgt := 69) hx hb dX5_hasIce_65 rfl ?_
                refine lv_istore (lv' := [(8, .int (iZ 1)), (7, .int (iZ (gz g ((i * 4) + 1)))), (6, .int (iZ (gz g ((i * 4) + 0)))), (5, .int (iZ (i * 4))), (4, .int (iZ i)), (0, .ref h), (1, .int (iZ a)), (2, .int (iZ b)), (3, .int (iZ w))]) hx hb dX5_hasIce_69 hl (bl rfl) rfl (fun ls hl => ?_)
                refine lv_iload hx hb dX5_hasIce_71 (lv_at hl 0 rfl) ?_
                refine lv_if_eq (tgt := 104) hx hb dX5_hasIce_73 rfl (fun c => absurd c (by decide)) (fun _ => ?_)
                refine lv_iload_n hx hb dX5_hasIce_76 rfl (lv_at hl 8 rfl) ?_
                refine lv_aload_n hx hb dX5_hasIce_77 rfl (lv_at hl 5 rfl) ?_
                refine va_get (D := D) (ci := 5) (v := .ref hg) (C := RX5) (T := TX5) (N := 7) hx hb hts iX5 hown hK hP 0 rfl rfl 2 (bl rfl) (hts _ qf_X5_19) (fun _ h => h) f2 dX5_hasIce_78 ?_
                refine lv_iload hx hb dX5_hasIce_81 (lv_at hl 3 rfl) ?_
                refine lv_iconst (v := iZ 2) hx hb dX5_hasIce_83 rfl ?_
                refine lv_iadd hx hb dX5_hasIce_84 ?_
                refine lv_topi (fun x_38 ex_38 => ?_)
                obtain rfl : x_38 = iZ ((i * 4) + 2) := ex_38.trans (iZ_add (i * 4) 2)
                refine va_iald hx hb hK hP 1 1 rfl rfl (zin (e := ((i * 4) + 2)) (n := 32) ⟨by omega, by omega⟩ (bl rfl)) dX5_hasIce_85 ?_
                refine lv_topi (fun x_39 ex_39 => ?_)
                obtain rfl : x_39 = iZ (gz g ((i * 4) + 2)) := ex_39.trans (gz_eq ⟨by omega, by omega⟩)
                have h_40 := gz_rg g ((i * 4) + 2)
                refine lv_icmp_lt (tgt := 104) hx hb dX5_hasIce_86 rfl (fun c_41 => ?_) (fun c_41 => ?_)
                ·
                  have c_41 := (zlt (x := iZ w) (y := iZ (gz g ((i * 4) + 2))) rfl rfl ⟨by omega, by omega⟩ (gz_rg g ((i * 4) + 2))).mp c_41
                  refine lv_iinc (v := iZ (i + 1)) (lv' := [(4, .int (iZ (i + 1))), (8, .int (iZ 1)), (7, .int (iZ (gz g ((i * 4) + 1)))), (6, .int (iZ (gz g ((i * 4) + 0)))), (5, .int (iZ (i * 4))), (0, .ref h), (1, .int (iZ a)), (2, .int (iZ b)), (3, .int (iZ w))]) hx hb dX5_hasIce_104 hl (k := 4) rfl (iZ_add i 1) (by decide) rfl (fun ls hl => ?_)
                  refine lv_goto (tgt := 3) hx hb dX5_hasIce_107 rfl ?_
                  exact ih1  (i + 1) _ (by omega) (by omega) (by omega) (by intro j h1 h2; rcases Int.lt_or_eq_of_le (show j ≤ i by omega) with h3 | h3; exact hi3 j h1 h3; rw [h3]; unfold icR; omega) (lv_sub hl [0, 5, 6, 7, 8] rfl)
                ·
                  have c_41 := mt (zlt (x := iZ w) (y := iZ (gz g ((i * 4) + 2))) rfl rfl ⟨by omega, by omega⟩ (gz_rg g ((i * 4) + 2))).mpr c_41
                  refine lv_iload_n hx hb dX5_hasIce_89 rfl (lv_at hl 8 rfl) ?_
                  refine lv_aload_n hx hb dX5_hasIce_90 rfl (lv_at hl 5 rfl) ?_
                  refine va_get (D := D) (ci := 5) (v := .ref hg) (C := RX5) (T := TX5) (N := 7) hx hb hts iX5 hown hK hP 0 rfl rfl 2 (bl rfl) (hts _ qf_X5_19) (fun _ h => h) f2 dX5_hasIce_91 ?_
                  refine lv_iload hx hb dX5_hasIce_94 (lv_at hl 3 rfl) ?_
                  refine lv_iconst (v := iZ 3) hx hb dX5_hasIce_96 rfl ?_
                  refine lv_iadd hx hb dX5_hasIce_97 ?_
                  refine lv_topi (fun x_42 ex_42 => ?_)
                  obtain rfl : x_42 = iZ ((i * 4) + 3) := ex_42.trans (iZ_add (i * 4) 3)
                  refine va_iald hx hb hK hP 1 1 rfl rfl (zin (e := ((i * 4) + 3)) (n := 32) ⟨by omega, by omega⟩ (bl rfl)) dX5_hasIce_98 ?_
                  refine lv_topi (fun x_43 ex_43 => ?_)
                  obtain rfl : x_43 = iZ (gz g ((i * 4) + 3)) := ex_43.trans (gz_eq ⟨by omega, by omega⟩)
                  have h_44 := gz_rg g ((i * 4) + 3)
                  refine lv_icmp_gt (tgt := 104) hx hb dX5_hasIce_99 rfl (fun c_45 => ?_) (fun c_45 => ?_)
                  ·
                    have c_45 := (zlt (x := iZ (gz g ((i * 4) + 3))) (y := iZ w) rfl rfl (gz_rg g ((i * 4) + 3)) ⟨by omega, by omega⟩).mp c_45
                    refine lv_iinc (v := iZ (i + 1)) (lv' := [(4, .int (iZ (i + 1))), (8, .int (iZ 1)), (7, .int (iZ (gz g ((i * 4) + 1)))), (6, .int (iZ (gz g ((i * 4) + 0)))), (5, .int (iZ (i * 4))), (0, .ref h), (1, .int (iZ a)), (2, .int (iZ b)), (3, .int (iZ w))]) hx hb dX5_hasIce_104 hl (k := 4) rfl (iZ_add i 1) (by decide) rfl (fun ls hl => ?_)
                    refine lv_goto (tgt := 3) hx hb dX5_hasIce_107 rfl ?_
                    exact ih1  (i + 1) _ (by omega) (by omega) (by omega) (by intro j h1 h2; rcases Int.lt_or_eq_of_le (show j ≤ i by omega) with h3 | h3; exact hi3 j h1 h3; rw [h3]; unfold icR; omega) (lv_sub hl [0, 5, 6, 7, 8] rfl)
                  ·
                    have c_45 := mt (zlt (x := iZ (gz g ((i * 4) + 3))) (y := iZ w) rfl rfl (gz_rg g ((i * 4) + 3)) ⟨by omega, by omega⟩).mpr c_45
                    refine lv_iconst (v := iZ 1) hx hb dX5_hasIce_102 rfl ?_
                    exact ERz hx hb hr hlocks rfl (by rw [bz_t ⟨i, hi1, by omega, by unfold icR; omega⟩]) dX5_hasIce_103
  exact HL1 10 0 _ (by omega) (by omega) (by omega) (fun j h1 h2 => absurd h1 (by omega)) (lv_sub hl [0, 1, 2, 3, 4] rfl)
/-- the first of the names, or -1 -/
def isNm (g : Nat → Int64) (n : Int) (v : Int64) (z : Int) : Prop := (z = -1 ∧ ∀ j : Int, 0 ≤ j → j < n → ¬ g j.toNat = v) ∨ (0 ≤ z ∧ z < n ∧ g z.toNat = v ∧ ∀ j : Int, 0 ≤ j → j < z → ¬ g j.toNat = v)
theorem lgc_eq {x y : Int64} : lg_cmp x y = 0 ↔ x = y := lg_cmp_eq x y
set_option maxHeartbeats 4000000 in
set_option maxRecDepth 100000 in
theorem k_named (l : Launch) (D : va_G) (k : Nat → ClassId) (h hg : Nat) (fs : List Value) (f0 : fs[0]? = some (.ref hg)) (g : Nat → Int64) (n : Int) (f3 : fs[3]? = some (.int (iZ n))) (hn : 0 ≤ n ∧ n ≤ 6) (v : Int64) : RP l yX5_named cX5_named 4 (some .int) 0 D k [.ref h, .long v] [(h, .inr (5, fs)), (hg, .inl (k 2, 6, .inr (.inl g)))] (fun z => isNm g n v z) := by
  refine MRP (by decide) (Nat.le_of_ble_eq_true rfl) (fun p e s m below meth c ls hx hb hml hr hlocks hts hown hKK hP hl => ?_)
  have hK := hKK.1
  have hl : lv_has ls 4 [(0, .ref h), (1, .long v)] := hl
  refine lv_iconst (v := iZ 0) hx hb dX5_named_0 rfl ?_
  refine lv_istore_n (lv' := [(3, .int (iZ 0)), (0, .ref h), (1, .long v)]) hx hb dX5_named_1 rfl hl (bl rfl) rfl (fun ls hl => ?_)
  have HL1 : ∀ (fu : Nat) (i : Int) (ls : Array Slot), (n + 1 - i) < (fu : Int) → 0 ≤ i → i ≤ n → (∀ j : Int, 0 ≤ j → j < i → ¬ g j.toNat = v) → lv_has ls 4 [(3, .int (iZ i)), (0, .ref h), (1, .long v)] → W p l e (rj 0 0 0) s m [.ref h, .long v].toArray below meth c s.heap [] 0 0 (MQ below (QcP (fun z => isNm g n v z)) [.ref h, .long v].toArray s 0 0 (fun _ => False)) (F0 m 2 ls []) := by
    intro fu
    induction fu with
    | zero => intro i ls hμ1 hi1 hi2 hi3 hl; exact absurd hμ1 (by omega)
    | succ fu ih1 =>
      intro i ls hμ1 hi1 hi2 hi3 hl
      refine lv_iload_n hx hb dX5_named_2 rfl (lv_at hl 0 rfl) ?_
      refine lv_aload_n hx hb dX5_named_3 rfl (lv_at hl 1 rfl) ?_
      refine va_get (D := D) (ci := 5) (v := .int (iZ n)) (C := RX5) (T := TX5) (N := 7) hx hb hts iX5 hown hK hP 0 rfl rfl 3 (bl rfl) (hts _ qf_X5_22) (fun _ h => h) f3 dX5_named_4 ?_
      refine lv_icmp_ge (tgt := 29) hx hb dX5_named_7 rfl (fun c_1 => ?_) (fun c_1 => ?_)
      ·
        have c_1 := (zle (x := iZ n) (y := iZ i) rfl rfl ⟨by omega, by omega⟩ ⟨by omega, by omega⟩).mp c_1
        refine lv_iconst (v := iZ (-1)) hx hb dX5_named_29 rfl ?_
        exact EPi hx hb hr hlocks (Or.inl ⟨rfl, fun j h1 h2 => hi3 j h1 (by omega)⟩) dX5_named_30
      ·
        have c_1 := mt (zle (x := iZ n) (y := iZ i) rfl rfl ⟨by omega, by omega⟩ ⟨by omega, by omega⟩).mpr c_1
        refine lv_aload_n hx hb dX5_named_10 rfl (lv_at hl 1 rfl) ?_
        refine va_get (D := D) (ci := 5) (v := .ref hg) (C := RX5) (T := TX5) (N := 7) hx hb hts iX5 hown hK hP 0 rfl rfl 0 (bl rfl) (hts _ qf_X5_9) (fun _ h => h) f0 dX5_named_11 ?_
        refine lv_iload_n hx hb dX5_named_14 rfl (lv_at hl 0 rfl) ?_
        refine va_lald hx hb hK hP 1 2 rfl rfl (zin (e := i) (n := 6) ⟨by omega, by omega⟩ (bl rfl)) dX5_named_15 ?_
        refine lv_topl (fun y_2 ey_2 => ?_)
        refine lv_lload_n hx hb dX5_named_16 rfl (lv_at hl 2 rfl) ?_
        refine W.lcmp hx hb dX5_named_17 ?_
        refine lv_if_ne (tgt := 23) hx hb dX5_named_18 rfl (fun c_3 => ?_) (fun c_3 => ?_)
        ·
          refine lv_iinc (v := iZ (i + 1)) (lv' := [(3, .int (iZ (i + 1))), (0, .ref h), (1, .long v)]) hx hb dX5_named_23 hl (k := 0) rfl (iZ_add i 1) (by decide) rfl (fun ls hl => ?_)
          refine lv_goto (tgt := 2) hx hb dX5_named_26 rfl ?_
          exact ih1  (i + 1) _ (by omega) (by omega) (by omega) (by intro j h1 h2; rcases Int.lt_or_eq_of_le (show j ≤ i by omega) with h3 | h3; exact hi3 j h1 h3; rw [h3]; intro h4; apply c_3; rw [lgc_eq, ey_2, zcl ⟨by omega, by omega⟩]; exact h4) (lv_sub hl [0, 1, 2] rfl)
        ·
          refine lv_iload_n hx hb dX5_named_21 rfl (lv_at hl 0 rfl) ?_
          exact EPi hx hb hr hlocks (Or.inr ⟨hi1, by omega, by rw [← zcl (e := i) ⟨by omega, by omega⟩, ← ey_2]; exact lgc_eq.mp c_3, hi3⟩) dX5_named_22
  exact HL1 8 0 _ (by omega) (by omega) (by omega) (fun j h1 h2 => absurd h1 (by omega)) (lv_sub hl [0, 1, 2] rfl)
end
