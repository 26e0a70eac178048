theorem qf_X12_75 : Cond.fieldLink RX12 75 "SlowWorldsModel" "status" "I" ∈ gw := tbt (tb6 (List.mem_of_getElem? (i := 46) rfl)) rfl
theorem qc_X12_gives : Cond.code yX12_gives cX12_gives 2 (some .int) ∈ gw := tbt (tb7 (List.mem_of_getElem? (i := 66) rfl)) rfl
theorem qi_yX12_gives : Cond.instanceMethod yX12_gives ∈ gw := tbt (tb7 (List.mem_of_getElem? (i := 65) rfl)) rfl
theorem qs_X12_gives : Cond.selects (yX12_gives).cls yX12_gives yX12_gives ∈ gw := tb0 (List.mem_of_getElem? (i := 60) rfl) rfl
theorem ci_X12_gives : CIv yX12_gives cX12_gives 2 (some .int) 1 := ⟨qc_X12_gives, qi_yX12_gives, qs_X12_gives, qz_X12, by decide +kernel⟩
theorem qm_X12_85 : Cond.methodLink RX12 85 yX12_gives ∈ gw := tbt (tb7 (List.mem_of_getElem? (i := 63) rfl)) rfl
theorem qc_X12_refuse : Cond.code yX12_refuse cX12_refuse 2 (some .int) ∈ gw := tbt (tb6 (List.mem_of_getElem? (i := 235) rfl)) rfl
theorem qi_yX12_refuse : Cond.instanceMethod yX12_refuse ∈ gw := tbt (tb6 (List.mem_of_getElem? (i := 234) rfl)) rfl
theorem qs_X12_refuse : Cond.selects (yX12_refuse).cls yX12_refuse yX12_refuse ∈ gw := tb0 (List.mem_of_getElem? (i := 43) rfl) rfl
theorem ci_X12_refuse : CIv yX12_refuse cX12_refuse 2 (some .int) 1 := ⟨qc_X12_refuse, qi_yX12_refuse, qs_X12_refuse, qz_X12, by decide +kernel⟩
theorem qm_X12_81 : Cond.methodLink RX12 81 yX12_refuse ∈ gw := tbt (tb6 (List.mem_of_getElem? (i := 232) rfl)) rfl
theorem qc_X12_isAsked : Cond.code yX12_isAsked cX12_isAsked 1 (some .boolean) ∈ gw := tbt (tb7 (List.mem_of_getElem? (i := 112) rfl)) rfl
theorem qt_yX12_isAsked : Cond.static yX12_isAsked ∈ gw := tbt (tb7 (List.mem_of_getElem? (i := 111) rfl)) rfl
theorem ci_X12_isAsked : CIs yX12_isAsked cX12_isAsked 1 (some .boolean) 1 := ⟨qc_X12_isAsked, qt_yX12_isAsked, qz_X12, by decide +kernel⟩
theorem qm_X12_258 : Cond.methodLink RX12 258 yX12_isAsked ∈ gw := tbt (tb7 (List.mem_of_getElem? (i := 110) rfl)) rfl
theorem qc_X12_areTwo : Cond.code yX12_areTwo cX12_areTwo 3 (some .boolean) ∈ gw := tbt (tb7 (List.mem_of_getElem? (i := 136) rfl)) rfl
theorem qi_yX12_areTwo : Cond.instanceMethod yX12_areTwo ∈ gw := tbt (tb7 (List.mem_of_getElem? (i := 135) rfl)) rfl
theorem qs_X12_areTwo : Cond.selects (yX12_areTwo).cls yX12_areTwo yX12_areTwo ∈ gw := tb0 (List.mem_of_getElem? (i := 68) rfl) rfl
theorem ci_X12_areTwo : CIv yX12_areTwo cX12_areTwo 3 (some .boolean) 2 := ⟨qc_X12_areTwo, qi_yX12_areTwo, qs_X12_areTwo, qz_X12, by decide +kernel⟩
theorem qm_X12_265 : Cond.methodLink RX12 265 yX12_areTwo ∈ gw := tbt (tb7 (List.mem_of_getElem? (i := 133) rfl)) rfl
theorem qc_X12_orNever : Cond.code yX12_orNever cX12_orNever 2 (some .int) ∈ gw := tbt (tb7 (List.mem_of_getElem? (i := 164) rfl)) rfl
theorem qi_yX12_orNever : Cond.instanceMethod yX12_orNever ∈ gw := tbt (tb7 (List.mem_of_getElem? (i := 163) rfl)) rfl
theorem qs_X12_orNever : Cond.selects (yX12_orNever).cls yX12_orNever yX12_orNever ∈ gw := tb0 (List.mem_of_getElem? (i := 73) rfl) rfl
theorem ci_X12_orNever : CIv yX12_orNever cX12_orNever 2 (some .int) 1 := ⟨qc_X12_orNever, qi_yX12_orNever, qs_X12_orNever, qz_X12, by decide +kernel⟩
theorem qm_X12_284 : Cond.methodLink RX12 284 yX12_orNever ∈ gw := tbt (tb7 (List.mem_of_getElem? (i := 161) rfl)) rfl
theorem qc_X12_orNone : Cond.code yX12_orNone cX12_orNone 2 (some .int) ∈ gw := tbt (tb7 (List.mem_of_getElem? (i := 180) rfl)) rfl
theorem qi_yX12_orNone : Cond.instanceMethod yX12_orNone ∈ gw := tbt (tb7 (List.mem_of_getElem? (i := 179) rfl)) rfl
theorem qs_X12_orNone : Cond.selects (yX12_orNone).cls yX12_orNone yX12_orNone ∈ gw := tb0 (List.mem_of_getElem? (i := 75) rfl) rfl
theorem ci_X12_orNone : CIv yX12_orNone cX12_orNone 2 (some .int) 1 := ⟨qc_X12_orNone, qi_yX12_orNone, qs_X12_orNone, qz_X12, by decide +kernel⟩
theorem qm_X12_290 : Cond.methodLink RX12 290 yX12_orNone ∈ gw := tbt (tb7 (List.mem_of_getElem? (i := 177) rfl)) rfl
theorem qc_X12_echoOf : Cond.code yX12_echoOf cX12_echoOf 5 (some .int) ∈ gw := tbt (tb8 (List.mem_of_getElem? (i := 125) rfl)) rfl
theorem qi_yX12_echoOf : Cond.instanceMethod yX12_echoOf ∈ gw := tbt (tb8 (List.mem_of_getElem? (i := 124) rfl)) rfl
theorem qs_X12_echoOf : Cond.selects (yX12_echoOf).cls yX12_echoOf yX12_echoOf ∈ gw := tb0 (List.mem_of_getElem? (i := 89) rfl) rfl
theorem ci_X12_echoOf : CIv yX12_echoOf cX12_echoOf 5 (some .int) 3 := ⟨qc_X12_echoOf, qi_yX12_echoOf, qs_X12_echoOf, qz_X12, by decide +kernel⟩
theorem qm_X12_345 : Cond.methodLink RX12 345 yX12_echoOf ∈ gw := tbt (tb8 (List.mem_of_getElem? (i := 122) rfl)) rfl
def fb_X12_answered_0 : List UInt8 := [0x2a, 0x1b, 0x1c, 0xb6, 0x01, 0x09, 0x99, 0x00, 0x0a, 0x1d, 0xb8, 0x01, 0x02, 0x9a, 0x00, 0x09, 0x2a, 0x04, 0xb6, 0x00, 0x51, 0xac, 0x1d, 0x11, 0x01, 0x90, 0xb8, 0x00, 0x89, 0x36, 0x04, 0x15, 0x04, 0x9b, 0x00, 0x1c, 0x2a, 0x1b, 0x15, 0x04, 0x1c, 0xb6, 0x01, 0x59, 0x1d, 0xa3, 0x00, 0x0a, 0x2a, 0x15, 0x04, 0xb6, 0x00, 0x55, 0xac, 0x84, 0x04, 0xff, 0xa7, 0xff, 0xe5, 0x2a, 0x10, 0x06]
theorem fl_X12_answered_0 {p j : Nat} {b : UInt8} (e : p = 0 + j) (h : fb_X12_answered_0[j]? = some b) : cX12_answered.data.toList[p]? = some b := fq_l (n := 64) (show (cX12_answered.data.toList.drop 0).take 64 = fb_X12_answered_0 by decide +kernel) e h
theorem dX12_answered_0 : decode cX12_answered 0 = .ok (.aload_n 0, 1) := fq1_42 (fl_X12_answered_0 (j := 0) rfl rfl)
theorem dX12_answered_1 : decode cX12_answered 1 = .ok (.iload_n 1, 1) := fq1_27 (fl_X12_answered_0 (j := 1) rfl rfl)
theorem dX12_answered_2 : decode cX12_answered 2 = .ok (.iload_n 2, 1) := fq1_28 (fl_X12_answered_0 (j := 2) rfl rfl)
theorem dX12_answered_3 : decode cX12_answered 3 = .ok (.invokevirtual 265, 3) := fq3_182 (fl_X12_answered_0 (j := 3) rfl rfl) (fl_X12_answered_0 (j := 4) rfl rfl) (fl_X12_answered_0 (j := 5) rfl rfl) rfl
theorem dX12_answered_6 : decode cX12_answered 6 = .ok (.ifCond .eq 10, 3) := fq3_153 (fl_X12_answered_0 (j := 6) rfl rfl) (fl_X12_answered_0 (j := 7) rfl rfl) (fl_X12_answered_0 (j := 8) rfl rfl) (s2p rfl (bl rfl))
theorem dX12_answered_9 : decode cX12_answered 9 = .ok (.iload_n 3, 1) := fq1_29 (fl_X12_answered_0 (j := 9) rfl rfl)
theorem dX12_answered_10 : decode cX12_answered 10 = .ok (.invokestatic 258, 3) := fq3_184 (fl_X12_answered_0 (j := 10) rfl rfl) (fl_X12_answered_0 (j := 11) rfl rfl) (fl_X12_answered_0 (j := 12) rfl rfl) rfl
theorem dX12_answered_13 : decode cX12_answered 13 = .ok (.ifCond .ne 9, 3) := fq3_154 (fl_X12_answered_0 (j := 13) rfl rfl) (fl_X12_answered_0 (j := 14) rfl rfl) (fl_X12_answered_0 (j := 15) rfl rfl) (s2p rfl (bl rfl))
theorem dX12_answered_16 : decode cX12_answered 16 = .ok (.aload_n 0, 1) := fq1_42 (fl_X12_answered_0 (j := 16) rfl rfl)
theorem dX12_answered_17 : decode cX12_answered 17 = .ok (.iconst 1, 1) := fq1_4 (fl_X12_answered_0 (j := 17) rfl rfl)
theorem dX12_answered_18 : decode cX12_answered 18 = .ok (.invokevirtual 81, 3) := fq3_182 (fl_X12_answered_0 (j := 18) rfl rfl) (fl_X12_answered_0 (j := 19) rfl rfl) (fl_X12_answered_0 (j := 20) rfl rfl) rfl
theorem dX12_answered_21 : decode cX12_answered 21 = .ok (.ireturn, 1) := fq1_172 (fl_X12_answered_0 (j := 21) rfl rfl)
theorem dX12_answered_22 : decode cX12_answered 22 = .ok (.iload_n 3, 1) := fq1_29 (fl_X12_answered_0 (j := 22) rfl rfl)
theorem dX12_answered_23 : decode cX12_answered 23 = .ok (.sipush 400, 3) := fq3_17 (fl_X12_answered_0 (j := 23) rfl rfl) (fl_X12_answered_0 (j := 24) rfl rfl) (fl_X12_answered_0 (j := 25) rfl rfl) (s2p rfl (bl rfl))
theorem dX12_answered_26 : decode cX12_answered 26 = .ok (.invokestatic 137, 3) := fq3_184 (fl_X12_answered_0 (j := 26) rfl rfl) (fl_X12_answered_0 (j := 27) rfl rfl) (fl_X12_answered_0 (j := 28) rfl rfl) rfl
theorem dX12_answered_29 : decode cX12_answered 29 = .ok (.istore 4, 2) := fq2_54 (fl_X12_answered_0 (j := 29) rfl rfl) (fl_X12_answered_0 (j := 30) rfl rfl) rfl
theorem dX12_answered_31 : decode cX12_answered 31 = .ok (.iload 4, 2) := fq2_21 (fl_X12_answered_0 (j := 31) rfl rfl) (fl_X12_answered_0 (j := 32) rfl rfl) rfl
theorem dX12_answered_33 : decode cX12_answered 33 = .ok (.ifCond .lt 28, 3) := fq3_155 (fl_X12_answered_0 (j := 33) rfl rfl) (fl_X12_answered_0 (j := 34) rfl rfl) (fl_X12_answered_0 (j := 35) rfl rfl) (s2p rfl (bl rfl))
theorem dX12_answered_36 : decode cX12_answered 36 = .ok (.aload_n 0, 1) := fq1_42 (fl_X12_answered_0 (j := 36) rfl rfl)
theorem dX12_answered_37 : decode cX12_answered 37 = .ok (.iload_n 1, 1) := fq1_27 (fl_X12_answered_0 (j := 37) rfl rfl)
theorem dX12_answered_38 : decode cX12_answered 38 = .ok (.iload 4, 2) := fq2_21 (fl_X12_answered_0 (j := 38) rfl rfl) (fl_X12_answered_0 (j := 39) rfl rfl) rfl
theorem dX12_answered_40 : decode cX12_answered 40 = .ok (.iload_n 2, 1) := fq1_28 (fl_X12_answered_0 (j := 40) rfl rfl)
theorem dX12_answered_41 : decode cX12_answered 41 = .ok (.invokevirtual 345, 3) := fq3_182 (fl_X12_answered_0 (j := 41) rfl rfl) (fl_X12_answered_0 (j := 42) rfl rfl) (fl_X12_answered_0 (j := 43) rfl rfl) rfl
theorem dX12_answered_44 : decode cX12_answered 44 = .ok (.iload_n 3, 1) := fq1_29 (fl_X12_answered_0 (j := 44) rfl rfl)
theorem dX12_answered_45 : decode cX12_answered 45 = .ok (.if_icmp .gt 10, 3) := fq3_163 (fl_X12_answered_0 (j := 45) rfl rfl) (fl_X12_answered_0 (j := 46) rfl rfl) (fl_X12_answered_0 (j := 47) rfl rfl) (s2p rfl (bl rfl))
theorem dX12_answered_48 : decode cX12_answered 48 = .ok (.aload_n 0, 1) := fq1_42 (fl_X12_answered_0 (j := 48) rfl rfl)
theorem dX12_answered_49 : decode cX12_answered 49 = .ok (.iload 4, 2) := fq2_21 (fl_X12_answered_0 (j := 49) rfl rfl) (fl_X12_answered_0 (j := 50) rfl rfl) rfl
theorem dX12_answered_51 : decode cX12_answered 51 = .ok (.invokevirtual 85, 3) := fq3_182 (fl_X12_answered_0 (j := 51) rfl rfl) (fl_X12_answered_0 (j := 52) rfl rfl) (fl_X12_answered_0 (j := 53) rfl rfl) rfl
theorem dX12_answered_54 : decode cX12_answered 54 = .ok (.ireturn, 1) := fq1_172 (fl_X12_answered_0 (j := 54) rfl rfl)
theorem dX12_answered_55 : decode cX12_answered 55 = .ok (.iinc 4 (-1), 3) := fq3_132 (fl_X12_answered_0 (j := 55) rfl rfl) (fl_X12_answered_0 (j := 56) rfl rfl) (fl_X12_answered_0 (j := 57) rfl rfl) rfl (by decide)
theorem dX12_answered_58 : decode cX12_answered 58 = .ok (.goto (-27), 3) := fq3_167 (fl_X12_answered_0 (j := 58) rfl rfl) (fl_X12_answered_0 (j := 59) rfl rfl) (fl_X12_answered_0 (j := 60) rfl rfl) (by decide)
theorem dX12_answered_61 : decode cX12_answered 61 = .ok (.aload_n 0, 1) := fq1_42 (fl_X12_answered_0 (j := 61) rfl rfl)
theorem dX12_answered_62 : decode cX12_answered 62 = .ok (.bipush 6, 2) := fq2_16 (fl_X12_answered_0 (j := 62) rfl rfl) (fl_X12_answered_0 (j := 63) rfl rfl) (s1p rfl (bl rfl))
def fb_X12_answered_1 : List UInt8 := [0xb6, 0x00, 0x51, 0xac]
theorem fl_X12_answered_1 {p j : Nat} {b : UInt8} (e : p = 64 + j) (h : fb_X12_answered_1[j]? = some b) : cX12_answered.data.toList[p]? = some b := fq_l (n := 64) (show (cX12_answered.data.toList.drop 64).take 64 = fb_X12_answered_1 by decide +kernel) e h
theorem dX12_answered_64 : decode cX12_answered 64 = .ok (.invokevirtual 81, 3) := fq3_182 (fl_X12_answered_1 (j := 0) rfl rfl) (fl_X12_answered_1 (j := 1) rfl rfl) (fl_X12_answered_1 (j := 2) rfl rfl) rfl
theorem dX12_answered_67 : decode cX12_answered 67 = .ok (.ireturn, 1) := fq1_172 (fl_X12_answered_1 (j := 3) rfl rfl)
def fb_X12_blind_0 : List UInt8 := [0x2a, 0x1b, 0xb6, 0x00, 0xf3, 0x9a, 0x00, 0x09, 0x2a, 0x04, 0xb6, 0x00, 0x51, 0xac, 0x03, 0x3d, 0x03, 0x3e, 0x1d, 0x11, 0x01, 0x90, 0xa3, 0x00, 0x4b, 0x03, 0x36, 0x04, 0x03, 0x36, 0x05, 0x15, 0x05, 0x2a, 0xb4, 0x00, 0x07, 0x03, 0x2e, 0xa2, 0x00, 0x27, 0x15, 0x04, 0x9a, 0x00, 0x22, 0x15, 0x05, 0x1b, 0x9f, 0x00, 0x13, 0x2a, 0x1b, 0x15, 0x05, 0x1d, 0xb6, 0x01, 0x1f, 0x02, 0x9f, 0x00]
theorem fl_X12_blind_0 {p j : Nat} {b : UInt8} (e : p = 0 + j) (h : fb_X12_blind_0[j]? = some b) : cX12_blind.data.toList[p]? = some b := fq_l (n := 64) (show (cX12_blind.data.toList.drop 0).take 64 = fb_X12_blind_0 by decide +kernel) e h
theorem dX12_blind_0 : decode cX12_blind 0 = .ok (.aload_n 0, 1) := fq1_42 (fl_X12_blind_0 (j := 0) rfl rfl)
theorem dX12_blind_1 : decode cX12_blind 1 = .ok (.iload_n 1, 1) := fq1_27 (fl_X12_blind_0 (j := 1) rfl rfl)
theorem dX12_blind_2 : decode cX12_blind 2 = .ok (.invokevirtual 243, 3) := fq3_182 (fl_X12_blind_0 (j := 2) rfl rfl) (fl_X12_blind_0 (j := 3) rfl rfl) (fl_X12_blind_0 (j := 4) rfl rfl) rfl
theorem dX12_blind_5 : decode cX12_blind 5 = .ok (.ifCond .ne 9, 3) := fq3_154 (fl_X12_blind_0 (j := 5) rfl rfl) (fl_X12_blind_0 (j := 6) rfl rfl) (fl_X12_blind_0 (j := 7) rfl rfl) (s2p rfl (bl rfl))
theorem dX12_blind_8 : decode cX12_blind 8 = .ok (.aload_n 0, 1) := fq1_42 (fl_X12_blind_0 (j := 8) rfl rfl)
theorem dX12_blind_9 : decode cX12_blind 9 = .ok (.iconst 1, 1) := fq1_4 (fl_X12_blind_0 (j := 9) rfl rfl)
theorem dX12_blind_10 : decode cX12_blind 10 = .ok (.invokevirtual 81, 3) := fq3_182 (fl_X12_blind_0 (j := 10) rfl rfl) (fl_X12_blind_0 (j := 11) rfl rfl) (fl_X12_blind_0 (j := 12) rfl rfl) rfl
theorem dX12_blind_13 : decode cX12_blind 13 = .ok (.ireturn, 1) := fq1_172 (fl_X12_blind_0 (j := 13) rfl rfl)
theorem dX12_blind_14 : decode cX12_blind 14 = .ok (.iconst 0, 1) := fq1_3 (fl_X12_blind_0 (j := 14) rfl rfl)
theorem dX12_blind_15 : decode cX12_blind 15 = .ok (.istore_n 2, 1) := fq1_61 (fl_X12_blind_0 (j := 15) rfl rfl)
theorem dX12_blind_16 : decode cX12_blind 16 = .ok (.iconst 0, 1) := fq1_3 (fl_X12_blind_0 (j := 16) rfl rfl)
theorem dX12_blind_17 : decode cX12_blind 17 = .ok (.istore_n 3, 1) := fq1_62 (fl_X12_blind_0 (j := 17) rfl rfl)
theorem dX12_blind_18 : decode cX12_blind 18 = .ok (.iload_n 3, 1) := fq1_29 (fl_X12_blind_0 (j := 18) rfl rfl)
theorem dX12_blind_19 : decode cX12_blind 19 = .ok (.sipush 400, 3) := fq3_17 (fl_X12_blind_0 (j := 19) rfl rfl) (fl_X12_blind_0 (j := 20) rfl rfl) (fl_X12_blind_0 (j := 21) rfl rfl) (s2p rfl (bl rfl))
theorem dX12_blind_22 : decode cX12_blind 22 = .ok (.if_icmp .gt 75, 3) := fq3_163 (fl_X12_blind_0 (j := 22) rfl rfl) (fl_X12_blind_0 (j := 23) rfl rfl) (fl_X12_blind_0 (j := 24) rfl rfl) (s2p rfl (bl rfl))
theorem dX12_blind_25 : decode cX12_blind 25 = .ok (.iconst 0, 1) := fq1_3 (fl_X12_blind_0 (j := 25) rfl rfl)
theorem dX12_blind_26 : decode cX12_blind 26 = .ok (.istore 4, 2) := fq2_54 (fl_X12_blind_0 (j := 26) rfl rfl) (fl_X12_blind_0 (j := 27) rfl rfl) rfl
theorem dX12_blind_28 : decode cX12_blind 28 = .ok (.iconst 0, 1) := fq1_3 (fl_X12_blind_0 (j := 28) rfl rfl)
theorem dX12_blind_29 : decode cX12_blind 29 = .ok (.istore 5, 2) := fq2_54 (fl_X12_blind_0 (j := 29) rfl rfl) (fl_X12_blind_0 (j := 30) rfl rfl) rfl
theorem dX12_blind_31 : decode cX12_blind 31 = .ok (.iload 5, 2) := fq2_21 (fl_X12_blind_0 (j := 31) rfl rfl) (fl_X12_blind_0 (j := 32) rfl rfl) rfl
theorem dX12_blind_33 : decode cX12_blind 33 = .ok (.aload_n 0, 1) := fq1_42 (fl_X12_blind_0 (j := 33) rfl rfl)
theorem dX12_blind_34 : decode cX12_blind 34 = .ok (.getfield 7, 3) := fq3_180 (fl_X12_blind_0 (j := 34) rfl rfl) (fl_X12_blind_0 (j := 35) rfl rfl) (fl_X12_blind_0 (j := 36) rfl rfl) rfl
theorem dX12_blind_37 : decode cX12_blind 37 = .ok (.iconst 0, 1) := fq1_3 (fl_X12_blind_0 (j := 37) rfl rfl)
theorem dX12_blind_38 : decode cX12_blind 38 = .ok (.iaload, 1) := fq1_46 (fl_X12_blind_0 (j := 38) rfl rfl)
theorem dX12_blind_39 : decode cX12_blind 39 = .ok (.if_icmp .ge 39, 3) := fq3_162 (fl_X12_blind_0 (j := 39) rfl rfl) (fl_X12_blind_0 (j := 40) rfl rfl) (fl_X12_blind_0 (j := 41) rfl rfl) (s2p rfl (bl rfl))
theorem dX12_blind_42 : decode cX12_blind 42 = .ok (.iload 4, 2) := fq2_21 (fl_X12_blind_0 (j := 42) rfl rfl) (fl_X12_blind_0 (j := 43) rfl rfl) rfl
theorem dX12_blind_44 : decode cX12_blind 44 = .ok (.ifCond .ne 34, 3) := fq3_154 (fl_X12_blind_0 (j := 44) rfl rfl) (fl_X12_blind_0 (j := 45) rfl rfl) (fl_X12_blind_0 (j := 46) rfl rfl) (s2p rfl (bl rfl))
theorem dX12_blind_47 : decode cX12_blind 47 = .ok (.iload 5, 2) := fq2_21 (fl_X12_blind_0 (j := 47) rfl rfl) (fl_X12_blind_0 (j := 48) rfl rfl) rfl
theorem dX12_blind_49 : decode cX12_blind 49 = .ok (.iload_n 1, 1) := fq1_27 (fl_X12_blind_0 (j := 49) rfl rfl)
theorem dX12_blind_50 : decode cX12_blind 50 = .ok (.if_icmp .eq 19, 3) := fq3_159 (fl_X12_blind_0 (j := 50) rfl rfl) (fl_X12_blind_0 (j := 51) rfl rfl) (fl_X12_blind_0 (j := 52) rfl rfl) (s2p rfl (bl rfl))
theorem dX12_blind_53 : decode cX12_blind 53 = .ok (.aload_n 0, 1) := fq1_42 (fl_X12_blind_0 (j := 53) rfl rfl)
theorem dX12_blind_54 : decode cX12_blind 54 = .ok (.iload_n 1, 1) := fq1_27 (fl_X12_blind_0 (j := 54) rfl rfl)
theorem dX12_blind_55 : decode cX12_blind 55 = .ok (.iload 5, 2) := fq2_21 (fl_X12_blind_0 (j := 55) rfl rfl) (fl_X12_blind_0 (j := 56) rfl rfl) rfl
theorem dX12_blind_57 : decode cX12_blind 57 = .ok (.iload_n 3, 1) := fq1_29 (fl_X12_blind_0 (j := 57) rfl rfl)
theorem dX12_blind_58 : decode cX12_blind 58 = .ok (.invokevirtual 287, 3) := fq3_182 (fl_X12_blind_0 (j := 58) rfl rfl) (fl_X12_blind_0 (j := 59) rfl rfl) (fl_X12_blind_0 (j := 60) rfl rfl) rfl
theorem dX12_blind_61 : decode cX12_blind 61 = .ok (.iconst (-1), 1) := fq1_2 (fl_X12_blind_0 (j := 61) rfl rfl)
def fb_X12_blind_1 : List UInt8 := [0x07, 0x04, 0xa7, 0x00, 0x04, 0x03, 0x36, 0x04, 0x84, 0x05, 0x01, 0xa7, 0xff, 0xd4, 0x1c, 0x15, 0x04, 0x99, 0x00, 0x07, 0x03, 0xa7, 0x00, 0x04, 0x04, 0x60, 0x3d, 0x84, 0x03, 0x01, 0xa7, 0xff, 0xb4, 0x2a, 0x1c, 0xb6, 0x00, 0x55, 0xac]
theorem fl_X12_blind_1 {p j : Nat} {b : UInt8} (e : p = 64 + j) (h : fb_X12_blind_1[j]? = some b) : cX12_blind.data.toList[p]? = some b := fq_l (n := 64) (show (cX12_blind.data.toList.drop 64).take 64 = fb_X12_blind_1 by decide +kernel) e h
theorem dX12_blind_62 : decode cX12_blind 62 = .ok (.if_icmp .eq 7, 3) := fq3_159 (fl_X12_blind_0 (j := 62) rfl rfl) (fl_X12_blind_0 (j := 63) rfl rfl) (fl_X12_blind_1 (j := 0) rfl rfl) (s2p rfl (bl rfl))
theorem dX12_blind_65 : decode cX12_blind 65 = .ok (.iconst 1, 1) := fq1_4 (fl_X12_blind_1 (j := 1) rfl rfl)
theorem dX12_blind_66 : decode cX12_blind 66 = .ok (.goto 4, 3) := fq3_167 (fl_X12_blind_1 (j := 2) rfl rfl) (fl_X12_blind_1 (j := 3) rfl rfl) (fl_X12_blind_1 (j := 4) rfl rfl) (s2p rfl (bl rfl))
theorem dX12_blind_69 : decode cX12_blind 69 = .ok (.iconst 0, 1) := fq1_3 (fl_X12_blind_1 (j := 5) rfl rfl)
theorem dX12_blind_70 : decode cX12_blind 70 = .ok (.istore 4, 2) := fq2_54 (fl_X12_blind_1 (j := 6) rfl rfl) (fl_X12_blind_1 (j := 7) rfl rfl) rfl
theorem dX12_blind_72 : decode cX12_blind 72 = .ok (.iinc 5 1, 3) := fq3_132 (fl_X12_blind_1 (j := 8) rfl rfl) (fl_X12_blind_1 (j := 9) rfl rfl) (fl_X12_blind_1 (j := 10) rfl rfl) rfl (s1p rfl (bl rfl))
theorem dX12_blind_75 : decode cX12_blind 75 = .ok (.goto (-44), 3) := fq3_167 (fl_X12_blind_1 (j := 11) rfl rfl) (fl_X12_blind_1 (j := 12) rfl rfl) (fl_X12_blind_1 (j := 13) rfl rfl) (by decide)
theorem dX12_blind_78 : decode cX12_blind 78 = .ok (.iload_n 2, 1) := fq1_28 (fl_X12_blind_1 (j := 14) rfl rfl)
theorem dX12_blind_79 : decode cX12_blind 79 = .ok (.iload 4, 2) := fq2_21 (fl_X12_blind_1 (j := 15) rfl rfl) (fl_X12_blind_1 (j := 16) rfl rfl) rfl
theorem dX12_blind_81 : decode cX12_blind 81 = .ok (.ifCond .eq 7, 3) := fq3_153 (fl_X12_blind_1 (j := 17) rfl rfl) (fl_X12_blind_1 (j := 18) rfl rfl) (fl_X12_blind_1 (j := 19) rfl rfl) (s2p rfl (bl rfl))
theorem dX12_blind_84 : decode cX12_blind 84 = .ok (.iconst 0, 1) := fq1_3 (fl_X12_blind_1 (j := 20) rfl rfl)
theorem dX12_blind_85 : decode cX12_blind 85 = .ok (.goto 4, 3) := fq3_167 (fl_X12_blind_1 (j := 21) rfl rfl) (fl_X12_blind_1 (j := 22) rfl rfl) (fl_X12_blind_1 (j := 23) rfl rfl) (s2p rfl (bl rfl))
theorem dX12_blind_88 : decode cX12_blind 88 = .ok (.iconst 1, 1) := fq1_4 (fl_X12_blind_1 (j := 24) rfl rfl)
theorem dX12_blind_89 : decode cX12_blind 89 = .ok (.iadd, 1) := fq1_96 (fl_X12_blind_1 (j := 25) rfl rfl)
theorem dX12_blind_90 : decode cX12_blind 90 = .ok (.istore_n 2, 1) := fq1_61 (fl_X12_blind_1 (j := 26) rfl rfl)
theorem dX12_blind_91 : decode cX12_blind 91 = .ok (.iinc 3 1, 3) := fq3_132 (fl_X12_blind_1 (j := 27) rfl rfl) (fl_X12_blind_1 (j := 28) rfl rfl) (fl_X12_blind_1 (j := 29) rfl rfl) rfl (s1p rfl (bl rfl))
theorem dX12_blind_94 : decode cX12_blind 94 = .ok (.goto (-76), 3) := fq3_167 (fl_X12_blind_1 (j := 30) rfl rfl) (fl_X12_blind_1 (j := 31) rfl rfl) (fl_X12_blind_1 (j := 32) rfl rfl) (by decide)
theorem dX12_blind_97 : decode cX12_blind 97 = .ok (.aload_n 0, 1) := fq1_42 (fl_X12_blind_1 (j := 33) rfl rfl)
theorem dX12_blind_98 : decode cX12_blind 98 = .ok (.iload_n 2, 1) := fq1_28 (fl_X12_blind_1 (j := 34) rfl rfl)
theorem dX12_blind_99 : decode cX12_blind 99 = .ok (.invokevirtual 85, 3) := fq3_182 (fl_X12_blind_1 (j := 35) rfl rfl) (fl_X12_blind_1 (j := 36) rfl rfl) (fl_X12_blind_1 (j := 37) rfl rfl) rfl
theorem dX12_blind_102 : decode cX12_blind 102 = .ok (.ireturn, 1) := fq1_172 (fl_X12_blind_1 (j := 38) rfl rfl)
def fb_X12_gives_0 : List UInt8 := [0x2a, 0x03, 0xb5, 0x00, 0x4b, 0x1b, 0xac]
theorem fl_X12_gives_0 {p j : Nat} {b : UInt8} (e : p = 0 + j) (h : fb_X12_gives_0[j]? = some b) : cX12_gives.data.toList[p]? = some b := fq_l (n := 64) (show (cX12_gives.data.toList.drop 0).take 64 = fb_X12_gives_0 by decide +kernel) e h
theorem dX12_gives_0 : decode cX12_gives 0 = .ok (.aload_n 0, 1) := fq1_42 (fl_X12_gives_0 (j := 0) rfl rfl)
theorem dX12_gives_1 : decode cX12_gives 1 = .ok (.iconst 0, 1) := fq1_3 (fl_X12_gives_0 (j := 1) rfl rfl)
theorem dX12_gives_2 : decode cX12_gives 2 = .ok (.putfield 75, 3) := fq3_181 (fl_X12_gives_0 (j := 2) rfl rfl) (fl_X12_gives_0 (j := 3) rfl rfl) (fl_X12_gives_0 (j := 4) rfl rfl) rfl
theorem dX12_gives_5 : decode cX12_gives 5 = .ok (.iload_n 1, 1) := fq1_27 (fl_X12_gives_0 (j := 5) rfl rfl)
theorem dX12_gives_6 : decode cX12_gives 6 = .ok (.ireturn, 1) := fq1_172 (fl_X12_gives_0 (j := 6) rfl rfl)
def fb_X12_orNever_0 : List UInt8 := [0x1b, 0x12, 0x58, 0xa1, 0x00, 0x0c, 0x2a, 0x10, 0x06, 0xb6, 0x00, 0x51, 0xa7, 0x00, 0x08, 0x2a, 0x1b, 0xb6, 0x00, 0x55, 0xac]
theorem fl_X12_orNever_0 {p j : Nat} {b : UInt8} (e : p = 0 + j) (h : fb_X12_orNever_0[j]? = some b) : cX12_orNever.data.toList[p]? = some b := fq_l (n := 64) (show (cX12_orNever.data.toList.drop 0).take 64 = fb_X12_orNever_0 by decide +kernel) e h
theorem dX12_orNever_0 : decode cX12_orNever 0 = .ok (.iload_n 1, 1) := fq1_27 (fl_X12_orNever_0 (j := 0) rfl rfl)
theorem dX12_orNever_1 : decode cX12_orNever 1 = .ok (.ldc 88, 2) := fq2_18 (fl_X12_orNever_0 (j := 1) rfl rfl) (fl_X12_orNever_0 (j := 2) rfl rfl) rfl
theorem dX12_orNever_3 : decode cX12_orNever 3 = .ok (.if_icmp .lt 12, 3) := fq3_161 (fl_X12_orNever_0 (j := 3) rfl rfl) (fl_X12_orNever_0 (j := 4) rfl rfl) (fl_X12_orNever_0 (j := 5) rfl rfl) (s2p rfl (bl rfl))
theorem dX12_orNever_6 : decode cX12_orNever 6 = .ok (.aload_n 0, 1) := fq1_42 (fl_X12_orNever_0 (j := 6) rfl rfl)
theorem dX12_orNever_7 : decode cX12_orNever 7 = .ok (.bipush 6, 2) := fq2_16 (fl_X12_orNever_0 (j := 7) rfl rfl) (fl_X12_orNever_0 (j := 8) rfl rfl) (s1p rfl (bl rfl))
theorem dX12_orNever_9 : decode cX12_orNever 9 = .ok (.invokevirtual 81, 3) := fq3_182 (fl_X12_orNever_0 (j := 9) rfl rfl) (fl_X12_orNever_0 (j := 10) rfl rfl) (fl_X12_orNever_0 (j := 11) rfl rfl) rfl
theorem dX12_orNever_12 : decode cX12_orNever 12 = .ok (.goto 8, 3) := fq3_167 (fl_X12_orNever_0 (j := 12) rfl rfl) (fl_X12_orNever_0 (j := 13) rfl rfl) (fl_X12_orNever_0 (j := 14) rfl rfl) (s2p rfl (bl rfl))
theorem dX12_orNever_15 : decode cX12_orNever 15 = .ok (.aload_n 0, 1) := fq1_42 (fl_X12_orNever_0 (j := 15) rfl rfl)
theorem dX12_orNever_16 : decode cX12_orNever 16 = .ok (.iload_n 1, 1) := fq1_27 (fl_X12_orNever_0 (j := 16) rfl rfl)
theorem dX12_orNever_17 : decode cX12_orNever 17 = .ok (.invokevirtual 85, 3) := fq3_182 (fl_X12_orNever_0 (j := 17) rfl rfl) (fl_X12_orNever_0 (j := 18) rfl rfl) (fl_X12_orNever_0 (j := 19) rfl rfl) rfl
theorem dX12_orNever_20 : decode cX12_orNever 20 = .ok (.ireturn, 1) := fq1_172 (fl_X12_orNever_0 (j := 20) rfl rfl)
def fb_X12_orNone_0 : List UInt8 := [0x1b, 0x02, 0xa0, 0x00, 0x0c, 0x2a, 0x10, 0x06, 0xb6, 0x00, 0x51, 0xa7, 0x00, 0x08, 0x2a, 0x1b, 0xb6, 0x00, 0x55, 0xac]
theorem fl_X12_orNone_0 {p j : Nat} {b : UInt8} (e : p = 0 + j) (h : fb_X12_orNone_0[j]? = some b) : cX12_orNone.data.toList[p]? = some b := fq_l (n := 64) (show (cX12_orNone.data.toList.drop 0).take 64 = fb_X12_orNone_0 by decide +kernel) e h
theorem dX12_orNone_0 : decode cX12_orNone 0 = .ok (.iload_n 1, 1) := fq1_27 (fl_X12_orNone_0 (j := 0) rfl rfl)
theorem dX12_orNone_1 : decode cX12_orNone 1 = .ok (.iconst (-1), 1) := fq1_2 (fl_X12_orNone_0 (j := 1) rfl rfl)
theorem dX12_orNone_2 : decode cX12_orNone 2 = .ok (.if_icmp .ne 12, 3) := fq3_160 (fl_X12_orNone_0 (j := 2) rfl rfl) (fl_X12_orNone_0 (j := 3) rfl rfl) (fl_X12_orNone_0 (j := 4) rfl rfl) (s2p rfl (bl rfl))
theorem dX12_orNone_5 : decode cX12_orNone 5 = .ok (.aload_n 0, 1) := fq1_42 (fl_X12_orNone_0 (j := 5) rfl rfl)
theorem dX12_orNone_6 : decode cX12_orNone 6 = .ok (.bipush 6, 2) := fq2_16 (fl_X12_orNone_0 (j := 6) rfl rfl) (fl_X12_orNone_0 (j := 7) rfl rfl) (s1p rfl (bl rfl))
theorem dX12_orNone_8 : decode cX12_orNone 8 = .ok (.invokevirtual 81, 3) := fq3_182 (fl_X12_orNone_0 (j := 8) rfl rfl) (fl_X12_orNone_0 (j := 9) rfl rfl) (fl_X12_orNone_0 (j := 10) rfl rfl) rfl
theorem dX12_orNone_11 : decode cX12_orNone 11 = .ok (.goto 8, 3) := fq3_167 (fl_X12_orNone_0 (j := 11) rfl rfl) (fl_X12_orNone_0 (j := 12) rfl rfl) (fl_X12_orNone_0 (j := 13) rfl rfl) (s2p rfl (bl rfl))
theorem dX12_orNone_14 : decode cX12_orNone 14 = .ok (.aload_n 0, 1) := fq1_42 (fl_X12_orNone_0 (j := 14) rfl rfl)
theorem dX12_orNone_15 : decode cX12_orNone 15 = .ok (.iload_n 1, 1) := fq1_27 (fl_X12_orNone_0 (j := 15) rfl rfl)
theorem dX12_orNone_16 : decode cX12_orNone 16 = .ok (.invokevirtual 85, 3) := fq3_182 (fl_X12_orNone_0 (j := 16) rfl rfl) (fl_X12_orNone_0 (j := 17) rfl rfl) (fl_X12_orNone_0 (j := 18) rfl rfl) rfl
theorem dX12_orNone_19 : decode cX12_orNone 19 = .ok (.ireturn, 1) := fq1_172 (fl_X12_orNone_0 (j := 19) rfl rfl)
def fb_X12_refuse_0 : List UInt8 := [0x2a, 0x1b, 0xb5, 0x00, 0x4b, 0x02, 0xac]
theorem fl_X12_refuse_0 {p j : Nat} {b : UInt8} (e : p = 0 + j) (h : fb_X12_refuse_0[j]? = some b) : cX12_refuse.data.toList[p]? = some b := fq_l (n := 64) (show (cX12_refuse.data.toList.drop 0).take 64 = fb_X12_refuse_0 by decide +kernel) e h
theorem dX12_refuse_0 : decode cX12_refuse 0 = .ok (.aload_n 0, 1) := fq1_42 (fl_X12_refuse_0 (j := 0) rfl rfl)
theorem dX12_refuse_1 : decode cX12_refuse 1 = .ok (.iload_n 1, 1) := fq1_27 (fl_X12_refuse_0 (j := 1) rfl rfl)
theorem dX12_refuse_2 : decode cX12_refuse 2 = .ok (.putfield 75, 3) := fq3_181 (fl_X12_refuse_0 (j := 2) rfl rfl) (fl_X12_refuse_0 (j := 3) rfl rfl) (fl_X12_refuse_0 (j := 4) rfl rfl) rfl
theorem dX12_refuse_5 : decode cX12_refuse 5 = .ok (.iconst (-1), 1) := fq1_2 (fl_X12_refuse_0 (j := 5) rfl rfl)
theorem dX12_refuse_6 : decode cX12_refuse 6 = .ok (.ireturn, 1) := fq1_172 (fl_X12_refuse_0 (j := 6) rfl rfl)