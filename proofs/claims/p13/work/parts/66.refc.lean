section
theorem qc_X12_lightOf : Cond.code yX12_lightOf cX12_lightOf 8 (some .int) ∈ gw := tbt (tb7 (List.mem_of_getElem? (i := 124) rfl)) rfl
theorem qi_yX12_lightOf : Cond.instanceMethod yX12_lightOf ∈ gw := tbt (tb7 (List.mem_of_getElem? (i := 123) rfl)) rfl
theorem qs_X12_lightOf : Cond.selects (yX12_lightOf).cls yX12_lightOf yX12_lightOf ∈ gw := tb0 (List.mem_of_getElem? (i := 67) rfl) rfl
theorem ci_X12_lightOf : CIv yX12_lightOf cX12_lightOf 8 (some .int) 4 := ⟨qc_X12_lightOf, qi_yX12_lightOf, qs_X12_lightOf, qz_X12, by decide +kernel⟩
theorem qm_X12_261 : Cond.methodLink RX12 261 yX12_lightOf ∈ gw := tbt (tb7 (List.mem_of_getElem? (i := 121) rfl)) rfl
theorem qk_X12_88 : Cond.constant RX12 88 (1000000) ∈ gw := tbt (tb7 (List.mem_of_getElem? (i := 156) rfl)) rfl
theorem qc_X12_isIced : Cond.code yX12_isIced cX12_isIced 7 (some .boolean) ∈ gw := tbt (tb7 (List.mem_of_getElem? (i := 143) rfl)) rfl
theorem qi_yX12_isIced : Cond.instanceMethod yX12_isIced ∈ gw := tbt (tb7 (List.mem_of_getElem? (i := 142) rfl)) rfl
theorem qs_X12_isIced : Cond.selects (yX12_isIced).cls yX12_isIced yX12_isIced ∈ gw := tb0 (List.mem_of_getElem? (i := 69) rfl) rfl
theorem ci_X12_isIced : CIv yX12_isIced cX12_isIced 7 (some .boolean) 3 := ⟨qc_X12_isIced, qi_yX12_isIced, qs_X12_isIced, qz_X12, by decide +kernel⟩
theorem qm_X12_271 : Cond.methodLink RX12 271 yX12_isIced ∈ gw := tbt (tb7 (List.mem_of_getElem? (i := 140) rfl)) rfl
theorem qc_X12_comes : Cond.code yX12_comes cX12_comes 6 (some .int) ∈ gw := tbt (tb7 (List.mem_of_getElem? (i := 160) rfl)) rfl
theorem qi_yX12_comes : Cond.instanceMethod yX12_comes ∈ gw := tbt (tb7 (List.mem_of_getElem? (i := 159) rfl)) rfl
theorem qs_X12_comes : Cond.selects (yX12_comes).cls yX12_comes yX12_comes ∈ gw := tb0 (List.mem_of_getElem? (i := 72) rfl) rfl
theorem ci_X12_comes : CIv yX12_comes cX12_comes 6 (some .int) 4 := ⟨qc_X12_comes, qi_yX12_comes, qs_X12_comes, qz_X12, by decide +kernel⟩
theorem qm_X12_274 : Cond.methodLink RX12 274 yX12_comes ∈ gw := tbt (tb7 (List.mem_of_getElem? (i := 157) rfl)) rfl
theorem qc_X12_arrival : Cond.code yX12_arrival cX12_arrival 4 (some .int) ∈ gw := tbt (tb7 (List.mem_of_getElem? (i := 155) rfl)) rfl
theorem qi_yX12_arrival : Cond.instanceMethod yX12_arrival ∈ gw := tbt (tb7 (List.mem_of_getElem? (i := 154) rfl)) rfl
theorem qs_X12_arrival : Cond.selects (yX12_arrival).cls yX12_arrival yX12_arrival ∈ gw := tb0 (List.mem_of_getElem? (i := 71) rfl) rfl
theorem ci_X12_arrival : CIv yX12_arrival cX12_arrival 4 (some .int) 3 := ⟨qc_X12_arrival, qi_yX12_arrival, qs_X12_arrival, qz_X12, by decide +kernel⟩
theorem qm_X12_280 : Cond.methodLink RX12 280 yX12_arrival ∈ gw := tbt (tb7 (List.mem_of_getElem? (i := 152) rfl)) rfl
theorem qc_X12_priceOf : Cond.code yX12_priceOf cX12_priceOf 3 (some .int) ∈ gw := tbt (tb8 (List.mem_of_getElem? (i := 158) rfl)) rfl
theorem qi_yX12_priceOf : Cond.instanceMethod yX12_priceOf ∈ gw := tbt (tb8 (List.mem_of_getElem? (i := 157) rfl)) rfl
theorem qs_X12_priceOf : Cond.selects (yX12_priceOf).cls yX12_priceOf yX12_priceOf ∈ gw := tb0 (List.mem_of_getElem? (i := 91) rfl) rfl
theorem ci_X12_priceOf : CIv yX12_priceOf cX12_priceOf 3 (some .int) 2 := ⟨qc_X12_priceOf, qi_yX12_priceOf, qs_X12_priceOf, qz_X12, by decide +kernel⟩
theorem qm_X12_353 : Cond.methodLink RX12 353 yX12_priceOf ∈ gw := tbt (tb8 (List.mem_of_getElem? (i := 155) rfl)) rfl
theorem qc_X12_seenBy : Cond.code yX12_seenBy cX12_seenBy 5 (some .int) ∈ gw := tbt (tb7 (List.mem_of_getElem? (i := 176) rfl)) rfl
theorem qi_yX12_seenBy : Cond.instanceMethod yX12_seenBy ∈ gw := tbt (tb7 (List.mem_of_getElem? (i := 175) rfl)) rfl
theorem qs_X12_seenBy : Cond.selects (yX12_seenBy).cls yX12_seenBy yX12_seenBy ∈ gw := tb0 (List.mem_of_getElem? (i := 74) rfl) rfl
theorem ci_X12_seenBy : CIv yX12_seenBy cX12_seenBy 5 (some .int) 3 := ⟨qc_X12_seenBy, qi_yX12_seenBy, qs_X12_seenBy, qz_X12, by decide +kernel⟩
theorem qm_X12_287 : Cond.methodLink RX12 287 yX12_seenBy ∈ gw := tbt (tb7 (List.mem_of_getElem? (i := 173) rfl)) rfl
theorem qc_X12_woreIn : Cond.code yX12_woreIn cX12_woreIn 3 (some .int) ∈ gw := tbt (tb8 (List.mem_of_getElem? (i := 203) rfl)) rfl
theorem qi_yX12_woreIn : Cond.instanceMethod yX12_woreIn ∈ gw := tbt (tb8 (List.mem_of_getElem? (i := 202) rfl)) rfl
theorem qs_X12_woreIn : Cond.selects (yX12_woreIn).cls yX12_woreIn yX12_woreIn ∈ gw := tb0 (List.mem_of_getElem? (i := 96) rfl) rfl
theorem ci_X12_woreIn : CIv yX12_woreIn cX12_woreIn 3 (some .int) 2 := ⟨qc_X12_woreIn, qi_yX12_woreIn, qs_X12_woreIn, qz_X12, by decide +kernel⟩
theorem qm_X12_363 : Cond.methodLink RX12 363 yX12_woreIn ∈ gw := tbt (tb8 (List.mem_of_getElem? (i := 200) rfl)) rfl
def fb_X12_arrival_0 : List UInt8 := [0x1b, 0x1d, 0xa0, 0x00, 0x05, 0x1c, 0xac, 0x1c, 0x11, 0x01, 0x90, 0xa3, 0x00, 0x0d, 0x2a, 0x1b, 0x1d, 0x1c, 0xb6, 0x01, 0x0f, 0x99, 0x00, 0x08, 0x12, 0x58, 0xa7, 0x00, 0x0b, 0x2a, 0x1b, 0x1c, 0x1d, 0x04, 0xb6, 0x01, 0x12, 0xac]
theorem fl_X12_arrival_0 {p j : Nat} {b : UInt8} (e : p = 0 + j) (h : fb_X12_arrival_0[j]? = some b) : cX12_arrival.data.toList[p]? = some b := fq_l (n := 64) (show (cX12_arrival.data.toList.drop 0).take 64 = fb_X12_arrival_0 by decide +kernel) e h
theorem dX12_arrival_0 : decode cX12_arrival 0 = .ok (.iload_n 1, 1) := fq1_27 (fl_X12_arrival_0 (j := 0) rfl rfl)
theorem dX12_arrival_1 : decode cX12_arrival 1 = .ok (.iload_n 3, 1) := fq1_29 (fl_X12_arrival_0 (j := 1) rfl rfl)
theorem dX12_arrival_2 : decode cX12_arrival 2 = .ok (.if_icmp .ne 5, 3) := fq3_160 (fl_X12_arrival_0 (j := 2) rfl rfl) (fl_X12_arrival_0 (j := 3) rfl rfl) (fl_X12_arrival_0 (j := 4) rfl rfl) (s2p rfl (bl rfl))
theorem dX12_arrival_5 : decode cX12_arrival 5 = .ok (.iload_n 2, 1) := fq1_28 (fl_X12_arrival_0 (j := 5) rfl rfl)
theorem dX12_arrival_6 : decode cX12_arrival 6 = .ok (.ireturn, 1) := fq1_172 (fl_X12_arrival_0 (j := 6) rfl rfl)
theorem dX12_arrival_7 : decode cX12_arrival 7 = .ok (.iload_n 2, 1) := fq1_28 (fl_X12_arrival_0 (j := 7) rfl rfl)
theorem dX12_arrival_8 : decode cX12_arrival 8 = .ok (.sipush 400, 3) := fq3_17 (fl_X12_arrival_0 (j := 8) rfl rfl) (fl_X12_arrival_0 (j := 9) rfl rfl) (fl_X12_arrival_0 (j := 10) rfl rfl) (s2p rfl (bl rfl))
theorem dX12_arrival_11 : decode cX12_arrival 11 = .ok (.if_icmp .gt 13, 3) := fq3_163 (fl_X12_arrival_0 (j := 11) rfl rfl) (fl_X12_arrival_0 (j := 12) rfl rfl) (fl_X12_arrival_0 (j := 13) rfl rfl) (s2p rfl (bl rfl))
theorem dX12_arrival_14 : decode cX12_arrival 14 = .ok (.aload_n 0, 1) := fq1_42 (fl_X12_arrival_0 (j := 14) rfl rfl)
theorem dX12_arrival_15 : decode cX12_arrival 15 = .ok (.iload_n 1, 1) := fq1_27 (fl_X12_arrival_0 (j := 15) rfl rfl)
theorem dX12_arrival_16 : decode cX12_arrival 16 = .ok (.iload_n 3, 1) := fq1_29 (fl_X12_arrival_0 (j := 16) rfl rfl)
theorem dX12_arrival_17 : decode cX12_arrival 17 = .ok (.iload_n 2, 1) := fq1_28 (fl_X12_arrival_0 (j := 17) rfl rfl)
theorem dX12_arrival_18 : decode cX12_arrival 18 = .ok (.invokevirtual 271, 3) := fq3_182 (fl_X12_arrival_0 (j := 18) rfl rfl) (fl_X12_arrival_0 (j := 19) rfl rfl) (fl_X12_arrival_0 (j := 20) rfl rfl) rfl
theorem dX12_arrival_21 : decode cX12_arrival 21 = .ok (.ifCond .eq 8, 3) := fq3_153 (fl_X12_arrival_0 (j := 21) rfl rfl) (fl_X12_arrival_0 (j := 22) rfl rfl) (fl_X12_arrival_0 (j := 23) rfl rfl) (s2p rfl (bl rfl))
theorem dX12_arrival_24 : decode cX12_arrival 24 = .ok (.ldc 88, 2) := fq2_18 (fl_X12_arrival_0 (j := 24) rfl rfl) (fl_X12_arrival_0 (j := 25) rfl rfl) rfl
theorem dX12_arrival_26 : decode cX12_arrival 26 = .ok (.goto 11, 3) := fq3_167 (fl_X12_arrival_0 (j := 26) rfl rfl) (fl_X12_arrival_0 (j := 27) rfl rfl) (fl_X12_arrival_0 (j := 28) rfl rfl) (s2p rfl (bl rfl))
theorem dX12_arrival_29 : decode cX12_arrival 29 = .ok (.aload_n 0, 1) := fq1_42 (fl_X12_arrival_0 (j := 29) rfl rfl)
theorem dX12_arrival_30 : decode cX12_arrival 30 = .ok (.iload_n 1, 1) := fq1_27 (fl_X12_arrival_0 (j := 30) rfl rfl)
theorem dX12_arrival_31 : decode cX12_arrival 31 = .ok (.iload_n 2, 1) := fq1_28 (fl_X12_arrival_0 (j := 31) rfl rfl)
theorem dX12_arrival_32 : decode cX12_arrival 32 = .ok (.iload_n 3, 1) := fq1_29 (fl_X12_arrival_0 (j := 32) rfl rfl)
theorem dX12_arrival_33 : decode cX12_arrival 33 = .ok (.iconst 1, 1) := fq1_4 (fl_X12_arrival_0 (j := 33) rfl rfl)
theorem dX12_arrival_34 : decode cX12_arrival 34 = .ok (.invokevirtual 274, 3) := fq3_182 (fl_X12_arrival_0 (j := 34) rfl rfl) (fl_X12_arrival_0 (j := 35) rfl rfl) (fl_X12_arrival_0 (j := 36) rfl rfl) rfl
theorem dX12_arrival_37 : decode cX12_arrival 37 = .ok (.ireturn, 1) := fq1_172 (fl_X12_arrival_0 (j := 37) rfl rfl)
def fb_X12_comes_0 : List UInt8 := [0x1c, 0x36, 0x05, 0x15, 0x04, 0x2a, 0x1b, 0x1c, 0x1d, 0x15, 0x05, 0xb6, 0x01, 0x05, 0x68, 0x15, 0x05, 0x1c, 0x64, 0xa4, 0x00, 0x09, 0x84, 0x05, 0x01, 0xa7, 0xff, 0xea, 0x15, 0x05, 0xac]
theorem fl_X12_comes_0 {p j : Nat} {b : UInt8} (e : p = 0 + j) (h : fb_X12_comes_0[j]? = some b) : cX12_comes.data.toList[p]? = some b := fq_l (n := 64) (show (cX12_comes.data.toList.drop 0).take 64 = fb_X12_comes_0 by decide +kernel) e h
theorem dX12_comes_0 : decode cX12_comes 0 = .ok (.iload_n 2, 1) := fq1_28 (fl_X12_comes_0 (j := 0) rfl rfl)
theorem dX12_comes_1 : decode cX12_comes 1 = .ok (.istore 5, 2) := fq2_54 (fl_X12_comes_0 (j := 1) rfl rfl) (fl_X12_comes_0 (j := 2) rfl rfl) rfl
theorem dX12_comes_3 : decode cX12_comes 3 = .ok (.iload 4, 2) := fq2_21 (fl_X12_comes_0 (j := 3) rfl rfl) (fl_X12_comes_0 (j := 4) rfl rfl) rfl
theorem dX12_comes_5 : decode cX12_comes 5 = .ok (.aload_n 0, 1) := fq1_42 (fl_X12_comes_0 (j := 5) rfl rfl)
theorem dX12_comes_6 : decode cX12_comes 6 = .ok (.iload_n 1, 1) := fq1_27 (fl_X12_comes_0 (j := 6) rfl rfl)
theorem dX12_comes_7 : decode cX12_comes 7 = .ok (.iload_n 2, 1) := fq1_28 (fl_X12_comes_0 (j := 7) rfl rfl)
theorem dX12_comes_8 : decode cX12_comes 8 = .ok (.iload_n 3, 1) := fq1_29 (fl_X12_comes_0 (j := 8) rfl rfl)
theorem dX12_comes_9 : decode cX12_comes 9 = .ok (.iload 5, 2) := fq2_21 (fl_X12_comes_0 (j := 9) rfl rfl) (fl_X12_comes_0 (j := 10) rfl rfl) rfl
theorem dX12_comes_11 : decode cX12_comes 11 = .ok (.invokevirtual 261, 3) := fq3_182 (fl_X12_comes_0 (j := 11) rfl rfl) (fl_X12_comes_0 (j := 12) rfl rfl) (fl_X12_comes_0 (j := 13) rfl rfl) rfl
theorem dX12_comes_14 : decode cX12_comes 14 = .ok (.imul, 1) := fq1_104 (fl_X12_comes_0 (j := 14) rfl rfl)
theorem dX12_comes_15 : decode cX12_comes 15 = .ok (.iload 5, 2) := fq2_21 (fl_X12_comes_0 (j := 15) rfl rfl) (fl_X12_comes_0 (j := 16) rfl rfl) rfl
theorem dX12_comes_17 : decode cX12_comes 17 = .ok (.iload_n 2, 1) := fq1_28 (fl_X12_comes_0 (j := 17) rfl rfl)
theorem dX12_comes_18 : decode cX12_comes 18 = .ok (.isub, 1) := fq1_100 (fl_X12_comes_0 (j := 18) rfl rfl)
theorem dX12_comes_19 : decode cX12_comes 19 = .ok (.if_icmp .le 9, 3) := fq3_164 (fl_X12_comes_0 (j := 19) rfl rfl) (fl_X12_comes_0 (j := 20) rfl rfl) (fl_X12_comes_0 (j := 21) rfl rfl) (s2p rfl (bl rfl))
theorem dX12_comes_22 : decode cX12_comes 22 = .ok (.iinc 5 1, 3) := fq3_132 (fl_X12_comes_0 (j := 22) rfl rfl) (fl_X12_comes_0 (j := 23) rfl rfl) (fl_X12_comes_0 (j := 24) rfl rfl) rfl (s1p rfl (bl rfl))
theorem dX12_comes_25 : decode cX12_comes 25 = .ok (.goto (-22), 3) := fq3_167 (fl_X12_comes_0 (j := 25) rfl rfl) (fl_X12_comes_0 (j := 26) rfl rfl) (fl_X12_comes_0 (j := 27) rfl rfl) (by decide)
theorem dX12_comes_28 : decode cX12_comes 28 = .ok (.iload 5, 2) := fq2_21 (fl_X12_comes_0 (j := 28) rfl rfl) (fl_X12_comes_0 (j := 29) rfl rfl) rfl
theorem dX12_comes_30 : decode cX12_comes 30 = .ok (.ireturn, 1) := fq1_172 (fl_X12_comes_0 (j := 30) rfl rfl)
def fb_X12_echoOf_0 : List UInt8 := [0x2a, 0x1b, 0x1c, 0x1d, 0xb6, 0x01, 0x18, 0x36, 0x04, 0x15, 0x04, 0x12, 0x58, 0xa0, 0x00, 0x08, 0x12, 0x58, 0xa7, 0x00, 0x0b, 0x2a, 0x1d, 0x15, 0x04, 0x1b, 0xb6, 0x01, 0x18, 0xac]
theorem fl_X12_echoOf_0 {p j : Nat} {b : UInt8} (e : p = 0 + j) (h : fb_X12_echoOf_0[j]? = some b) : cX12_echoOf.data.toList[p]? = some b := fq_l (n := 64) (show (cX12_echoOf.data.toList.drop 0).take 64 = fb_X12_echoOf_0 by decide +kernel) e h
theorem dX12_echoOf_0 : decode cX12_echoOf 0 = .ok (.aload_n 0, 1) := fq1_42 (fl_X12_echoOf_0 (j := 0) rfl rfl)
theorem dX12_echoOf_1 : decode cX12_echoOf 1 = .ok (.iload_n 1, 1) := fq1_27 (fl_X12_echoOf_0 (j := 1) rfl rfl)
theorem dX12_echoOf_2 : decode cX12_echoOf 2 = .ok (.iload_n 2, 1) := fq1_28 (fl_X12_echoOf_0 (j := 2) rfl rfl)
theorem dX12_echoOf_3 : decode cX12_echoOf 3 = .ok (.iload_n 3, 1) := fq1_29 (fl_X12_echoOf_0 (j := 3) rfl rfl)
theorem dX12_echoOf_4 : decode cX12_echoOf 4 = .ok (.invokevirtual 280, 3) := fq3_182 (fl_X12_echoOf_0 (j := 4) rfl rfl) (fl_X12_echoOf_0 (j := 5) rfl rfl) (fl_X12_echoOf_0 (j := 6) rfl rfl) rfl
theorem dX12_echoOf_7 : decode cX12_echoOf 7 = .ok (.istore 4, 2) := fq2_54 (fl_X12_echoOf_0 (j := 7) rfl rfl) (fl_X12_echoOf_0 (j := 8) rfl rfl) rfl
theorem dX12_echoOf_9 : decode cX12_echoOf 9 = .ok (.iload 4, 2) := fq2_21 (fl_X12_echoOf_0 (j := 9) rfl rfl) (fl_X12_echoOf_0 (j := 10) rfl rfl) rfl
theorem dX12_echoOf_11 : decode cX12_echoOf 11 = .ok (.ldc 88, 2) := fq2_18 (fl_X12_echoOf_0 (j := 11) rfl rfl) (fl_X12_echoOf_0 (j := 12) rfl rfl) rfl
theorem dX12_echoOf_13 : decode cX12_echoOf 13 = .ok (.if_icmp .ne 8, 3) := fq3_160 (fl_X12_echoOf_0 (j := 13) rfl rfl) (fl_X12_echoOf_0 (j := 14) rfl rfl) (fl_X12_echoOf_0 (j := 15) rfl rfl) (s2p rfl (bl rfl))
theorem dX12_echoOf_16 : decode cX12_echoOf 16 = .ok (.ldc 88, 2) := fq2_18 (fl_X12_echoOf_0 (j := 16) rfl rfl) (fl_X12_echoOf_0 (j := 17) rfl rfl) rfl
theorem dX12_echoOf_18 : decode cX12_echoOf 18 = .ok (.goto 11, 3) := fq3_167 (fl_X12_echoOf_0 (j := 18) rfl rfl) (fl_X12_echoOf_0 (j := 19) rfl rfl) (fl_X12_echoOf_0 (j := 20) rfl rfl) (s2p rfl (bl rfl))
theorem dX12_echoOf_21 : decode cX12_echoOf 21 = .ok (.aload_n 0, 1) := fq1_42 (fl_X12_echoOf_0 (j := 21) rfl rfl)
theorem dX12_echoOf_22 : decode cX12_echoOf 22 = .ok (.iload_n 3, 1) := fq1_29 (fl_X12_echoOf_0 (j := 22) rfl rfl)
theorem dX12_echoOf_23 : decode cX12_echoOf 23 = .ok (.iload 4, 2) := fq2_21 (fl_X12_echoOf_0 (j := 23) rfl rfl) (fl_X12_echoOf_0 (j := 24) rfl rfl) rfl
theorem dX12_echoOf_25 : decode cX12_echoOf 25 = .ok (.iload_n 1, 1) := fq1_27 (fl_X12_echoOf_0 (j := 25) rfl rfl)
theorem dX12_echoOf_26 : decode cX12_echoOf 26 = .ok (.invokevirtual 280, 3) := fq3_182 (fl_X12_echoOf_0 (j := 26) rfl rfl) (fl_X12_echoOf_0 (j := 27) rfl rfl) (fl_X12_echoOf_0 (j := 28) rfl rfl) rfl
theorem dX12_echoOf_29 : decode cX12_echoOf 29 = .ok (.ireturn, 1) := fq1_172 (fl_X12_echoOf_0 (j := 29) rfl rfl)
def fb_X12_fashionSeen_0 : List UInt8 := [0x2a, 0x1b, 0x1c, 0x1d, 0xb6, 0x01, 0x1f, 0x36, 0x04, 0x15, 0x04, 0x02, 0xa0, 0x00, 0x07, 0x02, 0xa7, 0x00, 0x0a, 0x2a, 0x1c, 0x15, 0x04, 0xb6, 0x01, 0x6b, 0xac]
theorem fl_X12_fashionSeen_0 {p j : Nat} {b : UInt8} (e : p = 0 + j) (h : fb_X12_fashionSeen_0[j]? = some b) : cX12_fashionSeen.data.toList[p]? = some b := fq_l (n := 64) (show (cX12_fashionSeen.data.toList.drop 0).take 64 = fb_X12_fashionSeen_0 by decide +kernel) e h
theorem dX12_fashionSeen_0 : decode cX12_fashionSeen 0 = .ok (.aload_n 0, 1) := fq1_42 (fl_X12_fashionSeen_0 (j := 0) rfl rfl)
theorem dX12_fashionSeen_1 : decode cX12_fashionSeen 1 = .ok (.iload_n 1, 1) := fq1_27 (fl_X12_fashionSeen_0 (j := 1) rfl rfl)
theorem dX12_fashionSeen_2 : decode cX12_fashionSeen 2 = .ok (.iload_n 2, 1) := fq1_28 (fl_X12_fashionSeen_0 (j := 2) rfl rfl)
theorem dX12_fashionSeen_3 : decode cX12_fashionSeen 3 = .ok (.iload_n 3, 1) := fq1_29 (fl_X12_fashionSeen_0 (j := 3) rfl rfl)
theorem dX12_fashionSeen_4 : decode cX12_fashionSeen 4 = .ok (.invokevirtual 287, 3) := fq3_182 (fl_X12_fashionSeen_0 (j := 4) rfl rfl) (fl_X12_fashionSeen_0 (j := 5) rfl rfl) (fl_X12_fashionSeen_0 (j := 6) rfl rfl) rfl
theorem dX12_fashionSeen_7 : decode cX12_fashionSeen 7 = .ok (.istore 4, 2) := fq2_54 (fl_X12_fashionSeen_0 (j := 7) rfl rfl) (fl_X12_fashionSeen_0 (j := 8) rfl rfl) rfl
theorem dX12_fashionSeen_9 : decode cX12_fashionSeen 9 = .ok (.iload 4, 2) := fq2_21 (fl_X12_fashionSeen_0 (j := 9) rfl rfl) (fl_X12_fashionSeen_0 (j := 10) rfl rfl) rfl
theorem dX12_fashionSeen_11 : decode cX12_fashionSeen 11 = .ok (.iconst (-1), 1) := fq1_2 (fl_X12_fashionSeen_0 (j := 11) rfl rfl)
theorem dX12_fashionSeen_12 : decode cX12_fashionSeen 12 = .ok (.if_icmp .ne 7, 3) := fq3_160 (fl_X12_fashionSeen_0 (j := 12) rfl rfl) (fl_X12_fashionSeen_0 (j := 13) rfl rfl) (fl_X12_fashionSeen_0 (j := 14) rfl rfl) (s2p rfl (bl rfl))
theorem dX12_fashionSeen_15 : decode cX12_fashionSeen 15 = .ok (.iconst (-1), 1) := fq1_2 (fl_X12_fashionSeen_0 (j := 15) rfl rfl)
theorem dX12_fashionSeen_16 : decode cX12_fashionSeen 16 = .ok (.goto 10, 3) := fq3_167 (fl_X12_fashionSeen_0 (j := 16) rfl rfl) (fl_X12_fashionSeen_0 (j := 17) rfl rfl) (fl_X12_fashionSeen_0 (j := 18) rfl rfl) (s2p rfl (bl rfl))
theorem dX12_fashionSeen_19 : decode cX12_fashionSeen 19 = .ok (.aload_n 0, 1) := fq1_42 (fl_X12_fashionSeen_0 (j := 19) rfl rfl)
theorem dX12_fashionSeen_20 : decode cX12_fashionSeen 20 = .ok (.iload_n 2, 1) := fq1_28 (fl_X12_fashionSeen_0 (j := 20) rfl rfl)
theorem dX12_fashionSeen_21 : decode cX12_fashionSeen 21 = .ok (.iload 4, 2) := fq2_21 (fl_X12_fashionSeen_0 (j := 21) rfl rfl) (fl_X12_fashionSeen_0 (j := 22) rfl rfl) rfl
theorem dX12_fashionSeen_23 : decode cX12_fashionSeen 23 = .ok (.invokevirtual 363, 3) := fq3_182 (fl_X12_fashionSeen_0 (j := 23) rfl rfl) (fl_X12_fashionSeen_0 (j := 24) rfl rfl) (fl_X12_fashionSeen_0 (j := 25) rfl rfl) rfl
theorem dX12_fashionSeen_26 : decode cX12_fashionSeen 26 = .ok (.ireturn, 1) := fq1_172 (fl_X12_fashionSeen_0 (j := 26) rfl rfl)
def fb_X12_gainOf_0 : List UInt8 := [0x2a, 0x1d, 0x2a, 0x1b, 0x1c, 0x1d, 0x10, 0x0a, 0xb6, 0x01, 0x12, 0xb6, 0x01, 0x61, 0x2a, 0x1b, 0x1c, 0xb6, 0x01, 0x61, 0x64, 0xac]
theorem fl_X12_gainOf_0 {p j : Nat} {b : UInt8} (e : p = 0 + j) (h : fb_X12_gainOf_0[j]? = some b) : cX12_gainOf.data.toList[p]? = some b := fq_l (n := 64) (show (cX12_gainOf.data.toList.drop 0).take 64 = fb_X12_gainOf_0 by decide +kernel) e h
theorem dX12_gainOf_0 : decode cX12_gainOf 0 = .ok (.aload_n 0, 1) := fq1_42 (fl_X12_gainOf_0 (j := 0) rfl rfl)
theorem dX12_gainOf_1 : decode cX12_gainOf 1 = .ok (.iload_n 3, 1) := fq1_29 (fl_X12_gainOf_0 (j := 1) rfl rfl)
theorem dX12_gainOf_2 : decode cX12_gainOf 2 = .ok (.aload_n 0, 1) := fq1_42 (fl_X12_gainOf_0 (j := 2) rfl rfl)
theorem dX12_gainOf_3 : decode cX12_gainOf 3 = .ok (.iload_n 1, 1) := fq1_27 (fl_X12_gainOf_0 (j := 3) rfl rfl)
theorem dX12_gainOf_4 : decode cX12_gainOf 4 = .ok (.iload_n 2, 1) := fq1_28 (fl_X12_gainOf_0 (j := 4) rfl rfl)
theorem dX12_gainOf_5 : decode cX12_gainOf 5 = .ok (.iload_n 3, 1) := fq1_29 (fl_X12_gainOf_0 (j := 5) rfl rfl)
theorem dX12_gainOf_6 : decode cX12_gainOf 6 = .ok (.bipush 10, 2) := fq2_16 (fl_X12_gainOf_0 (j := 6) rfl rfl) (fl_X12_gainOf_0 (j := 7) rfl rfl) (s1p rfl (bl rfl))
theorem dX12_gainOf_8 : decode cX12_gainOf 8 = .ok (.invokevirtual 274, 3) := fq3_182 (fl_X12_gainOf_0 (j := 8) rfl rfl) (fl_X12_gainOf_0 (j := 9) rfl rfl) (fl_X12_gainOf_0 (j := 10) rfl rfl) rfl
theorem dX12_gainOf_11 : decode cX12_gainOf 11 = .ok (.invokevirtual 353, 3) := fq3_182 (fl_X12_gainOf_0 (j := 11) rfl rfl) (fl_X12_gainOf_0 (j := 12) rfl rfl) (fl_X12_gainOf_0 (j := 13) rfl rfl) rfl
theorem dX12_gainOf_14 : decode cX12_gainOf 14 = .ok (.aload_n 0, 1) := fq1_42 (fl_X12_gainOf_0 (j := 14) rfl rfl)
theorem dX12_gainOf_15 : decode cX12_gainOf 15 = .ok (.iload_n 1, 1) := fq1_27 (fl_X12_gainOf_0 (j := 15) rfl rfl)
theorem dX12_gainOf_16 : decode cX12_gainOf 16 = .ok (.iload_n 2, 1) := fq1_28 (fl_X12_gainOf_0 (j := 16) rfl rfl)
theorem dX12_gainOf_17 : decode cX12_gainOf 17 = .ok (.invokevirtual 353, 3) := fq3_182 (fl_X12_gainOf_0 (j := 17) rfl rfl) (fl_X12_gainOf_0 (j := 18) rfl rfl) (fl_X12_gainOf_0 (j := 19) rfl rfl) rfl
theorem dX12_gainOf_20 : decode cX12_gainOf 20 = .ok (.isub, 1) := fq1_100 (fl_X12_gainOf_0 (j := 20) rfl rfl)
theorem dX12_gainOf_21 : decode cX12_gainOf 21 = .ok (.ireturn, 1) := fq1_172 (fl_X12_gainOf_0 (j := 21) rfl rfl)
def fb_X12_seenBy_0 : List UInt8 := [0x1d, 0x36, 0x04, 0x15, 0x04, 0x9b, 0x00, 0x15, 0x2a, 0x1c, 0x15, 0x04, 0x1b, 0xb6, 0x01, 0x18, 0x1d, 0xa4, 0x00, 0x09, 0x84, 0x04, 0xff, 0xa7, 0xff, 0xec, 0x15, 0x04, 0xac]
theorem fl_X12_seenBy_0 {p j : Nat} {b : UInt8} (e : p = 0 + j) (h : fb_X12_seenBy_0[j]? = some b) : cX12_seenBy.data.toList[p]? = some b := fq_l (n := 64) (show (cX12_seenBy.data.toList.drop 0).take 64 = fb_X12_seenBy_0 by decide +kernel) e h
theorem dX12_seenBy_0 : decode cX12_seenBy 0 = .ok (.iload_n 3, 1) := fq1_29 (fl_X12_seenBy_0 (j := 0) rfl rfl)
theorem dX12_seenBy_1 : decode cX12_seenBy 1 = .ok (.istore 4, 2) := fq2_54 (fl_X12_seenBy_0 (j := 1) rfl rfl) (fl_X12_seenBy_0 (j := 2) rfl rfl) rfl
theorem dX12_seenBy_3 : decode cX12_seenBy 3 = .ok (.iload 4, 2) := fq2_21 (fl_X12_seenBy_0 (j := 3) rfl rfl) (fl_X12_seenBy_0 (j := 4) rfl rfl) rfl
theorem dX12_seenBy_5 : decode cX12_seenBy 5 = .ok (.ifCond .lt 21, 3) := fq3_155 (fl_X12_seenBy_0 (j := 5) rfl rfl) (fl_X12_seenBy_0 (j := 6) rfl rfl) (fl_X12_seenBy_0 (j := 7) rfl rfl) (s2p rfl (bl rfl))
theorem dX12_seenBy_8 : decode cX12_seenBy 8 = .ok (.aload_n 0, 1) := fq1_42 (fl_X12_seenBy_0 (j := 8) rfl rfl)
theorem dX12_seenBy_9 : decode cX12_seenBy 9 = .ok (.iload_n 2, 1) := fq1_28 (fl_X12_seenBy_0 (j := 9) rfl rfl)
theorem dX12_seenBy_10 : decode cX12_seenBy 10 = .ok (.iload 4, 2) := fq2_21 (fl_X12_seenBy_0 (j := 10) rfl rfl) (fl_X12_seenBy_0 (j := 11) rfl rfl) rfl
theorem dX12_seenBy_12 : decode cX12_seenBy 12 = .ok (.iload_n 1, 1) := fq1_27 (fl_X12_seenBy_0 (j := 12) rfl rfl)
theorem dX12_seenBy_13 : decode cX12_seenBy 13 = .ok (.invokevirtual 280, 3) := fq3_182 (fl_X12_seenBy_0 (j := 13) rfl rfl) (fl_X12_seenBy_0 (j := 14) rfl rfl) (fl_X12_seenBy_0 (j := 15) rfl rfl) rfl
theorem dX12_seenBy_16 : decode cX12_seenBy 16 = .ok (.iload_n 3, 1) := fq1_29 (fl_X12_seenBy_0 (j := 16) rfl rfl)
theorem dX12_seenBy_17 : decode cX12_seenBy 17 = .ok (.if_icmp .le 9, 3) := fq3_164 (fl_X12_seenBy_0 (j := 17) rfl rfl) (fl_X12_seenBy_0 (j := 18) rfl rfl) (fl_X12_seenBy_0 (j := 19) rfl rfl) (s2p rfl (bl rfl))
theorem dX12_seenBy_20 : decode cX12_seenBy 20 = .ok (.iinc 4 (-1), 3) := fq3_132 (fl_X12_seenBy_0 (j := 20) rfl rfl) (fl_X12_seenBy_0 (j := 21) rfl rfl) (fl_X12_seenBy_0 (j := 22) rfl rfl) rfl (by decide)
theorem dX12_seenBy_23 : decode cX12_seenBy 23 = .ok (.goto (-20), 3) := fq3_167 (fl_X12_seenBy_0 (j := 23) rfl rfl) (fl_X12_seenBy_0 (j := 24) rfl rfl) (fl_X12_seenBy_0 (j := 25) rfl rfl) (by decide)
theorem dX12_seenBy_26 : decode cX12_seenBy 26 = .ok (.iload 4, 2) := fq2_21 (fl_X12_seenBy_0 (j := 26) rfl rfl) (fl_X12_seenBy_0 (j := 27) rfl rfl) rfl
theorem dX12_seenBy_28 : decode cX12_seenBy 28 = .ok (.ireturn, 1) := fq1_172 (fl_X12_seenBy_0 (j := 28) rfl rfl)
def fb_X12_woreIn_0 : List UInt8 := [0x2a, 0xb4, 0x00, 0x07, 0x10, 0x76, 0x1c, 0x60, 0x2e, 0x1b, 0x7a, 0x04, 0x7e, 0xac]
theorem fl_X12_woreIn_0 {p j : Nat} {b : UInt8} (e : p = 0 + j) (h : fb_X12_woreIn_0[j]? = some b) : cX12_woreIn.data.toList[p]? = some b := fq_l (n := 64) (show (cX12_woreIn.data.toList.drop 0).take 64 = fb_X12_woreIn_0 by decide +kernel) e h
theorem dX12_woreIn_0 : decode cX12_woreIn 0 = .ok (.aload_n 0, 1) := fq1_42 (fl_X12_woreIn_0 (j := 0) rfl rfl)
theorem dX12_woreIn_1 : decode cX12_woreIn 1 = .ok (.getfield 7, 3) := fq3_180 (fl_X12_woreIn_0 (j := 1) rfl rfl) (fl_X12_woreIn_0 (j := 2) rfl rfl) (fl_X12_woreIn_0 (j := 3) rfl rfl) rfl
theorem dX12_woreIn_4 : decode cX12_woreIn 4 = .ok (.bipush 118, 2) := fq2_16 (fl_X12_woreIn_0 (j := 4) rfl rfl) (fl_X12_woreIn_0 (j := 5) rfl rfl) (s1p rfl (bl rfl))
theorem dX12_woreIn_6 : decode cX12_woreIn 6 = .ok (.iload_n 2, 1) := fq1_28 (fl_X12_woreIn_0 (j := 6) rfl rfl)
theorem dX12_woreIn_7 : decode cX12_woreIn 7 = .ok (.iadd, 1) := fq1_96 (fl_X12_woreIn_0 (j := 7) rfl rfl)
theorem dX12_woreIn_8 : decode cX12_woreIn 8 = .ok (.iaload, 1) := fq1_46 (fl_X12_woreIn_0 (j := 8) rfl rfl)
theorem dX12_woreIn_9 : decode cX12_woreIn 9 = .ok (.iload_n 1, 1) := fq1_27 (fl_X12_woreIn_0 (j := 9) rfl rfl)
theorem dX12_woreIn_10 : decode cX12_woreIn 10 = .ok (.ishr, 1) := fq1_122 (fl_X12_woreIn_0 (j := 10) rfl rfl)
theorem dX12_woreIn_11 : decode cX12_woreIn 11 = .ok (.iconst 1, 1) := fq1_4 (fl_X12_woreIn_0 (j := 11) rfl rfl)
theorem dX12_woreIn_12 : decode cX12_woreIn 12 = .ok (.iand, 1) := fq1_126 (fl_X12_woreIn_0 (j := 12) rfl rfl)
theorem dX12_woreIn_13 : decode cX12_woreIn 13 = .ok (.ireturn, 1) := fq1_172 (fl_X12_woreIn_0 (j := 13) rfl rfl)
end

section
set_option maxHeartbeats 4000000 in
set_option maxRecDepth 100000 in
theorem m_comes (l : Launch) (D : va_G) (k : Nat → ClassId) (fs : List Value) (hm : Nat) (Ma : Nat) (Af : Nat → Int32) (x : Int) (w : Int) (y : Int) (sl : Int) (f0 : fs[0]? = some (.ref Ma)) (hM : M0 Af) (h9x : 0 ≤ x ∧ x < gz Af 0) (h9w : 0 ≤ w ∧ w ≤ 700) (h9y : 0 ≤ y ∧ y < gz Af 0) (h9sl : sl = 1 ∨ sl = 10) : RP l yX12_comes cX12_comes 6 (some .int) 3 D k [.ref hm, .int (iZ x), .int (iZ w), .int (iZ y), .int (iZ sl)] [(hm, .inr (12, fs)), (Ma, .inl (k 1, 5340, .inl Af))] (fun z => z = cmF (sh Af 10) x w y sl ∧ w ≤ z ∧ z ≤ w + 20 * sl) := by
  refine MRP (by decide) (Nat.le_of_ble_eq_true rfl) (fun p e s m below meth c ls hx hb hml hr hlocks hts hown hKK hP hl => ?_)
  have hK := hKK.1
  have hl : lv_has ls 6 [(0, .ref hm), (1, .int (iZ x)), (2, .int (iZ w)), (3, .int (iZ y)), (4, .int (iZ sl))] := hl
  obtain ⟨m0, m1, m3, m4, m5, mF, mO, mS⟩ := id hM
  rcases h9sl with rfl | rfl
  ·
    refine lv_iload_n hx hb dX12_comes_0 rfl (lv_at hl 2 rfl) ?_
    refine lv_istore (lv' := [(5, .int (iZ w)), (0, .ref hm), (1, .int (iZ x)), (2, .int (iZ w)), (3, .int (iZ y)), (4, .int (iZ 1))]) hx hb dX12_comes_1 hl (bl rfl) rfl (fun ls hl => ?_)
    have HL1 : ∀ (fu : Nat) (i : Int) (ls : Array Slot), (w + 21 - i) < (fu : Int) → w ≤ i → i ≤ w + 20 → (∀ t : Int, w ≤ t → t < i → ¬ 1 * lt (sh Af 10) x w y t ≤ t - w) → lv_has ls 6 [(5, .int (iZ i)), (0, .ref hm), (1, .int (iZ x)), (2, .int (iZ w)), (3, .int (iZ y)), (4, .int (iZ 1))] → W p l e (rj 3 0 0) s m [.ref hm, .int (iZ x), .int (iZ w), .int (iZ y), .int (iZ 1)].toArray below meth c s.heap [] 0 0 (MQ below (QcP (fun z => z = cmF (sh Af 10) x w y 1 ∧ w ≤ z ∧ z ≤ w + 20 * 1)) [.ref hm, .int (iZ x), .int (iZ w), .int (iZ y), .int (iZ 1)].toArray s 0 0 (fun _ => False)) (F0 m 3 ls []) := by
      intro fu
      induction fu with
      | zero => intro i ls hμ1 hi1 hi2 hi3 hl; exact absurd hμ1 (by omega)
      | succ fu ih1 =>
        intro i ls hμ1 hi1 hi2 hi3 hl
        refine lv_iload hx hb dX12_comes_3 (lv_at hl 5 rfl) ?_
        refine lv_aload_n hx hb dX12_comes_5 rfl (lv_at hl 1 rfl) ?_
        refine lv_iload_n hx hb dX12_comes_6 rfl (lv_at hl 2 rfl) ?_
        refine lv_iload_n hx hb dX12_comes_7 rfl (lv_at hl 3 rfl) ?_
        refine lv_iload_n hx hb dX12_comes_8 rfl (lv_at hl 4 rfl) ?_
        refine lv_iload hx hb dX12_comes_9 (lv_at hl 0 rfl) ?_
        refine CRV (As := [.int (iZ x), .int (iZ w), .int (iZ y), .int (iZ i)]) (rest := [.int (iZ 1)]) hx hb hml hown hts hKK hP (m_light l D k fs hm Ma Af x w y i f0 hM ⟨by omega, by omega⟩ ⟨by omega, by omega⟩ ⟨by omega, by omega⟩ ⟨by omega, by omega⟩) ci_X12_lightOf qm_X12_261 ⟨Nat.le_of_ble_eq_true rfl, Nat.le_of_ble_eq_true rfl⟩ ⟨Nat.le_of_ble_eq_true rfl, Nat.le_of_ble_eq_true rfl⟩ 0 rfl rfl rfl hl.1 rfl (Nat.le_of_ble_eq_true rfl) dX12_comes_11 ?_
        have hl_h_1 := lt_rg (f := (sh Af 10)) (a := x) (w := w) (b := y) (t := i) hM.2.2.2.2.2.1 ⟨by omega, by omega⟩ ⟨by omega, by omega⟩
        refine lv_imul hx hb dX12_comes_14 ?_
        refine lv_topi (fun x_2 ex_2 => ?_)
        obtain rfl : x_2 = iZ (1 * (lt (sh Af 10) x w y i)) := ex_2.trans (iZ_mul 1 (lt (sh Af 10) x w y i))
        refine lv_iload hx hb dX12_comes_15 (lv_at hl 0 rfl) ?_
        refine lv_iload_n hx hb dX12_comes_17 rfl (lv_at hl 3 rfl) ?_
        refine lv_isub hx hb dX12_comes_18 ?_
        refine lv_topi (fun x_3 ex_3 => ?_)
        obtain rfl : x_3 = iZ (i - w) := ex_3.trans (iZ_sub i w)
        refine lv_icmp_le (tgt := 28) hx hb dX12_comes_19 rfl (fun c_4 => ?_) (fun c_4 => ?_)
        ·
          have c_4 := (zle (x := iZ (1 * (lt (sh Af 10) x w y i))) (y := iZ (i - w)) rfl rfl ⟨by omega, by omega⟩ ⟨by omega, by omega⟩).mp c_4
          refine lv_iload hx hb dX12_comes_28 (lv_at hl 0 rfl) ?_
          exact EPi hx hb hr hlocks ⟨cmF_eq ⟨hi1, by omega, hi3⟩, by omega, by omega⟩ dX12_comes_30
        ·
          have c_4 := mt (zle (x := iZ (1 * (lt (sh Af 10) x w y i))) (y := iZ (i - w)) rfl rfl ⟨by omega, by omega⟩ ⟨by omega, by omega⟩).mpr c_4
          refine lv_iinc (v := iZ (i + 1)) (lv' := [(5, .int (iZ (i + 1))), (0, .ref hm), (1, .int (iZ x)), (2, .int (iZ w)), (3, .int (iZ y)), (4, .int (iZ 1))]) hx hb dX12_comes_22 hl (k := 0) rfl (iZ_add i 1) (by decide) rfl (fun ls hl => ?_)
          refine lv_goto (tgt := 3) hx hb dX12_comes_25 rfl ?_
          exact ih1  (i + 1) _ (by omega) (by omega) (by omega) (by intro t h1 h2; rcases Int.lt_or_eq_of_le (show t ≤ i by omega) with h3 | h3; exact hi3 t h1 h3; rw [h3]; omega) (lv_sub hl [0, 1, 2, 3, 4, 5] rfl)
    exact HL1 22 w _ (by omega) (by omega) (by omega) (fun t h1 h2 => absurd h1 (by omega)) (lv_sub hl [0, 1, 2, 3, 4, 5] rfl)
  ·
    refine lv_iload_n hx hb dX12_comes_0 rfl (lv_at hl 2 rfl) ?_
    refine lv_istore (lv' := [(5, .int (iZ w)), (0, .ref hm), (1, .int (iZ x)), (2, .int (iZ w)), (3, .int (iZ y)), (4, .int (iZ 10))]) hx hb dX12_comes_1 hl (bl rfl) rfl (fun ls hl => ?_)
    have HL1 : ∀ (fu : Nat) (i : Int) (ls : Array Slot), (w + 201 - i) < (fu : Int) → w ≤ i → i ≤ w + 200 → (∀ t : Int, w ≤ t → t < i → ¬ 10 * lt (sh Af 10) x w y t ≤ t - w) → lv_has ls 6 [(5, .int (iZ i)), (0, .ref hm), (1, .int (iZ x)), (2, .int (iZ w)), (3, .int (iZ y)), (4, .int (iZ 10))] → W p l e (rj 3 0 0) s m [.ref hm, .int (iZ x), .int (iZ w), .int (iZ y), .int (iZ 10)].toArray below meth c s.heap [] 0 0 (MQ below (QcP (fun z => z = cmF (sh Af 10) x w y 10 ∧ w ≤ z ∧ z ≤ w + 20 * 10)) [.ref hm, .int (iZ x), .int (iZ w), .int (iZ y), .int (iZ 10)].toArray s 0 0 (fun _ => False)) (F0 m 3 ls []) := by
      intro fu
      induction fu with
      | zero => intro i ls hμ1 hi1 hi2 hi3 hl; exact absurd hμ1 (by omega)
      | succ fu ih1 =>
        intro i ls hμ1 hi1 hi2 hi3 hl
        refine lv_iload hx hb dX12_comes_3 (lv_at hl 5 rfl) ?_
        refine lv_aload_n hx hb dX12_comes_5 rfl (lv_at hl 1 rfl) ?_
        refine lv_iload_n hx hb dX12_comes_6 rfl (lv_at hl 2 rfl) ?_
        refine lv_iload_n hx hb dX12_comes_7 rfl (lv_at hl 3 rfl) ?_
        refine lv_iload_n hx hb dX12_comes_8 rfl (lv_at hl 4 rfl) ?_
        refine lv_iload hx hb dX12_comes_9 (lv_at hl 0 rfl) ?_
        refine CRV (As := [.int (iZ x), .int (iZ w), .int (iZ y), .int (iZ i)]) (rest := [.int (iZ 10)]) hx hb hml hown hts hKK hP (m_light l D k fs hm Ma Af x w y i f0 hM ⟨by omega, by omega⟩ ⟨by omega, by omega⟩ ⟨by omega, by omega⟩ ⟨by omega, by omega⟩) ci_X12_lightOf qm_X12_261 ⟨Nat.le_of_ble_eq_true rfl, Nat.le_of_ble_eq_true rfl⟩ ⟨Nat.le_of_ble_eq_true rfl, Nat.le_of_ble_eq_true rfl⟩ 0 rfl rfl rfl hl.1 rfl (Nat.le_of_ble_eq_true rfl) dX12_comes_11 ?_
        have hl_h_5 := lt_rg (f := (sh Af 10)) (a := x) (w := w) (b := y) (t := i) hM.2.2.2.2.2.1 ⟨by omega, by omega⟩ ⟨by omega, by omega⟩
        refine lv_imul hx hb dX12_comes_14 ?_
        refine lv_topi (fun x_6 ex_6 => ?_)
        obtain rfl : x_6 = iZ (10 * (lt (sh Af 10) x w y i)) := ex_6.trans (iZ_mul 10 (lt (sh Af 10) x w y i))
        refine lv_iload hx hb dX12_comes_15 (lv_at hl 0 rfl) ?_
        refine lv_iload_n hx hb dX12_comes_17 rfl (lv_at hl 3 rfl) ?_
        refine lv_isub hx hb dX12_comes_18 ?_
        refine lv_topi (fun x_7 ex_7 => ?_)
        obtain rfl : x_7 = iZ (i - w) := ex_7.trans (iZ_sub i w)
        refine lv_icmp_le (tgt := 28) hx hb dX12_comes_19 rfl (fun c_8 => ?_) (fun c_8 => ?_)
        ·
          have c_8 := (zle (x := iZ (10 * (lt (sh Af 10) x w y i))) (y := iZ (i - w)) rfl rfl ⟨by omega, by omega⟩ ⟨by omega, by omega⟩).mp c_8
          refine lv_iload hx hb dX12_comes_28 (lv_at hl 0 rfl) ?_
          exact EPi hx hb hr hlocks ⟨cmF_eq ⟨hi1, by omega, hi3⟩, by omega, by omega⟩ dX12_comes_30
        ·
          have c_8 := mt (zle (x := iZ (10 * (lt (sh Af 10) x w y i))) (y := iZ (i - w)) rfl rfl ⟨by omega, by omega⟩ ⟨by omega, by omega⟩).mpr c_8
          refine lv_iinc (v := iZ (i + 1)) (lv' := [(5, .int (iZ (i + 1))), (0, .ref hm), (1, .int (iZ x)), (2, .int (iZ w)), (3, .int (iZ y)), (4, .int (iZ 10))]) hx hb dX12_comes_22 hl (k := 0) rfl (iZ_add i 1) (by decide) rfl (fun ls hl => ?_)
          refine lv_goto (tgt := 3) hx hb dX12_comes_25 rfl ?_
          exact ih1  (i + 1) _ (by omega) (by omega) (by omega) (by intro t h1 h2; rcases Int.lt_or_eq_of_le (show t ≤ i by omega) with h3 | h3; exact hi3 t h1 h3; rw [h3]; omega) (lv_sub hl [0, 1, 2, 3, 4, 5] rfl)
    exact HL1 202 w _ (by omega) (by omega) (by omega) (fun t h1 h2 => absurd h1 (by omega)) (lv_sub hl [0, 1, 2, 3, 4, 5] rfl)
set_option maxHeartbeats 4000000 in
set_option maxRecDepth 100000 in
theorem m_arrival (l : Launch) (D : va_G) (k : Nat → ClassId) (fs : List Value) (hm : Nat) (Ma : Nat) (Af : Nat → Int32) (x : Int) (w : Int) (y : Int) (f0 : fs[0]? = some (.ref Ma)) (hM : M0 Af) (h9x : 0 ≤ x ∧ x < gz Af 0) (h9w : 0 ≤ w ∧ w ≤ 1000000) (h9y : 0 ≤ y ∧ y < gz Af 0) : RP l yX12_arrival cX12_arrival 4 (some .int) 4 D k [.ref hm, .int (iZ x), .int (iZ w), .int (iZ y)] [(hm, .inr (12, fs)), (Ma, .inl (k 1, 5340, .inl Af))] (fun z => z = arF (sh Af 10) (sh Af 46) (gz Af 1) x w y ∧ ((x = y ∧ z = w) ∨ (¬ x = y ∧ (z = 1000000 ∨ (w ≤ 400 ∧ w ≤ z ∧ z ≤ w + 20))))) := by
  refine MRP (by decide) (Nat.le_of_ble_eq_true rfl) (fun p e s m below meth c ls hx hb hml hr hlocks hts hown hKK hP hl => ?_)
  have hK := hKK.1
  have hl : lv_has ls 4 [(0, .ref hm), (1, .int (iZ x)), (2, .int (iZ w)), (3, .int (iZ y))] := hl
  obtain ⟨m0, m1, m3, m4, m5, mF, mO, mS⟩ := id hM
  refine lv_iload_n hx hb dX12_arrival_0 rfl (lv_at hl 1 rfl) ?_
  refine lv_iload_n hx hb dX12_arrival_1 rfl (lv_at hl 3 rfl) ?_
  refine lv_icmp_ne (tgt := 7) hx hb dX12_arrival_2 rfl (fun c_1 => ?_) (fun c_1 => ?_)
  ·
    have c_1 := mt (zeq (x := iZ x) (y := iZ y) rfl rfl ⟨by omega, by omega⟩ ⟨by omega, by omega⟩).mpr c_1
    refine lv_iload_n hx hb dX12_arrival_7 rfl (lv_at hl 2 rfl) ?_
    refine lv_sipush (v := iZ 400) hx hb dX12_arrival_8 sip_400 ?_
    refine lv_icmp_gt (tgt := 24) hx hb dX12_arrival_11 rfl (fun c_2 => ?_) (fun c_2 => ?_)
    ·
      have c_2 := (zlt (x := iZ 400) (y := iZ w) rfl rfl wn_400 ⟨by omega, by omega⟩).mp c_2
      refine lv_ldc (own := RX12) (v := 1000000) hx hb hown (hts _ qk_X12_88) dX12_arrival_24 ?_
      refine W.eq (g2 := F0 m 26 ls [.int (iZ 1000000)]) rfl ?_
      refine lv_goto (tgt := 37) hx hb dX12_arrival_26 rfl ?_
      exact EPi hx hb hr hlocks ⟨by unfold arF; rw [if_neg (by omega)]; first | rw [if_pos (by omega)] | rw [if_neg (by omega), if_pos (by omega)], Or.inr ⟨by omega, Or.inl rfl⟩⟩ dX12_arrival_37
    ·
      have c_2 := mt (zlt (x := iZ 400) (y := iZ w) rfl rfl wn_400 ⟨by omega, by omega⟩).mpr c_2
      refine lv_aload_n hx hb dX12_arrival_14 rfl (lv_at hl 0 rfl) ?_
      refine lv_iload_n hx hb dX12_arrival_15 rfl (lv_at hl 1 rfl) ?_
      refine lv_iload_n hx hb dX12_arrival_16 rfl (lv_at hl 3 rfl) ?_
      refine lv_iload_n hx hb dX12_arrival_17 rfl (lv_at hl 2 rfl) ?_
      refine CRV (As := [.int (iZ x), .int (iZ y), .int (iZ w)]) (rest := []) hx hb hml hown hts hKK hP (m_iced l D k fs hm Ma Af x y w f0 hM ⟨by omega, by omega⟩ ⟨by omega, by omega⟩ ⟨by omega, by omega⟩) ci_X12_isIced qm_X12_271 ⟨Nat.le_of_ble_eq_true rfl, Nat.le_of_ble_eq_true rfl⟩ ⟨Nat.le_of_ble_eq_true rfl, Nat.le_of_ble_eq_true rfl⟩ 0 rfl rfl rfl hl.1 rfl (Nat.le_of_ble_eq_true rfl) dX12_arrival_18 ?_
      have hz_h_3 := bz_rg (isIc (sh Af 46) (gz Af 1) x y w)
      refine lv_if_eq (tgt := 29) hx hb dX12_arrival_21 rfl (fun c_4 => ?_) (fun c_4 => ?_)
      ·
        have c_4 := (zeq (x := iZ (bz (isIc (sh Af 46) (gz Af 1) x y w))) (y := iZ 0) rfl rfl ⟨by omega, by omega⟩ wn_0).mp c_4
        refine lv_aload_n hx hb dX12_arrival_29 rfl (lv_at hl 0 rfl) ?_
        refine lv_iload_n hx hb dX12_arrival_30 rfl (lv_at hl 1 rfl) ?_
        refine lv_iload_n hx hb dX12_arrival_31 rfl (lv_at hl 2 rfl) ?_
        refine lv_iload_n hx hb dX12_arrival_32 rfl (lv_at hl 3 rfl) ?_
        refine lv_iconst (v := iZ 1) hx hb dX12_arrival_33 rfl ?_
        refine CPV (As := [.int (iZ x), .int (iZ w), .int (iZ y), .int (iZ 1)]) (rest := []) hx hb hml hown hts hKK hP (m_comes l D k fs hm Ma Af x w y 1 f0 hM ⟨by omega, by omega⟩ ⟨by omega, by omega⟩ ⟨by omega, by omega⟩ (by omega)) ci_X12_comes qm_X12_274 ⟨Nat.le_of_ble_eq_true rfl, Nat.le_of_ble_eq_true rfl⟩ ⟨Nat.le_of_ble_eq_true rfl, Nat.le_of_ble_eq_true rfl⟩ 0 rfl rfl rfl hl.1 rfl (Nat.le_of_ble_eq_true rfl) dX12_arrival_34 (fun z_5 hz_5 => ?_)
        obtain ⟨ez_5, az_5⟩ := hz_5
        exact EPi hx hb hr hlocks ⟨by unfold arF; rw [if_neg (by omega), if_neg (by omega), if_neg (by omega)]; omega, Or.inr ⟨by omega, Or.inr ⟨by omega, by omega, by omega⟩⟩⟩ dX12_arrival_37
      ·
        have c_4 := mt (zeq (x := iZ (bz (isIc (sh Af 46) (gz Af 1) x y w))) (y := iZ 0) rfl rfl ⟨by omega, by omega⟩ wn_0).mpr c_4
        refine lv_ldc (own := RX12) (v := 1000000) hx hb hown (hts _ qk_X12_88) dX12_arrival_24 ?_
        refine W.eq (g2 := F0 m 26 ls [.int (iZ 1000000)]) rfl ?_
        refine lv_goto (tgt := 37) hx hb dX12_arrival_26 rfl ?_
        exact EPi hx hb hr hlocks ⟨by unfold arF; rw [if_neg (by omega)]; first | rw [if_pos (by omega)] | rw [if_neg (by omega), if_pos (by omega)], Or.inr ⟨by omega, Or.inl rfl⟩⟩ dX12_arrival_37
  ·
    have c_1 := (zeq (x := iZ x) (y := iZ y) rfl rfl ⟨by omega, by omega⟩ ⟨by omega, by omega⟩).mp c_1
    refine lv_iload_n hx hb dX12_arrival_5 rfl (lv_at hl 2 rfl) ?_
    exact EPi hx hb hr hlocks ⟨by unfold arF; rw [if_pos (by omega)], Or.inl ⟨by omega, rfl⟩⟩ dX12_arrival_6
set_option maxHeartbeats 4000000 in
set_option maxRecDepth 100000 in
theorem m_seen (l : Launch) (D : va_G) (k : Nat → ClassId) (fs : List Value) (hm : Nat) (Ma : Nat) (Af : Nat → Int32) (x : Int) (y : Int) (w : Int) (f0 : fs[0]? = some (.ref Ma)) (hM : M0 Af) (h9x : 0 ≤ x ∧ x < gz Af 0) (h9y : 0 ≤ y ∧ y < gz Af 0) (h9w : 0 ≤ w ∧ w ≤ 700) : RP l yX12_seenBy cX12_seenBy 5 (some .int) 5 D k [.ref hm, .int (iZ x), .int (iZ y), .int (iZ w)] [(hm, .inr (12, fs)), (Ma, .inl (k 1, 5340, .inl Af))] (fun z => z = snF (sh Af 10) (sh Af 46) (gz Af 1) x y w ∧ -1 ≤ z ∧ z ≤ w) := by
  refine MRP (by decide) (Nat.le_of_ble_eq_true rfl) (fun p e s m below meth c ls hx hb hml hr hlocks hts hown hKK hP hl => ?_)
  have hK := hKK.1
  have hl : lv_has ls 5 [(0, .ref hm), (1, .int (iZ x)), (2, .int (iZ y)), (3, .int (iZ w))] := hl
  obtain ⟨m0, m1, m3, m4, m5, mF, mO, mS⟩ := id hM
  refine lv_iload_n hx hb dX12_seenBy_0 rfl (lv_at hl 3 rfl) ?_
  refine lv_istore (lv' := [(4, .int (iZ w)), (0, .ref hm), (1, .int (iZ x)), (2, .int (iZ y)), (3, .int (iZ w))]) hx hb dX12_seenBy_1 hl (bl rfl) rfl (fun ls hl => ?_)
  have HL1 : ∀ (fu : Nat) (i : Int) (ls : Array Slot), (i + 2) < (fu : Int) → -1 ≤ i → i ≤ w → (∀ t : Int, i < t → t ≤ w → ¬ arF (sh Af 10) (sh Af 46) (gz Af 1) y t x ≤ w) → lv_has ls 5 [(4, .int (iZ i)), (0, .ref hm), (1, .int (iZ x)), (2, .int (iZ y)), (3, .int (iZ w))] → W p l e (rj 5 0 0) s m [.ref hm, .int (iZ x), .int (iZ y), .int (iZ w)].toArray below meth c s.heap [] 0 0 (MQ below (QcP (fun z => z = snF (sh Af 10) (sh Af 46) (gz Af 1) x y w ∧ -1 ≤ z ∧ z ≤ w)) [.ref hm, .int (iZ x), .int (iZ y), .int (iZ w)].toArray s 0 0 (fun _ => False)) (F0 m 3 ls []) := by
    intro fu
    induction fu with
    | zero => intro i ls hμ1 hi1 hi2 hi3 hl; exact absurd hμ1 (by omega)
    | succ fu ih1 =>
      intro i ls hμ1 hi1 hi2 hi3 hl
      refine lv_iload hx hb dX12_seenBy_3 (lv_at hl 0 rfl) ?_
      refine lv_if_lt (tgt := 26) hx hb dX12_seenBy_5 rfl (fun c_1 => ?_) (fun c_1 => ?_)
      ·
        have c_1 := (zlt (x := iZ i) (y := iZ 0) rfl rfl ⟨by omega, by omega⟩ wn_0).mp c_1
        refine lv_iload hx hb dX12_seenBy_26 (lv_at hl 0 rfl) ?_
        exact EPi hx hb hr hlocks ⟨snF_eq ⟨⟨by omega, by omega⟩, fun _ => by omega, hi3⟩, by omega, by omega⟩ dX12_seenBy_28
      ·
        have c_1 := mt (zlt (x := iZ i) (y := iZ 0) rfl rfl ⟨by omega, by omega⟩ wn_0).mpr c_1
        refine lv_aload_n hx hb dX12_seenBy_8 rfl (lv_at hl 1 rfl) ?_
        refine lv_iload_n hx hb dX12_seenBy_9 rfl (lv_at hl 3 rfl) ?_
        refine lv_iload hx hb dX12_seenBy_10 (lv_at hl 0 rfl) ?_
        refine lv_iload_n hx hb dX12_seenBy_12 rfl (lv_at hl 2 rfl) ?_
        refine CPV (As := [.int (iZ y), .int (iZ i), .int (iZ x)]) (rest := []) hx hb hml hown hts hKK hP (m_arrival l D k fs hm Ma Af y i x f0 hM ⟨by omega, by omega⟩ ⟨by omega, by omega⟩ ⟨by omega, by omega⟩) ci_X12_arrival qm_X12_280 ⟨Nat.le_of_ble_eq_true rfl, Nat.le_of_ble_eq_true rfl⟩ ⟨Nat.le_of_ble_eq_true rfl, Nat.le_of_ble_eq_true rfl⟩ 0 rfl rfl rfl hl.1 rfl (Nat.le_of_ble_eq_true rfl) dX12_seenBy_13 (fun z_2 hz_2 => ?_)
        obtain ⟨ez_2, az_2⟩ := hz_2
        refine lv_iload_n hx hb dX12_seenBy_16 rfl (lv_at hl 4 rfl) ?_
        refine lv_icmp_le (tgt := 26) hx hb dX12_seenBy_17 rfl (fun c_3 => ?_) (fun c_3 => ?_)
        ·
          have c_3 := (zle (x := iZ z_2) (y := iZ w) rfl rfl ⟨by omega, by omega⟩ ⟨by omega, by omega⟩).mp c_3
          refine lv_iload hx hb dX12_seenBy_26 (lv_at hl 0 rfl) ?_
          exact EPi hx hb hr hlocks ⟨snF_eq ⟨⟨by omega, by omega⟩, fun _ => by omega, hi3⟩, by omega, by omega⟩ dX12_seenBy_28
        ·
          have c_3 := mt (zle (x := iZ z_2) (y := iZ w) rfl rfl ⟨by omega, by omega⟩ ⟨by omega, by omega⟩).mpr c_3
          refine lv_iinc (v := iZ (i + (-1))) (lv' := [(4, .int (iZ (i + (-1)))), (0, .ref hm), (1, .int (iZ x)), (2, .int (iZ y)), (3, .int (iZ w))]) hx hb dX12_seenBy_20 hl (k := 0) rfl (iZ_add i (-1)) (by decide) rfl (fun ls hl => ?_)
          refine lv_goto (tgt := 3) hx hb dX12_seenBy_23 rfl ?_
          exact ih1  (i - 1) _ (by omega) (by omega) (by omega) (by intro t h1 h2; rcases Int.lt_or_eq_of_le (show i ≤ t by omega) with h3 | h3; exact hi3 t h3 h2; rw [← h3]; omega) (lv_sub hl [0, 1, 2, 3, 4] rfl)
  exact HL1 703 w _ (by omega) (by omega) (by omega) (fun t h1 h2 => absurd h1 (by omega)) (lv_sub hl [0, 1, 2, 3, 4] rfl)
noncomputable def ecF (f g : Nat → Int32) (ni a w b : Int) : Int := if arF f g ni a w b = 1000000 then 1000000 else arF f g ni b (arF f g ni a w b) a
set_option maxHeartbeats 4000000 in
set_option maxRecDepth 100000 in
theorem m_echo (l : Launch) (D : va_G) (k : Nat → ClassId) (fs : List Value) (hm : Nat) (Ma : Nat) (Af : Nat → Int32) (x : Int) (w : Int) (y : Int) (f0 : fs[0]? = some (.ref Ma)) (hM : M0 Af) (h9x : 0 ≤ x ∧ x < gz Af 0) (h9w : 0 ≤ w ∧ w ≤ 400) (h9y : 0 ≤ y ∧ y < gz Af 0) (hne : ¬ x = y) : RP l yX12_echoOf cX12_echoOf 5 (some .int) 5 D k [.ref hm, .int (iZ x), .int (iZ w), .int (iZ y)] [(hm, .inr (12, fs)), (Ma, .inl (k 1, 5340, .inl Af))] (fun z => z = ecF (sh Af 10) (sh Af 46) (gz Af 1) x w y ∧ (z = 1000000 ∨ (0 ≤ z ∧ z ≤ 420))) := by
  refine MRP (by decide) (Nat.le_of_ble_eq_true rfl) (fun p e s m below meth c ls hx hb hml hr hlocks hts hown hKK hP hl => ?_)
  have hK := hKK.1
  have hl : lv_has ls 5 [(0, .ref hm), (1, .int (iZ x)), (2, .int (iZ w)), (3, .int (iZ y))] := hl
  obtain ⟨m0, m1, m3, m4, m5, mF, mO, mS⟩ := id hM
  refine lv_aload_n hx hb dX12_echoOf_0 rfl (lv_at hl 0 rfl) ?_
  refine lv_iload_n hx hb dX12_echoOf_1 rfl (lv_at hl 1 rfl) ?_
  refine lv_iload_n hx hb dX12_echoOf_2 rfl (lv_at hl 2 rfl) ?_
  refine lv_iload_n hx hb dX12_echoOf_3 rfl (lv_at hl 3 rfl) ?_
  refine CPV (As := [.int (iZ x), .int (iZ w), .int (iZ y)]) (rest := []) hx hb hml hown hts hKK hP (m_arrival l D k fs hm Ma Af x w y f0 hM ⟨by omega, by omega⟩ ⟨by omega, by omega⟩ ⟨by omega, by omega⟩) ci_X12_arrival qm_X12_280 ⟨Nat.le_of_ble_eq_true rfl, Nat.le_of_ble_eq_true rfl⟩ ⟨Nat.le_of_ble_eq_true rfl, Nat.le_of_ble_eq_true rfl⟩ 0 rfl rfl rfl hl.1 rfl (Nat.le_of_ble_eq_true rfl) dX12_echoOf_4 (fun z_1 hz_1 => ?_)
  obtain ⟨ez_1, az_1⟩ := hz_1
  refine lv_istore (lv' := [(4, .int (iZ z_1)), (0, .ref hm), (1, .int (iZ x)), (2, .int (iZ w)), (3, .int (iZ y))]) hx hb dX12_echoOf_7 hl (bl rfl) rfl (fun ls hl => ?_)
  refine lv_iload hx hb dX12_echoOf_9 (lv_at hl 0 rfl) ?_
  refine lv_ldc (own := RX12) (v := 1000000) hx hb hown (hts _ qk_X12_88) dX12_echoOf_11 ?_
  refine W.eq (g2 := F0 m 13 ls [.int (iZ 1000000), .int (iZ z_1)]) rfl ?_
  refine lv_icmp_ne (tgt := 21) hx hb dX12_echoOf_13 rfl (fun c_2 => ?_) (fun c_2 => ?_)
  ·
    have c_2 := mt (zeq (x := iZ z_1) (y := iZ 1000000) rfl rfl ⟨by omega, by omega⟩ wn_1000000).mpr c_2
    refine lv_aload_n hx hb dX12_echoOf_21 rfl (lv_at hl 1 rfl) ?_
    refine lv_iload_n hx hb dX12_echoOf_22 rfl (lv_at hl 4 rfl) ?_
    refine lv_iload hx hb dX12_echoOf_23 (lv_at hl 0 rfl) ?_
    refine lv_iload_n hx hb dX12_echoOf_25 rfl (lv_at hl 2 rfl) ?_
    refine CPV (As := [.int (iZ y), .int (iZ z_1), .int (iZ x)]) (rest := []) hx hb hml hown hts hKK hP (m_arrival l D k fs hm Ma Af y z_1 x f0 hM ⟨by omega, by omega⟩ ⟨by omega, by omega⟩ ⟨by omega, by omega⟩) ci_X12_arrival qm_X12_280 ⟨Nat.le_of_ble_eq_true rfl, Nat.le_of_ble_eq_true rfl⟩ ⟨Nat.le_of_ble_eq_true rfl, Nat.le_of_ble_eq_true rfl⟩ 0 rfl rfl rfl hl.1 rfl (Nat.le_of_ble_eq_true rfl) dX12_echoOf_26 (fun z_3 hz_3 => ?_)
    obtain ⟨ez_3, az_3⟩ := hz_3
    exact EPi hx hb hr hlocks ⟨by unfold ecF; rw [if_neg (by omega)]; rw [← ez_1]; omega, by omega⟩ dX12_echoOf_29
  ·
    have c_2 := (zeq (x := iZ z_1) (y := iZ 1000000) rfl rfl ⟨by omega, by omega⟩ wn_1000000).mp c_2
    refine lv_ldc (own := RX12) (v := 1000000) hx hb hown (hts _ qk_X12_88) dX12_echoOf_16 ?_
    refine W.eq (g2 := F0 m 18 ls [.int (iZ 1000000)]) rfl ?_
    refine lv_goto (tgt := 29) hx hb dX12_echoOf_18 rfl ?_
    exact EPi hx hb hr hlocks ⟨by unfold ecF; rw [if_pos (by omega)], Or.inl rfl⟩ dX12_echoOf_29
noncomputable def gnF (f : Nat → Int32) (a w b : Int) : Int := pr f b (cmF f a w b 10) - pr f a w
set_option maxHeartbeats 4000000 in
set_option maxRecDepth 100000 in
theorem m_gain (l : Launch) (D : va_G) (k : Nat → ClassId) (fs : List Value) (hm : Nat) (Ma : Nat) (Af : Nat → Int32) (x : Int) (w : Int) (y : Int) (f0 : fs[0]? = some (.ref Ma)) (hM : M0 Af) (h9x : 0 ≤ x ∧ x < gz Af 0) (h9w : 0 ≤ w ∧ w ≤ 400) (h9y : 0 ≤ y ∧ y < gz Af 0) : RP l yX12_gainOf cX12_gainOf 4 (some .int) 4 D k [.ref hm, .int (iZ x), .int (iZ w), .int (iZ y)] [(hm, .inr (12, fs)), (Ma, .inl (k 1, 5340, .inl Af))] (fun z => z = gnF (sh Af 10) x w y ∧ -319 ≤ z ∧ z ≤ 319) := by
  refine MRP (by decide) (Nat.le_of_ble_eq_true rfl) (fun p e s m below meth c ls hx hb hml hr hlocks hts hown hKK hP hl => ?_)
  have hK := hKK.1
  have hl : lv_has ls 4 [(0, .ref hm), (1, .int (iZ x)), (2, .int (iZ w)), (3, .int (iZ y))] := hl
  obtain ⟨m0, m1, m3, m4, m5, mF, mO, mS⟩ := id hM
  refine lv_aload_n hx hb dX12_gainOf_0 rfl (lv_at hl 0 rfl) ?_
  refine lv_iload_n hx hb dX12_gainOf_1 rfl (lv_at hl 3 rfl) ?_
  refine lv_aload_n hx hb dX12_gainOf_2 rfl (lv_at hl 0 rfl) ?_
  refine lv_iload_n hx hb dX12_gainOf_3 rfl (lv_at hl 1 rfl) ?_
  refine lv_iload_n hx hb dX12_gainOf_4 rfl (lv_at hl 2 rfl) ?_
  refine lv_iload_n hx hb dX12_gainOf_5 rfl (lv_at hl 3 rfl) ?_
  refine lv_bipush (v := iZ 10) hx hb dX12_gainOf_6 bip_10 ?_
  refine CPV (As := [.int (iZ x), .int (iZ w), .int (iZ y), .int (iZ 10)]) (rest := [.int (iZ y), .ref hm]) hx hb hml hown hts hKK hP (m_comes l D k fs hm Ma Af x w y 10 f0 hM ⟨by omega, by omega⟩ ⟨by omega, by omega⟩ ⟨by omega, by omega⟩ (by omega)) ci_X12_comes qm_X12_274 ⟨Nat.le_of_ble_eq_true rfl, Nat.le_of_ble_eq_true rfl⟩ ⟨Nat.le_of_ble_eq_true rfl, Nat.le_of_ble_eq_true rfl⟩ 0 rfl rfl rfl hl.1 rfl (Nat.le_of_ble_eq_true rfl) dX12_gainOf_8 (fun z_1 hz_1 => ?_)
  obtain ⟨ez_1, az_1⟩ := hz_1
  refine CRV (As := [.int (iZ y), .int (iZ z_1)]) (rest := []) hx hb hml hown hts hKK hP (m_price l D k fs hm Ma Af y z_1 f0 hM ⟨by omega, by omega⟩ ⟨by omega, by omega⟩) ci_X12_priceOf qm_X12_353 ⟨Nat.le_of_ble_eq_true rfl, Nat.le_of_ble_eq_true rfl⟩ ⟨Nat.le_of_ble_eq_true rfl, Nat.le_of_ble_eq_true rfl⟩ 0 rfl rfl rfl hl.1 rfl (Nat.le_of_ble_eq_true rfl) dX12_gainOf_11 ?_
  have hp_h_2 := pr_rg (f := (sh Af 10)) (a := y) (w := z_1) hM.2.2.2.2.2.1 ⟨by omega, by omega⟩
  refine lv_aload_n hx hb dX12_gainOf_14 rfl (lv_at hl 0 rfl) ?_
  refine lv_iload_n hx hb dX12_gainOf_15 rfl (lv_at hl 1 rfl) ?_
  refine lv_iload_n hx hb dX12_gainOf_16 rfl (lv_at hl 2 rfl) ?_
  refine CRV (As := [.int (iZ x), .int (iZ w)]) (rest := [.int (iZ (pr (sh Af 10) y z_1))]) hx hb hml hown hts hKK hP (m_price l D k fs hm Ma Af x w f0 hM ⟨by omega, by omega⟩ ⟨by omega, by omega⟩) ci_X12_priceOf qm_X12_353 ⟨Nat.le_of_ble_eq_true rfl, Nat.le_of_ble_eq_true rfl⟩ ⟨Nat.le_of_ble_eq_true rfl, Nat.le_of_ble_eq_true rfl⟩ 0 rfl rfl rfl hl.1 rfl (Nat.le_of_ble_eq_true rfl) dX12_gainOf_17 ?_
  have hp_h_3 := pr_rg (f := (sh Af 10)) (a := x) (w := w) hM.2.2.2.2.2.1 ⟨by omega, by omega⟩
  refine lv_isub hx hb dX12_gainOf_20 ?_
  refine lv_topi (fun x_4 ex_4 => ?_)
  obtain rfl : x_4 = iZ ((pr (sh Af 10) y z_1) - (pr (sh Af 10) x w)) := ex_4.trans (iZ_sub (pr (sh Af 10) y z_1) (pr (sh Af 10) x w))
  exact EPi hx hb hr hlocks ⟨by unfold gnF; rw [← ez_1], by omega, by omega⟩ dX12_gainOf_21
set_option maxHeartbeats 4000000 in
set_option maxRecDepth 100000 in
theorem m_wore (l : Launch) (D : va_G) (k : Nat → ClassId) (fs : List Value) (hm : Nat) (Ma : Nat) (Af : Nat → Int32) (x : Int) (w : Int) (f0 : fs[0]? = some (.ref Ma)) (hM : M0 Af) (h9w : 0 ≤ w ∧ w ≤ 400) : RP l yX12_woreIn cX12_woreIn 3 (some .int) 0 D k [.ref hm, .int (iZ x), .int (iZ w)] [(hm, .inr (12, fs)), (Ma, .inl (k 1, 5340, .inl Af))] (fun z => iZ z = wb (iZ (gz Af (118 + w))) (iZ x) ∧ (z = 0 ∨ z = 1)) := by
  refine MRP (by decide) (Nat.le_of_ble_eq_true rfl) (fun p e s m below meth c ls hx hb hml hr hlocks hts hown hKK hP hl => ?_)
  have hK := hKK.1
  have hl : lv_has ls 3 [(0, .ref hm), (1, .int (iZ x)), (2, .int (iZ w))] := hl
  obtain ⟨m0, m1, m3, m4, m5, mF, mO, mS⟩ := id hM
  refine lv_aload_n hx hb dX12_woreIn_0 rfl (lv_at hl 0 rfl) ?_
  refine va_get (D := D) (ci := 12) (v := .ref Ma) (C := RX12) (T := TX12) (N := 36) hx hb hts iX12 hown hK hP 0 rfl rfl 0 (bl rfl) (hts _ qf_X12_7) (fun _ h => h) f0 dX12_woreIn_1 ?_
  refine lv_bipush (v := iZ 118) hx hb dX12_woreIn_4 bip_118 ?_
  refine lv_iload_n hx hb dX12_woreIn_6 rfl (lv_at hl 2 rfl) ?_
  refine lv_iadd hx hb dX12_woreIn_7 ?_
  refine lv_topi (fun x_1 ex_1 => ?_)
  obtain rfl : x_1 = iZ (118 + w) := ex_1.trans (iZ_add 118 w)
  refine va_iald hx hb hK hP 1 1 rfl rfl (zin (e := (118 + w)) (n := 5340) ⟨by omega, by omega⟩ (bl rfl)) dX12_woreIn_8 ?_
  refine lv_topi (fun x_2 ex_2 => ?_)
  obtain rfl : x_2 = iZ (gz Af (118 + w)) := ex_2.trans (gz_eq ⟨by omega, by omega⟩)
  have h_3 := gz_rg Af (118 + w)
  refine lv_iload_n hx hb dX12_woreIn_9 rfl (lv_at hl 1 rfl) ?_
  refine lv_ishr hx hb dX12_woreIn_10 ?_
  refine lv_topi (fun x_5 ex_5 => ?_)
  obtain ⟨z_4, hz_4, hz_4a, hz_4b⟩ := i32_z x_5
  subst hz_4
  refine lv_iconst (v := iZ 1) hx hb dX12_woreIn_11 rfl ?_
  refine lv_iand hx hb dX12_woreIn_12 ?_
  refine lv_topi (fun x_7 ex_7 => ?_)
  obtain ⟨z_6, hz_6, hz_6a, hz_6b⟩ := i32_z x_7
  subst hz_6
  exact EPi hx hb hr hlocks (wi_fin (by assumption) (by assumption) ⟨by assumption, by assumption⟩) dX12_woreIn_13
set_option maxHeartbeats 4000000 in
set_option maxRecDepth 100000 in
theorem m_fseen (l : Launch) (D : va_G) (k : Nat → ClassId) (fs : List Value) (hm : Nat) (Ma : Nat) (Af : Nat → Int32) (x : Int) (y : Int) (w : Int) (f0 : fs[0]? = some (.ref Ma)) (hM : M0 Af) (h9x : 0 ≤ x ∧ x < gz Af 0) (h9y : 0 ≤ y ∧ y < gz Af 0) (h9w : 0 ≤ w ∧ w ≤ 400) : RP l yX12_fashionSeen cX12_fashionSeen 5 (some .int) 6 D k [.ref hm, .int (iZ x), .int (iZ y), .int (iZ w)] [(hm, .inr (12, fs)), (Ma, .inl (k 1, 5340, .inl Af))] (fun z => z = -1 ∨ z = 0 ∨ z = 1) := by
  refine MRP (by decide) (Nat.le_of_ble_eq_true rfl) (fun p e s m below meth c ls hx hb hml hr hlocks hts hown hKK hP hl => ?_)
  have hK := hKK.1
  have hl : lv_has ls 5 [(0, .ref hm), (1, .int (iZ x)), (2, .int (iZ y)), (3, .int (iZ w))] := hl
  obtain ⟨m0, m1, m3, m4, m5, mF, mO, mS⟩ := id hM
  refine lv_aload_n hx hb dX12_fashionSeen_0 rfl (lv_at hl 0 rfl) ?_
  refine lv_iload_n hx hb dX12_fashionSeen_1 rfl (lv_at hl 1 rfl) ?_
  refine lv_iload_n hx hb dX12_fashionSeen_2 rfl (lv_at hl 2 rfl) ?_
  refine lv_iload_n hx hb dX12_fashionSeen_3 rfl (lv_at hl 3 rfl) ?_
  refine CPV (As := [.int (iZ x), .int (iZ y), .int (iZ w)]) (rest := []) hx hb hml hown hts hKK hP (m_seen l D k fs hm Ma Af x y w f0 hM ⟨by omega, by omega⟩ ⟨by omega, by omega⟩ ⟨by omega, by omega⟩) ci_X12_seenBy qm_X12_287 ⟨Nat.le_of_ble_eq_true rfl, Nat.le_of_ble_eq_true rfl⟩ ⟨Nat.le_of_ble_eq_true rfl, Nat.le_of_ble_eq_true rfl⟩ 0 rfl rfl rfl hl.1 rfl (Nat.le_of_ble_eq_true rfl) dX12_fashionSeen_4 (fun z_1 hz_1 => ?_)
  obtain ⟨ez_1, az_1⟩ := hz_1
  refine lv_istore (lv' := [(4, .int (iZ z_1)), (0, .ref hm), (1, .int (iZ x)), (2, .int (iZ y)), (3, .int (iZ w))]) hx hb dX12_fashionSeen_7 hl (bl rfl) rfl (fun ls hl => ?_)
  refine lv_iload hx hb dX12_fashionSeen_9 (lv_at hl 0 rfl) ?_
  refine lv_iconst (v := iZ (-1)) hx hb dX12_fashionSeen_11 rfl ?_
  refine lv_icmp_ne (tgt := 19) hx hb dX12_fashionSeen_12 rfl (fun c_2 => ?_) (fun c_2 => ?_)
  ·
    have c_2 := mt (zeq (x := iZ z_1) (y := iZ (-1)) rfl rfl ⟨by omega, by omega⟩ wn_m1).mpr c_2
    refine lv_aload_n hx hb dX12_fashionSeen_19 rfl (lv_at hl 1 rfl) ?_
    refine lv_iload_n hx hb dX12_fashionSeen_20 rfl (lv_at hl 3 rfl) ?_
    refine lv_iload hx hb dX12_fashionSeen_21 (lv_at hl 0 rfl) ?_
    refine CPV (As := [.int (iZ y), .int (iZ z_1)]) (rest := []) hx hb hml hown hts hKK hP (m_wore l D k fs hm Ma Af y z_1 f0 hM ⟨by omega, by omega⟩) ci_X12_woreIn qm_X12_363 ⟨Nat.le_of_ble_eq_true rfl, Nat.le_of_ble_eq_true rfl⟩ ⟨Nat.le_of_ble_eq_true rfl, Nat.le_of_ble_eq_true rfl⟩ 0 rfl rfl rfl hl.1 rfl (Nat.le_of_ble_eq_true rfl) dX12_fashionSeen_23 (fun z_3 hz_3 => ?_)
    have hbz_3 := hz_3.2
    exact EPi hx hb hr hlocks (by omega) dX12_fashionSeen_26
  ·
    have c_2 := (zeq (x := iZ z_1) (y := iZ (-1)) rfl rfl ⟨by omega, by omega⟩ wn_m1).mp c_2
    refine lv_iconst (v := iZ (-1)) hx hb dX12_fashionSeen_15 rfl ?_
    refine lv_goto (tgt := 26) hx hb dX12_fashionSeen_16 rfl ?_
    exact EPi hx hb hr hlocks (by omega) dX12_fashionSeen_26
end

section
theorem qf_X12_75 : Cond.fieldLink RX12 75 "SlowWorldsModel" "status" "I" ∈ gw := tbt (tb6 (List.mem_of_getElem? (i := 46) rfl)) rfl
theorem qc_X12_gives : Cond.code yX12_gives cX12_gives 2 (some .int) ∈ gw := tbt (tb7 (List.mem_of_getElem? (i := 66) rfl)) rfl
theorem qi_yX12_gives : Cond.instanceMethod yX12_gives ∈ gw := tbt (tb7 (List.mem_of_getElem? (i := 65) rfl)) rfl
theorem qs_X12_gives : Cond.selects (yX12_gives).cls yX12_gives yX12_gives ∈ gw := tb0 (List.mem_of_getElem? (i := 60) rfl) rfl
theorem ci_X12_gives : CIv yX12_gives cX12_gives 2 (some .int) 1 := ⟨qc_X12_gives, qi_yX12_gives, qs_X12_gives, qz_X12, by decide +kernel⟩
theorem qm_X12_85 : Cond.methodLink RX12 85 yX12_gives ∈ gw := tbt (tb7 (List.mem_of_getElem? (i := 63) rfl)) rfl
theorem qc_X12_refuse : Cond.code yX12_refuse cX12_refuse 2 (some .int) ∈ gw := tbt (tb6 (List.mem_of_getElem? (i := 235) rfl)) rfl
theorem qi_yX12_refuse : Cond.instanceMethod yX12_refuse ∈ gw := tbt (tb6 (List.mem_of_getElem? (i := 234) rfl)) rfl
theorem qs_X12_refuse : Cond.selects (yX12_refuse).cls yX12_refuse yX12_refuse ∈ gw := tb0 (List.mem_of_getElem? (i := 43) rfl) rfl
theorem ci_X12_refuse : CIv yX12_refuse cX12_refuse 2 (some .int) 1 := ⟨qc_X12_refuse, qi_yX12_refuse, qs_X12_refuse, qz_X12, by decide +kernel⟩
theorem qm_X12_81 : Cond.methodLink RX12 81 yX12_refuse ∈ gw := tbt (tb6 (List.mem_of_getElem? (i := 232) rfl)) rfl
theorem qf_X12_78 : Cond.fieldLink RX12 78 "SlowWorldsModel" "top" "J" ∈ gw := tbt (tb6 (List.mem_of_getElem? (i := 47) rfl)) rfl
theorem qf_X12_17 : Cond.fieldLink RX12 17 "SlowWorldsModel" "bottom" "J" ∈ gw := tbt (tb6 (List.mem_of_getElem? (i := 48) rfl)) rfl
theorem qc_X12_isAsked : Cond.code yX12_isAsked cX12_isAsked 1 (some .boolean) ∈ gw := tbt (tb7 (List.mem_of_getElem? (i := 112) rfl)) rfl
theorem qt_yX12_isAsked : Cond.static yX12_isAsked ∈ gw := tbt (tb7 (List.mem_of_getElem? (i := 111) rfl)) rfl
theorem ci_X12_isAsked : CIs yX12_isAsked cX12_isAsked 1 (some .boolean) 1 := ⟨qc_X12_isAsked, qt_yX12_isAsked, qz_X12, by decide +kernel⟩
theorem qm_X12_258 : Cond.methodLink RX12 258 yX12_isAsked ∈ gw := tbt (tb7 (List.mem_of_getElem? (i := 110) rfl)) rfl
theorem qc_X12_areTwo : Cond.code yX12_areTwo cX12_areTwo 3 (some .boolean) ∈ gw := tbt (tb7 (List.mem_of_getElem? (i := 136) rfl)) rfl
theorem qi_yX12_areTwo : Cond.instanceMethod yX12_areTwo ∈ gw := tbt (tb7 (List.mem_of_getElem? (i := 135) rfl)) rfl
theorem qs_X12_areTwo : Cond.selects (yX12_areTwo).cls yX12_areTwo yX12_areTwo ∈ gw := tb0 (List.mem_of_getElem? (i := 68) rfl) rfl
theorem ci_X12_areTwo : CIv yX12_areTwo cX12_areTwo 3 (some .boolean) 2 := ⟨qc_X12_areTwo, qi_yX12_areTwo, qs_X12_areTwo, qz_X12, by decide +kernel⟩
theorem qm_X12_265 : Cond.methodLink RX12 265 yX12_areTwo ∈ gw := tbt (tb7 (List.mem_of_getElem? (i := 133) rfl)) rfl
theorem qc_X12_isSent : Cond.code yX12_isSent cX12_isSent 4 (some .boolean) ∈ gw := tbt (tb7 (List.mem_of_getElem? (i := 151) rfl)) rfl
theorem qi_yX12_isSent : Cond.instanceMethod yX12_isSent ∈ gw := tbt (tb7 (List.mem_of_getElem? (i := 150) rfl)) rfl
theorem qs_X12_isSent : Cond.selects (yX12_isSent).cls yX12_isSent yX12_isSent ∈ gw := tb0 (List.mem_of_getElem? (i := 70) rfl) rfl
theorem ci_X12_isSent : CIv yX12_isSent cX12_isSent 4 (some .boolean) 3 := ⟨qc_X12_isSent, qi_yX12_isSent, qs_X12_isSent, qz_X12, by decide +kernel⟩
theorem qm_X12_277 : Cond.methodLink RX12 277 yX12_isSent ∈ gw := tbt (tb7 (List.mem_of_getElem? (i := 148) rfl)) rfl
theorem qc_X12_orNever : Cond.code yX12_orNever cX12_orNever 2 (some .int) ∈ gw := tbt (tb7 (List.mem_of_getElem? (i := 164) rfl)) rfl
theorem qi_yX12_orNever : Cond.instanceMethod yX12_orNever ∈ gw := tbt (tb7 (List.mem_of_getElem? (i := 163) rfl)) rfl
theorem qs_X12_orNever : Cond.selects (yX12_orNever).cls yX12_orNever yX12_orNever ∈ gw := tb0 (List.mem_of_getElem? (i := 73) rfl) rfl
theorem ci_X12_orNever : CIv yX12_orNever cX12_orNever 2 (some .int) 1 := ⟨qc_X12_orNever, qi_yX12_orNever, qs_X12_orNever, qz_X12, by decide +kernel⟩
theorem qm_X12_284 : Cond.methodLink RX12 284 yX12_orNever ∈ gw := tbt (tb7 (List.mem_of_getElem? (i := 161) rfl)) rfl
theorem qc_X12_orNone : Cond.code yX12_orNone cX12_orNone 2 (some .int) ∈ gw := tbt (tb7 (List.mem_of_getElem? (i := 180) rfl)) rfl
theorem qi_yX12_orNone : Cond.instanceMethod yX12_orNone ∈ gw := tbt (tb7 (List.mem_of_getElem? (i := 179) rfl)) rfl
theorem qs_X12_orNone : Cond.selects (yX12_orNone).cls yX12_orNone yX12_orNone ∈ gw := tb0 (List.mem_of_getElem? (i := 75) rfl) rfl
theorem ci_X12_orNone : CIv yX12_orNone cX12_orNone 2 (some .int) 1 := ⟨qc_X12_orNone, qi_yX12_orNone, qs_X12_orNone, qz_X12, by decide +kernel⟩
theorem qm_X12_290 : Cond.methodLink RX12 290 yX12_orNone ∈ gw := tbt (tb7 (List.mem_of_getElem? (i := 177) rfl)) rfl
theorem qk_X12_293 : Cond.constantLong RX12 293 (40) ∈ gw := tbt (tb7 (List.mem_of_getElem? (i := 193) rfl)) rfl
theorem qc_X12_isFrom : Cond.code yX12_isFrom cX12_isFrom 6 (some .boolean) ∈ gw := tbt (tb7 (List.mem_of_getElem? (i := 196) rfl)) rfl
theorem qt_yX12_isFrom : Cond.static yX12_isFrom ∈ gw := tbt (tb7 (List.mem_of_getElem? (i := 195) rfl)) rfl
theorem ci_X12_isFrom : CIs yX12_isFrom cX12_isFrom 6 (some .boolean) 3 := ⟨qc_X12_isFrom, qt_yX12_isFrom, qz_X12, by decide +kernel⟩
theorem qm_X12_295 : Cond.methodLink RX12 295 yX12_isFrom ∈ gw := tbt (tb7 (List.mem_of_getElem? (i := 194) rfl)) rfl
theorem qc_X12_gainOf : Cond.code yX12_gainOf cX12_gainOf 4 (some .int) ∈ gw := tbt (tb8 (List.mem_of_getElem? (i := 170) rfl)) rfl
theorem qi_yX12_gainOf : Cond.instanceMethod yX12_gainOf ∈ gw := tbt (tb8 (List.mem_of_getElem? (i := 169) rfl)) rfl
theorem qs_X12_gainOf : Cond.selects (yX12_gainOf).cls yX12_gainOf yX12_gainOf ∈ gw := tb0 (List.mem_of_getElem? (i := 92) rfl) rfl
theorem ci_X12_gainOf : CIv yX12_gainOf cX12_gainOf 4 (some .int) 3 := ⟨qc_X12_gainOf, qi_yX12_gainOf, qs_X12_gainOf, qz_X12, by decide +kernel⟩
theorem qm_X12_356 : Cond.methodLink RX12 356 yX12_gainOf ∈ gw := tbt (tb8 (List.mem_of_getElem? (i := 167) rfl)) rfl
theorem qc_X12_echoOf : Cond.code yX12_echoOf cX12_echoOf 5 (some .int) ∈ gw := tbt (tb8 (List.mem_of_getElem? (i := 125) rfl)) rfl
theorem qi_yX12_echoOf : Cond.instanceMethod yX12_echoOf ∈ gw := tbt (tb8 (List.mem_of_getElem? (i := 124) rfl)) rfl
theorem qs_X12_echoOf : Cond.selects (yX12_echoOf).cls yX12_echoOf yX12_echoOf ∈ gw := tb0 (List.mem_of_getElem? (i := 89) rfl) rfl
theorem ci_X12_echoOf : CIv yX12_echoOf cX12_echoOf 5 (some .int) 3 := ⟨qc_X12_echoOf, qi_yX12_echoOf, qs_X12_echoOf, qz_X12, by decide +kernel⟩
theorem qm_X12_345 : Cond.methodLink RX12 345 yX12_echoOf ∈ gw := tbt (tb8 (List.mem_of_getElem? (i := 122) rfl)) rfl
def fb_X12_answered_0 : List UInt8 := [0x2a, 0x1b, 0x1c, 0xb6, 0x01, 0x09, 0x99, 0x00, 0x0a, 0x1d, 0xb8, 0x01, 0x02, 0x9a, 0x00, 0x09, 0x2a, 0x04, 0xb6, 0x00, 0x51, 0xac, 0x1d, 0x11, 0x01, 0x90, 0xb8, 0x00, 0x89, 0x36, 0x04, 0x15, 0x04, 0x9b, 0x00, 0x1c, 0x2a, 0x1b, 0x15, 0x04, 0x1c, 0xb6, 0x01, 0x59, 0x1d, 0xa3, 0x00, 0x0a, 0x2a, 0x15, 0x04, 0xb6, 0x00, 0x55, 0xac, 0x84, 0x04, 0xff, 0xa7, 0xff, 0xe5, 0x2a, 0x10, 0x06]
theorem fl_X12_answered_0 {p j : Nat} {b : UInt8} (e : p = 0 + j) (h : fb_X12_answered_0[j]? = some b) : cX12_answered.data.toList[p]? = some b := fq_l (n := 64) (show (cX12_answered.data.toList.drop 0).take 64 = fb_X12_answered_0 by decide +kernel) e h
theorem dX12_answered_0 : decode cX12_answered 0 = .ok (.aload_n 0, 1) := fq1_42 (fl_X12_answered_0 (j := 0) rfl rfl)
theorem dX12_answered_1 : decode cX12_answered 1 = .ok (.iload_n 1, 1) := fq1_27 (fl_X12_answered_0 (j := 1) rfl rfl)
theorem dX12_answered_2 : decode cX12_answered 2 = .ok (.iload_n 2, 1) := fq1_28 (fl_X12_answered_0 (j := 2) rfl rfl)
theorem dX12_answered_3 : decode cX12_answered 3 = .ok (.invokevirtual 265, 3) := fq3_182 (fl_X12_answered_0 (j := 3) rfl rfl) (fl_X12_answered_0 (j := 4) rfl rfl) (fl_X12_answered_0 (j := 5) rfl rfl) rfl
theorem dX12_answered_6 : decode cX12_answered 6 = .ok (.ifCond .eq 10, 3) := fq3_153 (fl_X12_answered_0 (j := 6) rfl rfl) (fl_X12_answered_0 (j := 7) rfl rfl) (fl_X12_answered_0 (j := 8) rfl rfl) (s2p rfl (bl rfl))
theorem dX12_answered_9 : decode cX12_answered 9 = .ok (.iload_n 3, 1) := fq1_29 (fl_X12_answered_0 (j := 9) rfl rfl)
theorem dX12_answered_10 : decode cX12_answered 10 = .ok (.invokestatic 258, 3) := fq3_184 (fl_X12_answered_0 (j := 10) rfl rfl) (fl_X12_answered_0 (j := 11) rfl rfl) (fl_X12_answered_0 (j := 12) rfl rfl) rfl
theorem dX12_answered_13 : decode cX12_answered 13 = .ok (.ifCond .ne 9, 3) := fq3_154 (fl_X12_answered_0 (j := 13) rfl rfl) (fl_X12_answered_0 (j := 14) rfl rfl) (fl_X12_answered_0 (j := 15) rfl rfl) (s2p rfl (bl rfl))
theorem dX12_answered_16 : decode cX12_answered 16 = .ok (.aload_n 0, 1) := fq1_42 (fl_X12_answered_0 (j := 16) rfl rfl)
theorem dX12_answered_17 : decode cX12_answered 17 = .ok (.iconst 1, 1) := fq1_4 (fl_X12_answered_0 (j := 17) rfl rfl)
theorem dX12_answered_18 : decode cX12_answered 18 = .ok (.invokevirtual 81, 3) := fq3_182 (fl_X12_answered_0 (j := 18) rfl rfl) (fl_X12_answered_0 (j := 19) rfl rfl) (fl_X12_answered_0 (j := 20) rfl rfl) rfl
theorem dX12_answered_21 : decode cX12_answered 21 = .ok (.ireturn, 1) := fq1_172 (fl_X12_answered_0 (j := 21) rfl rfl)
theorem dX12_answered_22 : decode cX12_answered 22 = .ok (.iload_n 3, 1) := fq1_29 (fl_X12_answered_0 (j := 22) rfl rfl)
theorem dX12_answered_23 : decode cX12_answered 23 = .ok (.sipush 400, 3) := fq3_17 (fl_X12_answered_0 (j := 23) rfl rfl) (fl_X12_answered_0 (j := 24) rfl rfl) (fl_X12_answered_0 (j := 25) rfl rfl) (s2p rfl (bl rfl))
theorem dX12_answered_26 : decode cX12_answered 26 = .ok (.invokestatic 137, 3) := fq3_184 (fl_X12_answered_0 (j := 26) rfl rfl) (fl_X12_answered_0 (j := 27) rfl rfl) (fl_X12_answered_0 (j := 28) rfl rfl) rfl
theorem dX12_answered_29 : decode cX12_answered 29 = .ok (.istore 4, 2) := fq2_54 (fl_X12_answered_0 (j := 29) rfl rfl) (fl_X12_answered_0 (j := 30) rfl rfl) rfl
theorem dX12_answered_31 : decode cX12_answered 31 = .ok (.iload 4, 2) := fq2_21 (fl_X12_answered_0 (j := 31) rfl rfl) (fl_X12_answered_0 (j := 32) rfl rfl) rfl
theorem dX12_answered_33 : decode cX12_answered 33 = .ok (.ifCond .lt 28, 3) := fq3_155 (fl_X12_answered_0 (j := 33) rfl rfl) (fl_X12_answered_0 (j := 34) rfl rfl) (fl_X12_answered_0 (j := 35) rfl rfl) (s2p rfl (bl rfl))
theorem dX12_answered_36 : decode cX12_answered 36 = .ok (.aload_n 0, 1) := fq1_42 (fl_X12_answered_0 (j := 36) rfl rfl)
theorem dX12_answered_37 : decode cX12_answered 37 = .ok (.iload_n 1, 1) := fq1_27 (fl_X12_answered_0 (j := 37) rfl rfl)
theorem dX12_answered_38 : decode cX12_answered 38 = .ok (.iload 4, 2) := fq2_21 (fl_X12_answered_0 (j := 38) rfl rfl) (fl_X12_answered_0 (j := 39) rfl rfl) rfl
theorem dX12_answered_40 : decode cX12_answered 40 = .ok (.iload_n 2, 1) := fq1_28 (fl_X12_answered_0 (j := 40) rfl rfl)
theorem dX12_answered_41 : decode cX12_answered 41 = .ok (.invokevirtual 345, 3) := fq3_182 (fl_X12_answered_0 (j := 41) rfl rfl) (fl_X12_answered_0 (j := 42) rfl rfl) (fl_X12_answered_0 (j := 43) rfl rfl) rfl
theorem dX12_answered_44 : decode cX12_answered 44 = .ok (.iload_n 3, 1) := fq1_29 (fl_X12_answered_0 (j := 44) rfl rfl)
theorem dX12_answered_45 : decode cX12_answered 45 = .ok (.if_icmp .gt 10, 3) := fq3_163 (fl_X12_answered_0 (j := 45) rfl rfl) (fl_X12_answered_0 (j := 46) rfl rfl) (fl_X12_answered_0 (j := 47) rfl rfl) (s2p rfl (bl rfl))
theorem dX12_answered_48 : decode cX12_answered 48 = .ok (.aload_n 0, 1) := fq1_42 (fl_X12_answered_0 (j := 48) rfl rfl)
theorem dX12_answered_49 : decode cX12_answered 49 = .ok (.iload 4, 2) := fq2_21 (fl_X12_answered_0 (j := 49) rfl rfl) (fl_X12_answered_0 (j := 50) rfl rfl) rfl
theorem dX12_answered_51 : decode cX12_answered 51 = .ok (.invokevirtual 85, 3) := fq3_182 (fl_X12_answered_0 (j := 51) rfl rfl) (fl_X12_answered_0 (j := 52) rfl rfl) (fl_X12_answered_0 (j := 53) rfl rfl) rfl
theorem dX12_answered_54 : decode cX12_answered 54 = .ok (.ireturn, 1) := fq1_172 (fl_X12_answered_0 (j := 54) rfl rfl)
theorem dX12_answered_55 : decode cX12_answered 55 = .ok (.iinc 4 (-1), 3) := fq3_132 (fl_X12_answered_0 (j := 55) rfl rfl) (fl_X12_answered_0 (j := 56) rfl rfl) (fl_X12_answered_0 (j := 57) rfl rfl) rfl (by decide)
theorem dX12_answered_58 : decode cX12_answered 58 = .ok (.goto (-27), 3) := fq3_167 (fl_X12_answered_0 (j := 58) rfl rfl) (fl_X12_answered_0 (j := 59) rfl rfl) (fl_X12_answered_0 (j := 60) rfl rfl) (by decide)
theorem dX12_answered_61 : decode cX12_answered 61 = .ok (.aload_n 0, 1) := fq1_42 (fl_X12_answered_0 (j := 61) rfl rfl)
theorem dX12_answered_62 : decode cX12_answered 62 = .ok (.bipush 6, 2) := fq2_16 (fl_X12_answered_0 (j := 62) rfl rfl) (fl_X12_answered_0 (j := 63) rfl rfl) (s1p rfl (bl rfl))
def fb_X12_answered_1 : List UInt8 := [0xb6, 0x00, 0x51, 0xac]
theorem fl_X12_answered_1 {p j : Nat} {b : UInt8} (e : p = 64 + j) (h : fb_X12_answered_1[j]? = some b) : cX12_answered.data.toList[p]? = some b := fq_l (n := 64) (show (cX12_answered.data.toList.drop 64).take 64 = fb_X12_answered_1 by decide +kernel) e h
theorem dX12_answered_64 : decode cX12_answered 64 = .ok (.invokevirtual 81, 3) := fq3_182 (fl_X12_answered_1 (j := 0) rfl rfl) (fl_X12_answered_1 (j := 1) rfl rfl) (fl_X12_answered_1 (j := 2) rfl rfl) rfl
theorem dX12_answered_67 : decode cX12_answered 67 = .ok (.ireturn, 1) := fq1_172 (fl_X12_answered_1 (j := 3) rfl rfl)
def fb_X12_arrives_0 : List UInt8 := [0x2a, 0x1b, 0x1c, 0x1d, 0xb6, 0x01, 0x15, 0x99, 0x00, 0x11, 0x2a, 0x2a, 0x1b, 0x1c, 0x1d, 0xb6, 0x01, 0x18, 0xb6, 0x01, 0x1c, 0xa7, 0x00, 0x08, 0x2a, 0x04, 0xb6, 0x00, 0x51, 0xac]
theorem fl_X12_arrives_0 {p j : Nat} {b : UInt8} (e : p = 0 + j) (h : fb_X12_arrives_0[j]? = some b) : cX12_arrives.data.toList[p]? = some b := fq_l (n := 64) (show (cX12_arrives.data.toList.drop 0).take 64 = fb_X12_arrives_0 by decide +kernel) e h
theorem dX12_arrives_0 : decode cX12_arrives 0 = .ok (.aload_n 0, 1) := fq1_42 (fl_X12_arrives_0 (j := 0) rfl rfl)
theorem dX12_arrives_1 : decode cX12_arrives 1 = .ok (.iload_n 1, 1) := fq1_27 (fl_X12_arrives_0 (j := 1) rfl rfl)
theorem dX12_arrives_2 : decode cX12_arrives 2 = .ok (.iload_n 2, 1) := fq1_28 (fl_X12_arrives_0 (j := 2) rfl rfl)
theorem dX12_arrives_3 : decode cX12_arrives 3 = .ok (.iload_n 3, 1) := fq1_29 (fl_X12_arrives_0 (j := 3) rfl rfl)
theorem dX12_arrives_4 : decode cX12_arrives 4 = .ok (.invokevirtual 277, 3) := fq3_182 (fl_X12_arrives_0 (j := 4) rfl rfl) (fl_X12_arrives_0 (j := 5) rfl rfl) (fl_X12_arrives_0 (j := 6) rfl rfl) rfl
theorem dX12_arrives_7 : decode cX12_arrives 7 = .ok (.ifCond .eq 17, 3) := fq3_153 (fl_X12_arrives_0 (j := 7) rfl rfl) (fl_X12_arrives_0 (j := 8) rfl rfl) (fl_X12_arrives_0 (j := 9) rfl rfl) (s2p rfl (bl rfl))
theorem dX12_arrives_10 : decode cX12_arrives 10 = .ok (.aload_n 0, 1) := fq1_42 (fl_X12_arrives_0 (j := 10) rfl rfl)
theorem dX12_arrives_11 : decode cX12_arrives 11 = .ok (.aload_n 0, 1) := fq1_42 (fl_X12_arrives_0 (j := 11) rfl rfl)
theorem dX12_arrives_12 : decode cX12_arrives 12 = .ok (.iload_n 1, 1) := fq1_27 (fl_X12_arrives_0 (j := 12) rfl rfl)
theorem dX12_arrives_13 : decode cX12_arrives 13 = .ok (.iload_n 2, 1) := fq1_28 (fl_X12_arrives_0 (j := 13) rfl rfl)
theorem dX12_arrives_14 : decode cX12_arrives 14 = .ok (.iload_n 3, 1) := fq1_29 (fl_X12_arrives_0 (j := 14) rfl rfl)
theorem dX12_arrives_15 : decode cX12_arrives 15 = .ok (.invokevirtual 280, 3) := fq3_182 (fl_X12_arrives_0 (j := 15) rfl rfl) (fl_X12_arrives_0 (j := 16) rfl rfl) (fl_X12_arrives_0 (j := 17) rfl rfl) rfl
theorem dX12_arrives_18 : decode cX12_arrives 18 = .ok (.invokevirtual 284, 3) := fq3_182 (fl_X12_arrives_0 (j := 18) rfl rfl) (fl_X12_arrives_0 (j := 19) rfl rfl) (fl_X12_arrives_0 (j := 20) rfl rfl) rfl
theorem dX12_arrives_21 : decode cX12_arrives 21 = .ok (.goto 8, 3) := fq3_167 (fl_X12_arrives_0 (j := 21) rfl rfl) (fl_X12_arrives_0 (j := 22) rfl rfl) (fl_X12_arrives_0 (j := 23) rfl rfl) (s2p rfl (bl rfl))
theorem dX12_arrives_24 : decode cX12_arrives 24 = .ok (.aload_n 0, 1) := fq1_42 (fl_X12_arrives_0 (j := 24) rfl rfl)
theorem dX12_arrives_25 : decode cX12_arrives 25 = .ok (.iconst 1, 1) := fq1_4 (fl_X12_arrives_0 (j := 25) rfl rfl)
theorem dX12_arrives_26 : decode cX12_arrives 26 = .ok (.invokevirtual 81, 3) := fq3_182 (fl_X12_arrives_0 (j := 26) rfl rfl) (fl_X12_arrives_0 (j := 27) rfl rfl) (fl_X12_arrives_0 (j := 28) rfl rfl) rfl
theorem dX12_arrives_29 : decode cX12_arrives 29 = .ok (.ireturn, 1) := fq1_172 (fl_X12_arrives_0 (j := 29) rfl rfl)
def fb_X12_blind_0 : List UInt8 := [0x2a, 0x1b, 0xb6, 0x00, 0xf3, 0x9a, 0x00, 0x09, 0x2a, 0x04, 0xb6, 0x00, 0x51, 0xac, 0x03, 0x3d, 0x03, 0x3e, 0x1d, 0x11, 0x01, 0x90, 0xa3, 0x00, 0x4b, 0x03, 0x36, 0x04, 0x03, 0x36, 0x05, 0x15, 0x05, 0x2a, 0xb4, 0x00, 0x07, 0x03, 0x2e, 0xa2, 0x00, 0x27, 0x15, 0x04, 0x9a, 0x00, 0x22, 0x15, 0x05, 0x1b, 0x9f, 0x00, 0x13, 0x2a, 0x1b, 0x15, 0x05, 0x1d, 0xb6, 0x01, 0x1f, 0x02, 0x9f, 0x00]
theorem fl_X12_blind_0 {p j : Nat} {b : UInt8} (e : p = 0 + j) (h : fb_X12_blind_0[j]? = some b) : cX12_blind.data.toList[p]? = some b := fq_l (n := 64) (show (cX12_blind.data.toList.drop 0).take 64 = fb_X12_blind_0 by decide +kernel) e h
theorem dX12_blind_0 : decode cX12_blind 0 = .ok (.aload_n 0, 1) := fq1_42 (fl_X12_blind_0 (j := 0) rfl rfl)
theorem dX12_blind_1 : decode cX12_blind 1 = .ok (.iload_n 1, 1) := fq1_27 (fl_X12_blind_0 (j := 1) rfl rfl)
theorem dX12_blind_2 : decode cX12_blind 2 = .ok (.invokevirtual 243, 3) := fq3_182 (fl_X12_blind_0 (j := 2) rfl rfl) (fl_X12_blind_0 (j := 3) rfl rfl) (fl_X12_blind_0 (j := 4) rfl rfl) rfl
theorem dX12_blind_5 : decode cX12_blind 5 = .ok (.ifCond .ne 9, 3) := fq3_154 (fl_X12_blind_0 (j := 5) rfl rfl) (fl_X12_blind_0 (j := 6) rfl rfl) (fl_X12_blind_0 (j := 7) rfl rfl) (s2p rfl (bl rfl))
theorem dX12_blind_8 : decode cX12_blind 8 = .ok (.aload_n 0, 1) := fq1_42 (fl_X12_blind_0 (j := 8) rfl rfl)
theorem dX12_blind_9 : decode cX12_blind 9 = .ok (.iconst 1, 1) := fq1_4 (fl_X12_blind_0 (j := 9) rfl rfl)
theorem dX12_blind_10 : decode cX12_blind 10 = .ok (.invokevirtual 81, 3) := fq3_182 (fl_X12_blind_0 (j := 10) rfl rfl) (fl_X12_blind_0 (j := 11) rfl rfl) (fl_X12_blind_0 (j := 12) rfl rfl) rfl
theorem dX12_blind_13 : decode cX12_blind 13 = .ok (.ireturn, 1) := fq1_172 (fl_X12_blind_0 (j := 13) rfl rfl)
theorem dX12_blind_14 : decode cX12_blind 14 = .ok (.iconst 0, 1) := fq1_3 (fl_X12_blind_0 (j := 14) rfl rfl)
theorem dX12_blind_15 : decode cX12_blind 15 = .ok (.istore_n 2, 1) := fq1_61 (fl_X12_blind_0 (j := 15) rfl rfl)
theorem dX12_blind_16 : decode cX12_blind 16 = .ok (.iconst 0, 1) := fq1_3 (fl_X12_blind_0 (j := 16) rfl rfl)
theorem dX12_blind_17 : decode cX12_blind 17 = .ok (.istore_n 3, 1) := fq1_62 (fl_X12_blind_0 (j := 17) rfl rfl)
theorem dX12_blind_18 : decode cX12_blind 18 = .ok (.iload_n 3, 1) := fq1_29 (fl_X12_blind_0 (j := 18) rfl rfl)
theorem dX12_blind_19 : decode cX12_blind 19 = .ok (.sipush 400, 3) := fq3_17 (fl_X12_blind_0 (j := 19) rfl rfl) (fl_X12_blind_0 (j := 20) rfl rfl) (fl_X12_blind_0 (j := 21) rfl rfl) (s2p rfl (bl rfl))
theorem dX12_blind_22 : decode cX12_blind 22 = .ok (.if_icmp .gt 75, 3) := fq3_163 (fl_X12_blind_0 (j := 22) rfl rfl) (fl_X12_blind_0 (j := 23) rfl rfl) (fl_X12_blind_0 (j := 24) rfl rfl) (s2p rfl (bl rfl))
theorem dX12_blind_25 : decode cX12_blind 25 = .ok (.iconst 0, 1) := fq1_3 (fl_X12_blind_0 (j := 25) rfl rfl)
theorem dX12_blind_26 : decode cX12_blind 26 = .ok (.istore 4, 2) := fq2_54 (fl_X12_blind_0 (j := 26) rfl rfl) (fl_X12_blind_0 (j := 27) rfl rfl) rfl
theorem dX12_blind_28 : decode cX12_blind 28 = .ok (.iconst 0, 1) := fq1_3 (fl_X12_blind_0 (j := 28) rfl rfl)
theorem dX12_blind_29 : decode cX12_blind 29 = .ok (.istore 5, 2) := fq2_54 (fl_X12_blind_0 (j := 29) rfl rfl) (fl_X12_blind_0 (j := 30) rfl rfl) rfl
theorem dX12_blind_31 : decode cX12_blind 31 = .ok (.iload 5, 2) := fq2_21 (fl_X12_blind_0 (j := 31) rfl rfl) (fl_X12_blind_0 (j := 32) rfl rfl) rfl
theorem dX12_blind_33 : decode cX12_blind 33 = .ok (.aload_n 0, 1) := fq1_42 (fl_X12_blind_0 (j := 33) rfl rfl)
theorem dX12_blind_34 : decode cX12_blind 34 = .ok (.getfield 7, 3) := fq3_180 (fl_X12_blind_0 (j := 34) rfl rfl) (fl_X12_blind_0 (j := 35) rfl rfl) (fl_X12_blind_0 (j := 36) rfl rfl) rfl
theorem dX12_blind_37 : decode cX12_blind 37 = .ok (.iconst 0, 1) := fq1_3 (fl_X12_blind_0 (j := 37) rfl rfl)
theorem dX12_blind_38 : decode cX12_blind 38 = .ok (.iaload, 1) := fq1_46 (fl_X12_blind_0 (j := 38) rfl rfl)
theorem dX12_blind_39 : decode cX12_blind 39 = .ok (.if_icmp .ge 39, 3) := fq3_162 (fl_X12_blind_0 (j := 39) rfl rfl) (fl_X12_blind_0 (j := 40) rfl rfl) (fl_X12_blind_0 (j := 41) rfl rfl) (s2p rfl (bl rfl))
theorem dX12_blind_42 : decode cX12_blind 42 = .ok (.iload 4, 2) := fq2_21 (fl_X12_blind_0 (j := 42) rfl rfl) (fl_X12_blind_0 (j := 43) rfl rfl) rfl
theorem dX12_blind_44 : decode cX12_blind 44 = .ok (.ifCond .ne 34, 3) := fq3_154 (fl_X12_blind_0 (j := 44) rfl rfl) (fl_X12_blind_0 (j := 45) rfl rfl) (fl_X12_blind_0 (j := 46) rfl rfl) (s2p rfl (bl rfl))
theorem dX12_blind_47 : decode cX12_blind 47 = .ok (.iload 5, 2) := fq2_21 (fl_X12_blind_0 (j := 47) rfl rfl) (fl_X12_blind_0 (j := 48) rfl rfl) rfl
theorem dX12_blind_49 : decode cX12_blind 49 = .ok (.iload_n 1, 1) := fq1_27 (fl_X12_blind_0 (j := 49) rfl rfl)
theorem dX12_blind_50 : decode cX12_blind 50 = .ok (.if_icmp .eq 19, 3) := fq3_159 (fl_X12_blind_0 (j := 50) rfl rfl) (fl_X12_blind_0 (j := 51) rfl rfl) (fl_X12_blind_0 (j := 52) rfl rfl) (s2p rfl (bl rfl))
theorem dX12_blind_53 : decode cX12_blind 53 = .ok (.aload_n 0, 1) := fq1_42 (fl_X12_blind_0 (j := 53) rfl rfl)
theorem dX12_blind_54 : decode cX12_blind 54 = .ok (.iload_n 1, 1) := fq1_27 (fl_X12_blind_0 (j := 54) rfl rfl)
theorem dX12_blind_55 : decode cX12_blind 55 = .ok (.iload 5, 2) := fq2_21 (fl_X12_blind_0 (j := 55) rfl rfl) (fl_X12_blind_0 (j := 56) rfl rfl) rfl
theorem dX12_blind_57 : decode cX12_blind 57 = .ok (.iload_n 3, 1) := fq1_29 (fl_X12_blind_0 (j := 57) rfl rfl)
theorem dX12_blind_58 : decode cX12_blind 58 = .ok (.invokevirtual 287, 3) := fq3_182 (fl_X12_blind_0 (j := 58) rfl rfl) (fl_X12_blind_0 (j := 59) rfl rfl) (fl_X12_blind_0 (j := 60) rfl rfl) rfl
theorem dX12_blind_61 : decode cX12_blind 61 = .ok (.iconst (-1), 1) := fq1_2 (fl_X12_blind_0 (j := 61) rfl rfl)
def fb_X12_blind_1 : List UInt8 := [0x07, 0x04, 0xa7, 0x00, 0x04, 0x03, 0x36, 0x04, 0x84, 0x05, 0x01, 0xa7, 0xff, 0xd4, 0x1c, 0x15, 0x04, 0x99, 0x00, 0x07, 0x03, 0xa7, 0x00, 0x04, 0x04, 0x60, 0x3d, 0x84, 0x03, 0x01, 0xa7, 0xff, 0xb4, 0x2a, 0x1c, 0xb6, 0x00, 0x55, 0xac]
theorem fl_X12_blind_1 {p j : Nat} {b : UInt8} (e : p = 64 + j) (h : fb_X12_blind_1[j]? = some b) : cX12_blind.data.toList[p]? = some b := fq_l (n := 64) (show (cX12_blind.data.toList.drop 64).take 64 = fb_X12_blind_1 by decide +kernel) e h
theorem dX12_blind_62 : decode cX12_blind 62 = .ok (.if_icmp .eq 7, 3) := fq3_159 (fl_X12_blind_0 (j := 62) rfl rfl) (fl_X12_blind_0 (j := 63) rfl rfl) (fl_X12_blind_1 (j := 0) rfl rfl) (s2p rfl (bl rfl))
theorem dX12_blind_65 : decode cX12_blind 65 = .ok (.iconst 1, 1) := fq1_4 (fl_X12_blind_1 (j := 1) rfl rfl)
theorem dX12_blind_66 : decode cX12_blind 66 = .ok (.goto 4, 3) := fq3_167 (fl_X12_blind_1 (j := 2) rfl rfl) (fl_X12_blind_1 (j := 3) rfl rfl) (fl_X12_blind_1 (j := 4) rfl rfl) (s2p rfl (bl rfl))
theorem dX12_blind_69 : decode cX12_blind 69 = .ok (.iconst 0, 1) := fq1_3 (fl_X12_blind_1 (j := 5) rfl rfl)
theorem dX12_blind_70 : decode cX12_blind 70 = .ok (.istore 4, 2) := fq2_54 (fl_X12_blind_1 (j := 6) rfl rfl) (fl_X12_blind_1 (j := 7) rfl rfl) rfl
theorem dX12_blind_72 : decode cX12_blind 72 = .ok (.iinc 5 1, 3) := fq3_132 (fl_X12_blind_1 (j := 8) rfl rfl) (fl_X12_blind_1 (j := 9) rfl rfl) (fl_X12_blind_1 (j := 10) rfl rfl) rfl (s1p rfl (bl rfl))
theorem dX12_blind_75 : decode cX12_blind 75 = .ok (.goto (-44), 3) := fq3_167 (fl_X12_blind_1 (j := 11) rfl rfl) (fl_X12_blind_1 (j := 12) rfl rfl) (fl_X12_blind_1 (j := 13) rfl rfl) (by decide)
theorem dX12_blind_78 : decode cX12_blind 78 = .ok (.iload_n 2, 1) := fq1_28 (fl_X12_blind_1 (j := 14) rfl rfl)
theorem dX12_blind_79 : decode cX12_blind 79 = .ok (.iload 4, 2) := fq2_21 (fl_X12_blind_1 (j := 15) rfl rfl) (fl_X12_blind_1 (j := 16) rfl rfl) rfl
theorem dX12_blind_81 : decode cX12_blind 81 = .ok (.ifCond .eq 7, 3) := fq3_153 (fl_X12_blind_1 (j := 17) rfl rfl) (fl_X12_blind_1 (j := 18) rfl rfl) (fl_X12_blind_1 (j := 19) rfl rfl) (s2p rfl (bl rfl))
theorem dX12_blind_84 : decode cX12_blind 84 = .ok (.iconst 0, 1) := fq1_3 (fl_X12_blind_1 (j := 20) rfl rfl)
theorem dX12_blind_85 : decode cX12_blind 85 = .ok (.goto 4, 3) := fq3_167 (fl_X12_blind_1 (j := 21) rfl rfl) (fl_X12_blind_1 (j := 22) rfl rfl) (fl_X12_blind_1 (j := 23) rfl rfl) (s2p rfl (bl rfl))
theorem dX12_blind_88 : decode cX12_blind 88 = .ok (.iconst 1, 1) := fq1_4 (fl_X12_blind_1 (j := 24) rfl rfl)
theorem dX12_blind_89 : decode cX12_blind 89 = .ok (.iadd, 1) := fq1_96 (fl_X12_blind_1 (j := 25) rfl rfl)
theorem dX12_blind_90 : decode cX12_blind 90 = .ok (.istore_n 2, 1) := fq1_61 (fl_X12_blind_1 (j := 26) rfl rfl)
theorem dX12_blind_91 : decode cX12_blind 91 = .ok (.iinc 3 1, 3) := fq3_132 (fl_X12_blind_1 (j := 27) rfl rfl) (fl_X12_blind_1 (j := 28) rfl rfl) (fl_X12_blind_1 (j := 29) rfl rfl) rfl (s1p rfl (bl rfl))
theorem dX12_blind_94 : decode cX12_blind 94 = .ok (.goto (-76), 3) := fq3_167 (fl_X12_blind_1 (j := 30) rfl rfl) (fl_X12_blind_1 (j := 31) rfl rfl) (fl_X12_blind_1 (j := 32) rfl rfl) (by decide)
theorem dX12_blind_97 : decode cX12_blind 97 = .ok (.aload_n 0, 1) := fq1_42 (fl_X12_blind_1 (j := 33) rfl rfl)
theorem dX12_blind_98 : decode cX12_blind 98 = .ok (.iload_n 2, 1) := fq1_28 (fl_X12_blind_1 (j := 34) rfl rfl)
theorem dX12_blind_99 : decode cX12_blind 99 = .ok (.invokevirtual 85, 3) := fq3_182 (fl_X12_blind_1 (j := 35) rfl rfl) (fl_X12_blind_1 (j := 36) rfl rfl) (fl_X12_blind_1 (j := 37) rfl rfl) rfl
theorem dX12_blind_102 : decode cX12_blind 102 = .ok (.ireturn, 1) := fq1_172 (fl_X12_blind_1 (j := 38) rfl rfl)
def fb_X12_bottom_0 : List UInt8 := [0x2a, 0xb4, 0x00, 0x11, 0xad]
theorem fl_X12_bottom_0 {p j : Nat} {b : UInt8} (e : p = 0 + j) (h : fb_X12_bottom_0[j]? = some b) : cX12_bottom.data.toList[p]? = some b := fq_l (n := 64) (show (cX12_bottom.data.toList.drop 0).take 64 = fb_X12_bottom_0 by decide +kernel) e h
theorem dX12_bottom_0 : decode cX12_bottom 0 = .ok (.aload_n 0, 1) := fq1_42 (fl_X12_bottom_0 (j := 0) rfl rfl)
theorem dX12_bottom_1 : decode cX12_bottom 1 = .ok (.getfield 17, 3) := fq3_180 (fl_X12_bottom_0 (j := 1) rfl rfl) (fl_X12_bottom_0 (j := 2) rfl rfl) (fl_X12_bottom_0 (j := 3) rfl rfl) rfl
theorem dX12_bottom_4 : decode cX12_bottom 4 = .ok (.lreturn, 1) := fq1_173 (fl_X12_bottom_0 (j := 4) rfl rfl)
def fb_X12_closest_0 : List UInt8 := [0x2a, 0x1b, 0x1c, 0xb6, 0x01, 0x09, 0x99, 0x00, 0x17, 0x1d, 0xb8, 0x01, 0x0c, 0x99, 0x00, 0x10, 0x15, 0x04, 0x85, 0x09, 0x14, 0x01, 0x25, 0xb8, 0x01, 0x27, 0x9a, 0x00, 0x09, 0x2a, 0x04, 0xb6, 0x00, 0x51, 0xac, 0x1d, 0x36, 0x05, 0x15, 0x05, 0x11, 0x01, 0x90, 0xa3, 0x00, 0x1f, 0x2a, 0x1b, 0x15, 0x05, 0x1c, 0x15, 0x05, 0xb6, 0x01, 0x05, 0x15, 0x04, 0xa3, 0x00, 0x0a, 0x2a, 0x15, 0x05]
theorem fl_X12_closest_0 {p j : Nat} {b : UInt8} (e : p = 0 + j) (h : fb_X12_closest_0[j]? = some b) : cX12_closest.data.toList[p]? = some b := fq_l (n := 64) (show (cX12_closest.data.toList.drop 0).take 64 = fb_X12_closest_0 by decide +kernel) e h
theorem dX12_closest_0 : decode cX12_closest 0 = .ok (.aload_n 0, 1) := fq1_42 (fl_X12_closest_0 (j := 0) rfl rfl)
theorem dX12_closest_1 : decode cX12_closest 1 = .ok (.iload_n 1, 1) := fq1_27 (fl_X12_closest_0 (j := 1) rfl rfl)
theorem dX12_closest_2 : decode cX12_closest 2 = .ok (.iload_n 2, 1) := fq1_28 (fl_X12_closest_0 (j := 2) rfl rfl)
theorem dX12_closest_3 : decode cX12_closest 3 = .ok (.invokevirtual 265, 3) := fq3_182 (fl_X12_closest_0 (j := 3) rfl rfl) (fl_X12_closest_0 (j := 4) rfl rfl) (fl_X12_closest_0 (j := 5) rfl rfl) rfl
theorem dX12_closest_6 : decode cX12_closest 6 = .ok (.ifCond .eq 23, 3) := fq3_153 (fl_X12_closest_0 (j := 6) rfl rfl) (fl_X12_closest_0 (j := 7) rfl rfl) (fl_X12_closest_0 (j := 8) rfl rfl) (s2p rfl (bl rfl))
theorem dX12_closest_9 : decode cX12_closest 9 = .ok (.iload_n 3, 1) := fq1_29 (fl_X12_closest_0 (j := 9) rfl rfl)
theorem dX12_closest_10 : decode cX12_closest 10 = .ok (.invokestatic 268, 3) := fq3_184 (fl_X12_closest_0 (j := 10) rfl rfl) (fl_X12_closest_0 (j := 11) rfl rfl) (fl_X12_closest_0 (j := 12) rfl rfl) rfl
theorem dX12_closest_13 : decode cX12_closest 13 = .ok (.ifCond .eq 16, 3) := fq3_153 (fl_X12_closest_0 (j := 13) rfl rfl) (fl_X12_closest_0 (j := 14) rfl rfl) (fl_X12_closest_0 (j := 15) rfl rfl) (s2p rfl (bl rfl))
theorem dX12_closest_16 : decode cX12_closest 16 = .ok (.iload 4, 2) := fq2_21 (fl_X12_closest_0 (j := 16) rfl rfl) (fl_X12_closest_0 (j := 17) rfl rfl) rfl
theorem dX12_closest_18 : decode cX12_closest 18 = .ok (.i2l, 1) := fq1_133 (fl_X12_closest_0 (j := 18) rfl rfl)
theorem dX12_closest_19 : decode cX12_closest 19 = .ok (.lconst 0, 1) := fq1_9 (fl_X12_closest_0 (j := 19) rfl rfl)
theorem dX12_closest_20 : decode cX12_closest 20 = .ok (.ldc2_w 293, 3) := fq3_20 (fl_X12_closest_0 (j := 20) rfl rfl) (fl_X12_closest_0 (j := 21) rfl rfl) (fl_X12_closest_0 (j := 22) rfl rfl) rfl
theorem dX12_closest_23 : decode cX12_closest 23 = .ok (.invokestatic 295, 3) := fq3_184 (fl_X12_closest_0 (j := 23) rfl rfl) (fl_X12_closest_0 (j := 24) rfl rfl) (fl_X12_closest_0 (j := 25) rfl rfl) rfl
theorem dX12_closest_26 : decode cX12_closest 26 = .ok (.ifCond .ne 9, 3) := fq3_154 (fl_X12_closest_0 (j := 26) rfl rfl) (fl_X12_closest_0 (j := 27) rfl rfl) (fl_X12_closest_0 (j := 28) rfl rfl) (s2p rfl (bl rfl))
theorem dX12_closest_29 : decode cX12_closest 29 = .ok (.aload_n 0, 1) := fq1_42 (fl_X12_closest_0 (j := 29) rfl rfl)
theorem dX12_closest_30 : decode cX12_closest 30 = .ok (.iconst 1, 1) := fq1_4 (fl_X12_closest_0 (j := 30) rfl rfl)
theorem dX12_closest_31 : decode cX12_closest 31 = .ok (.invokevirtual 81, 3) := fq3_182 (fl_X12_closest_0 (j := 31) rfl rfl) (fl_X12_closest_0 (j := 32) rfl rfl) (fl_X12_closest_0 (j := 33) rfl rfl) rfl
theorem dX12_closest_34 : decode cX12_closest 34 = .ok (.ireturn, 1) := fq1_172 (fl_X12_closest_0 (j := 34) rfl rfl)
theorem dX12_closest_35 : decode cX12_closest 35 = .ok (.iload_n 3, 1) := fq1_29 (fl_X12_closest_0 (j := 35) rfl rfl)
theorem dX12_closest_36 : decode cX12_closest 36 = .ok (.istore 5, 2) := fq2_54 (fl_X12_closest_0 (j := 36) rfl rfl) (fl_X12_closest_0 (j := 37) rfl rfl) rfl
theorem dX12_closest_38 : decode cX12_closest 38 = .ok (.iload 5, 2) := fq2_21 (fl_X12_closest_0 (j := 38) rfl rfl) (fl_X12_closest_0 (j := 39) rfl rfl) rfl
theorem dX12_closest_40 : decode cX12_closest 40 = .ok (.sipush 400, 3) := fq3_17 (fl_X12_closest_0 (j := 40) rfl rfl) (fl_X12_closest_0 (j := 41) rfl rfl) (fl_X12_closest_0 (j := 42) rfl rfl) (s2p rfl (bl rfl))
theorem dX12_closest_43 : decode cX12_closest 43 = .ok (.if_icmp .gt 31, 3) := fq3_163 (fl_X12_closest_0 (j := 43) rfl rfl) (fl_X12_closest_0 (j := 44) rfl rfl) (fl_X12_closest_0 (j := 45) rfl rfl) (s2p rfl (bl rfl))
theorem dX12_closest_46 : decode cX12_closest 46 = .ok (.aload_n 0, 1) := fq1_42 (fl_X12_closest_0 (j := 46) rfl rfl)
theorem dX12_closest_47 : decode cX12_closest 47 = .ok (.iload_n 1, 1) := fq1_27 (fl_X12_closest_0 (j := 47) rfl rfl)
theorem dX12_closest_48 : decode cX12_closest 48 = .ok (.iload 5, 2) := fq2_21 (fl_X12_closest_0 (j := 48) rfl rfl) (fl_X12_closest_0 (j := 49) rfl rfl) rfl
theorem dX12_closest_50 : decode cX12_closest 50 = .ok (.iload_n 2, 1) := fq1_28 (fl_X12_closest_0 (j := 50) rfl rfl)
theorem dX12_closest_51 : decode cX12_closest 51 = .ok (.iload 5, 2) := fq2_21 (fl_X12_closest_0 (j := 51) rfl rfl) (fl_X12_closest_0 (j := 52) rfl rfl) rfl
theorem dX12_closest_53 : decode cX12_closest 53 = .ok (.invokevirtual 261, 3) := fq3_182 (fl_X12_closest_0 (j := 53) rfl rfl) (fl_X12_closest_0 (j := 54) rfl rfl) (fl_X12_closest_0 (j := 55) rfl rfl) rfl
theorem dX12_closest_56 : decode cX12_closest 56 = .ok (.iload 4, 2) := fq2_21 (fl_X12_closest_0 (j := 56) rfl rfl) (fl_X12_closest_0 (j := 57) rfl rfl) rfl
theorem dX12_closest_58 : decode cX12_closest 58 = .ok (.if_icmp .gt 10, 3) := fq3_163 (fl_X12_closest_0 (j := 58) rfl rfl) (fl_X12_closest_0 (j := 59) rfl rfl) (fl_X12_closest_0 (j := 60) rfl rfl) (s2p rfl (bl rfl))
theorem dX12_closest_61 : decode cX12_closest 61 = .ok (.aload_n 0, 1) := fq1_42 (fl_X12_closest_0 (j := 61) rfl rfl)
theorem dX12_closest_62 : decode cX12_closest 62 = .ok (.iload 5, 2) := fq2_21 (fl_X12_closest_0 (j := 62) rfl rfl) (fl_X12_closest_0 (j := 63) rfl rfl) rfl
def fb_X12_closest_1 : List UInt8 := [0xb6, 0x00, 0x55, 0xac, 0x84, 0x05, 0x01, 0xa7, 0xff, 0xdf, 0x2a, 0x10, 0x06, 0xb6, 0x00, 0x51, 0xac]
theorem fl_X12_closest_1 {p j : Nat} {b : UInt8} (e : p = 64 + j) (h : fb_X12_closest_1[j]? = some b) : cX12_closest.data.toList[p]? = some b := fq_l (n := 64) (show (cX12_closest.data.toList.drop 64).take 64 = fb_X12_closest_1 by decide +kernel) e h
theorem dX12_closest_64 : decode cX12_closest 64 = .ok (.invokevirtual 85, 3) := fq3_182 (fl_X12_closest_1 (j := 0) rfl rfl) (fl_X12_closest_1 (j := 1) rfl rfl) (fl_X12_closest_1 (j := 2) rfl rfl) rfl
theorem dX12_closest_67 : decode cX12_closest 67 = .ok (.ireturn, 1) := fq1_172 (fl_X12_closest_1 (j := 3) rfl rfl)
theorem dX12_closest_68 : decode cX12_closest 68 = .ok (.iinc 5 1, 3) := fq3_132 (fl_X12_closest_1 (j := 4) rfl rfl) (fl_X12_closest_1 (j := 5) rfl rfl) (fl_X12_closest_1 (j := 6) rfl rfl) rfl (s1p rfl (bl rfl))
theorem dX12_closest_71 : decode cX12_closest 71 = .ok (.goto (-33), 3) := fq3_167 (fl_X12_closest_1 (j := 7) rfl rfl) (fl_X12_closest_1 (j := 8) rfl rfl) (fl_X12_closest_1 (j := 9) rfl rfl) (by decide)
theorem dX12_closest_74 : decode cX12_closest 74 = .ok (.aload_n 0, 1) := fq1_42 (fl_X12_closest_1 (j := 10) rfl rfl)
theorem dX12_closest_75 : decode cX12_closest 75 = .ok (.bipush 6, 2) := fq2_16 (fl_X12_closest_1 (j := 11) rfl rfl) (fl_X12_closest_1 (j := 12) rfl rfl) (s1p rfl (bl rfl))
theorem dX12_closest_77 : decode cX12_closest 77 = .ok (.invokevirtual 81, 3) := fq3_182 (fl_X12_closest_1 (j := 13) rfl rfl) (fl_X12_closest_1 (j := 14) rfl rfl) (fl_X12_closest_1 (j := 15) rfl rfl) rfl
theorem dX12_closest_80 : decode cX12_closest 80 = .ok (.ireturn, 1) := fq1_172 (fl_X12_closest_1 (j := 16) rfl rfl)
def fb_X12_direction_0 : List UInt8 := [0x2a, 0x1b, 0xb6, 0x00, 0xf3, 0x99, 0x00, 0x17, 0x1c, 0xb8, 0x01, 0x02, 0x99, 0x00, 0x10, 0x2a, 0x2a, 0x1b, 0x1c, 0xb6, 0x00, 0xf9, 0xb6, 0x00, 0x55, 0xa7, 0x00, 0x08, 0x2a, 0x04, 0xb6, 0x00, 0x51, 0xac]
theorem fl_X12_direction_0 {p j : Nat} {b : UInt8} (e : p = 0 + j) (h : fb_X12_direction_0[j]? = some b) : cX12_direction.data.toList[p]? = some b := fq_l (n := 64) (show (cX12_direction.data.toList.drop 0).take 64 = fb_X12_direction_0 by decide +kernel) e h
theorem dX12_direction_0 : decode cX12_direction 0 = .ok (.aload_n 0, 1) := fq1_42 (fl_X12_direction_0 (j := 0) rfl rfl)
theorem dX12_direction_1 : decode cX12_direction 1 = .ok (.iload_n 1, 1) := fq1_27 (fl_X12_direction_0 (j := 1) rfl rfl)
theorem dX12_direction_2 : decode cX12_direction 2 = .ok (.invokevirtual 243, 3) := fq3_182 (fl_X12_direction_0 (j := 2) rfl rfl) (fl_X12_direction_0 (j := 3) rfl rfl) (fl_X12_direction_0 (j := 4) rfl rfl) rfl
theorem dX12_direction_5 : decode cX12_direction 5 = .ok (.ifCond .eq 23, 3) := fq3_153 (fl_X12_direction_0 (j := 5) rfl rfl) (fl_X12_direction_0 (j := 6) rfl rfl) (fl_X12_direction_0 (j := 7) rfl rfl) (s2p rfl (bl rfl))
theorem dX12_direction_8 : decode cX12_direction 8 = .ok (.iload_n 2, 1) := fq1_28 (fl_X12_direction_0 (j := 8) rfl rfl)
theorem dX12_direction_9 : decode cX12_direction 9 = .ok (.invokestatic 258, 3) := fq3_184 (fl_X12_direction_0 (j := 9) rfl rfl) (fl_X12_direction_0 (j := 10) rfl rfl) (fl_X12_direction_0 (j := 11) rfl rfl) rfl
theorem dX12_direction_12 : decode cX12_direction 12 = .ok (.ifCond .eq 16, 3) := fq3_153 (fl_X12_direction_0 (j := 12) rfl rfl) (fl_X12_direction_0 (j := 13) rfl rfl) (fl_X12_direction_0 (j := 14) rfl rfl) (s2p rfl (bl rfl))
theorem dX12_direction_15 : decode cX12_direction 15 = .ok (.aload_n 0, 1) := fq1_42 (fl_X12_direction_0 (j := 15) rfl rfl)
theorem dX12_direction_16 : decode cX12_direction 16 = .ok (.aload_n 0, 1) := fq1_42 (fl_X12_direction_0 (j := 16) rfl rfl)
theorem dX12_direction_17 : decode cX12_direction 17 = .ok (.iload_n 1, 1) := fq1_27 (fl_X12_direction_0 (j := 17) rfl rfl)
theorem dX12_direction_18 : decode cX12_direction 18 = .ok (.iload_n 2, 1) := fq1_28 (fl_X12_direction_0 (j := 18) rfl rfl)
theorem dX12_direction_19 : decode cX12_direction 19 = .ok (.invokevirtual 249, 3) := fq3_182 (fl_X12_direction_0 (j := 19) rfl rfl) (fl_X12_direction_0 (j := 20) rfl rfl) (fl_X12_direction_0 (j := 21) rfl rfl) rfl
theorem dX12_direction_22 : decode cX12_direction 22 = .ok (.invokevirtual 85, 3) := fq3_182 (fl_X12_direction_0 (j := 22) rfl rfl) (fl_X12_direction_0 (j := 23) rfl rfl) (fl_X12_direction_0 (j := 24) rfl rfl) rfl
theorem dX12_direction_25 : decode cX12_direction 25 = .ok (.goto 8, 3) := fq3_167 (fl_X12_direction_0 (j := 25) rfl rfl) (fl_X12_direction_0 (j := 26) rfl rfl) (fl_X12_direction_0 (j := 27) rfl rfl) (s2p rfl (bl rfl))
theorem dX12_direction_28 : decode cX12_direction 28 = .ok (.aload_n 0, 1) := fq1_42 (fl_X12_direction_0 (j := 28) rfl rfl)
theorem dX12_direction_29 : decode cX12_direction 29 = .ok (.iconst 1, 1) := fq1_4 (fl_X12_direction_0 (j := 29) rfl rfl)
theorem dX12_direction_30 : decode cX12_direction 30 = .ok (.invokevirtual 81, 3) := fq3_182 (fl_X12_direction_0 (j := 30) rfl rfl) (fl_X12_direction_0 (j := 31) rfl rfl) (fl_X12_direction_0 (j := 32) rfl rfl) rfl
theorem dX12_direction_33 : decode cX12_direction 33 = .ok (.ireturn, 1) := fq1_172 (fl_X12_direction_0 (j := 33) rfl rfl)
def fb_X12_echo_0 : List UInt8 := [0x2a, 0x1b, 0x1d, 0xb6, 0x01, 0x09, 0x99, 0x00, 0x18, 0x1c, 0xb8, 0x01, 0x0c, 0x99, 0x00, 0x11, 0x2a, 0x2a, 0x1b, 0x1c, 0x1d, 0xb6, 0x01, 0x59, 0xb6, 0x01, 0x1c, 0xa7, 0x00, 0x08, 0x2a, 0x04, 0xb6, 0x00, 0x51, 0xac]
theorem fl_X12_echo_0 {p j : Nat} {b : UInt8} (e : p = 0 + j) (h : fb_X12_echo_0[j]? = some b) : cX12_echo.data.toList[p]? = some b := fq_l (n := 64) (show (cX12_echo.data.toList.drop 0).take 64 = fb_X12_echo_0 by decide +kernel) e h
theorem dX12_echo_0 : decode cX12_echo 0 = .ok (.aload_n 0, 1) := fq1_42 (fl_X12_echo_0 (j := 0) rfl rfl)
theorem dX12_echo_1 : decode cX12_echo 1 = .ok (.iload_n 1, 1) := fq1_27 (fl_X12_echo_0 (j := 1) rfl rfl)
theorem dX12_echo_2 : decode cX12_echo 2 = .ok (.iload_n 3, 1) := fq1_29 (fl_X12_echo_0 (j := 2) rfl rfl)
theorem dX12_echo_3 : decode cX12_echo 3 = .ok (.invokevirtual 265, 3) := fq3_182 (fl_X12_echo_0 (j := 3) rfl rfl) (fl_X12_echo_0 (j := 4) rfl rfl) (fl_X12_echo_0 (j := 5) rfl rfl) rfl
theorem dX12_echo_6 : decode cX12_echo 6 = .ok (.ifCond .eq 24, 3) := fq3_153 (fl_X12_echo_0 (j := 6) rfl rfl) (fl_X12_echo_0 (j := 7) rfl rfl) (fl_X12_echo_0 (j := 8) rfl rfl) (s2p rfl (bl rfl))
theorem dX12_echo_9 : decode cX12_echo 9 = .ok (.iload_n 2, 1) := fq1_28 (fl_X12_echo_0 (j := 9) rfl rfl)
theorem dX12_echo_10 : decode cX12_echo 10 = .ok (.invokestatic 268, 3) := fq3_184 (fl_X12_echo_0 (j := 10) rfl rfl) (fl_X12_echo_0 (j := 11) rfl rfl) (fl_X12_echo_0 (j := 12) rfl rfl) rfl
theorem dX12_echo_13 : decode cX12_echo 13 = .ok (.ifCond .eq 17, 3) := fq3_153 (fl_X12_echo_0 (j := 13) rfl rfl) (fl_X12_echo_0 (j := 14) rfl rfl) (fl_X12_echo_0 (j := 15) rfl rfl) (s2p rfl (bl rfl))
theorem dX12_echo_16 : decode cX12_echo 16 = .ok (.aload_n 0, 1) := fq1_42 (fl_X12_echo_0 (j := 16) rfl rfl)
theorem dX12_echo_17 : decode cX12_echo 17 = .ok (.aload_n 0, 1) := fq1_42 (fl_X12_echo_0 (j := 17) rfl rfl)
theorem dX12_echo_18 : decode cX12_echo 18 = .ok (.iload_n 1, 1) := fq1_27 (fl_X12_echo_0 (j := 18) rfl rfl)
theorem dX12_echo_19 : decode cX12_echo 19 = .ok (.iload_n 2, 1) := fq1_28 (fl_X12_echo_0 (j := 19) rfl rfl)
theorem dX12_echo_20 : decode cX12_echo 20 = .ok (.iload_n 3, 1) := fq1_29 (fl_X12_echo_0 (j := 20) rfl rfl)
theorem dX12_echo_21 : decode cX12_echo 21 = .ok (.invokevirtual 345, 3) := fq3_182 (fl_X12_echo_0 (j := 21) rfl rfl) (fl_X12_echo_0 (j := 22) rfl rfl) (fl_X12_echo_0 (j := 23) rfl rfl) rfl
theorem dX12_echo_24 : decode cX12_echo 24 = .ok (.invokevirtual 284, 3) := fq3_182 (fl_X12_echo_0 (j := 24) rfl rfl) (fl_X12_echo_0 (j := 25) rfl rfl) (fl_X12_echo_0 (j := 26) rfl rfl) rfl
theorem dX12_echo_27 : decode cX12_echo 27 = .ok (.goto 8, 3) := fq3_167 (fl_X12_echo_0 (j := 27) rfl rfl) (fl_X12_echo_0 (j := 28) rfl rfl) (fl_X12_echo_0 (j := 29) rfl rfl) (s2p rfl (bl rfl))
theorem dX12_echo_30 : decode cX12_echo 30 = .ok (.aload_n 0, 1) := fq1_42 (fl_X12_echo_0 (j := 30) rfl rfl)
theorem dX12_echo_31 : decode cX12_echo 31 = .ok (.iconst 1, 1) := fq1_4 (fl_X12_echo_0 (j := 31) rfl rfl)
theorem dX12_echo_32 : decode cX12_echo 32 = .ok (.invokevirtual 81, 3) := fq3_182 (fl_X12_echo_0 (j := 32) rfl rfl) (fl_X12_echo_0 (j := 33) rfl rfl) (fl_X12_echo_0 (j := 34) rfl rfl) rfl
theorem dX12_echo_35 : decode cX12_echo 35 = .ok (.ireturn, 1) := fq1_172 (fl_X12_echo_0 (j := 35) rfl rfl)
def fb_X12_gain_0 : List UInt8 := [0x2a, 0x1b, 0x1d, 0xb6, 0x01, 0x09, 0x99, 0x00, 0x18, 0x1c, 0xb8, 0x01, 0x0c, 0x99, 0x00, 0x11, 0x2a, 0x2a, 0x1b, 0x1c, 0x1d, 0xb6, 0x01, 0x64, 0xb6, 0x00, 0x55, 0xa7, 0x00, 0x08, 0x2a, 0x04, 0xb6, 0x00, 0x51, 0xac]
theorem fl_X12_gain_0 {p j : Nat} {b : UInt8} (e : p = 0 + j) (h : fb_X12_gain_0[j]? = some b) : cX12_gain.data.toList[p]? = some b := fq_l (n := 64) (show (cX12_gain.data.toList.drop 0).take 64 = fb_X12_gain_0 by decide +kernel) e h
theorem dX12_gain_0 : decode cX12_gain 0 = .ok (.aload_n 0, 1) := fq1_42 (fl_X12_gain_0 (j := 0) rfl rfl)
theorem dX12_gain_1 : decode cX12_gain 1 = .ok (.iload_n 1, 1) := fq1_27 (fl_X12_gain_0 (j := 1) rfl rfl)
theorem dX12_gain_2 : decode cX12_gain 2 = .ok (.iload_n 3, 1) := fq1_29 (fl_X12_gain_0 (j := 2) rfl rfl)
theorem dX12_gain_3 : decode cX12_gain 3 = .ok (.invokevirtual 265, 3) := fq3_182 (fl_X12_gain_0 (j := 3) rfl rfl) (fl_X12_gain_0 (j := 4) rfl rfl) (fl_X12_gain_0 (j := 5) rfl rfl) rfl
theorem dX12_gain_6 : decode cX12_gain 6 = .ok (.ifCond .eq 24, 3) := fq3_153 (fl_X12_gain_0 (j := 6) rfl rfl) (fl_X12_gain_0 (j := 7) rfl rfl) (fl_X12_gain_0 (j := 8) rfl rfl) (s2p rfl (bl rfl))
theorem dX12_gain_9 : decode cX12_gain 9 = .ok (.iload_n 2, 1) := fq1_28 (fl_X12_gain_0 (j := 9) rfl rfl)
theorem dX12_gain_10 : decode cX12_gain 10 = .ok (.invokestatic 268, 3) := fq3_184 (fl_X12_gain_0 (j := 10) rfl rfl) (fl_X12_gain_0 (j := 11) rfl rfl) (fl_X12_gain_0 (j := 12) rfl rfl) rfl
theorem dX12_gain_13 : decode cX12_gain 13 = .ok (.ifCond .eq 17, 3) := fq3_153 (fl_X12_gain_0 (j := 13) rfl rfl) (fl_X12_gain_0 (j := 14) rfl rfl) (fl_X12_gain_0 (j := 15) rfl rfl) (s2p rfl (bl rfl))
theorem dX12_gain_16 : decode cX12_gain 16 = .ok (.aload_n 0, 1) := fq1_42 (fl_X12_gain_0 (j := 16) rfl rfl)
theorem dX12_gain_17 : decode cX12_gain 17 = .ok (.aload_n 0, 1) := fq1_42 (fl_X12_gain_0 (j := 17) rfl rfl)
theorem dX12_gain_18 : decode cX12_gain 18 = .ok (.iload_n 1, 1) := fq1_27 (fl_X12_gain_0 (j := 18) rfl rfl)
theorem dX12_gain_19 : decode cX12_gain 19 = .ok (.iload_n 2, 1) := fq1_28 (fl_X12_gain_0 (j := 19) rfl rfl)
theorem dX12_gain_20 : decode cX12_gain 20 = .ok (.iload_n 3, 1) := fq1_29 (fl_X12_gain_0 (j := 20) rfl rfl)
theorem dX12_gain_21 : decode cX12_gain 21 = .ok (.invokevirtual 356, 3) := fq3_182 (fl_X12_gain_0 (j := 21) rfl rfl) (fl_X12_gain_0 (j := 22) rfl rfl) (fl_X12_gain_0 (j := 23) rfl rfl) rfl
theorem dX12_gain_24 : decode cX12_gain 24 = .ok (.invokevirtual 85, 3) := fq3_182 (fl_X12_gain_0 (j := 24) rfl rfl) (fl_X12_gain_0 (j := 25) rfl rfl) (fl_X12_gain_0 (j := 26) rfl rfl) rfl
theorem dX12_gain_27 : decode cX12_gain 27 = .ok (.goto 8, 3) := fq3_167 (fl_X12_gain_0 (j := 27) rfl rfl) (fl_X12_gain_0 (j := 28) rfl rfl) (fl_X12_gain_0 (j := 29) rfl rfl) (s2p rfl (bl rfl))
theorem dX12_gain_30 : decode cX12_gain 30 = .ok (.aload_n 0, 1) := fq1_42 (fl_X12_gain_0 (j := 30) rfl rfl)
theorem dX12_gain_31 : decode cX12_gain 31 = .ok (.iconst 1, 1) := fq1_4 (fl_X12_gain_0 (j := 31) rfl rfl)
theorem dX12_gain_32 : decode cX12_gain 32 = .ok (.invokevirtual 81, 3) := fq3_182 (fl_X12_gain_0 (j := 32) rfl rfl) (fl_X12_gain_0 (j := 33) rfl rfl) (fl_X12_gain_0 (j := 34) rfl rfl) rfl
theorem dX12_gain_35 : decode cX12_gain 35 = .ok (.ireturn, 1) := fq1_172 (fl_X12_gain_0 (j := 35) rfl rfl)
def fb_X12_gives_0 : List UInt8 := [0x2a, 0x03, 0xb5, 0x00, 0x4b, 0x1b, 0xac]
theorem fl_X12_gives_0 {p j : Nat} {b : UInt8} (e : p = 0 + j) (h : fb_X12_gives_0[j]? = some b) : cX12_gives.data.toList[p]? = some b := fq_l (n := 64) (show (cX12_gives.data.toList.drop 0).take 64 = fb_X12_gives_0 by decide +kernel) e h
theorem dX12_gives_0 : decode cX12_gives 0 = .ok (.aload_n 0, 1) := fq1_42 (fl_X12_gives_0 (j := 0) rfl rfl)
theorem dX12_gives_1 : decode cX12_gives 1 = .ok (.iconst 0, 1) := fq1_3 (fl_X12_gives_0 (j := 1) rfl rfl)
theorem dX12_gives_2 : decode cX12_gives 2 = .ok (.putfield 75, 3) := fq3_181 (fl_X12_gives_0 (j := 2) rfl rfl) (fl_X12_gives_0 (j := 3) rfl rfl) (fl_X12_gives_0 (j := 4) rfl rfl) rfl
theorem dX12_gives_5 : decode cX12_gives 5 = .ok (.iload_n 1, 1) := fq1_27 (fl_X12_gives_0 (j := 5) rfl rfl)
theorem dX12_gives_6 : decode cX12_gives 6 = .ok (.ireturn, 1) := fq1_172 (fl_X12_gives_0 (j := 6) rfl rfl)
def fb_X12_hoped_0 : List UInt8 := [0x2a, 0x1b, 0x1d, 0xb6, 0x01, 0x09, 0x99, 0x00, 0x0a, 0x1c, 0xb8, 0x01, 0x0c, 0x9a, 0x00, 0x09, 0x2a, 0x04, 0xb6, 0x00, 0x51, 0xac, 0x2a, 0x1b, 0x1d, 0x1c, 0xb6, 0x01, 0x1f, 0x36, 0x04, 0x15, 0x04, 0x02, 0xa0, 0x00, 0x0c, 0x2a, 0x10, 0x06, 0xb6, 0x00, 0x51, 0xa7, 0x00, 0x15, 0x2a, 0x2a, 0x1d, 0x15, 0x04, 0xb6, 0x01, 0x61, 0x2a, 0x1b, 0x1c, 0xb6, 0x01, 0x61, 0x64, 0xb6, 0x00, 0x55]
theorem fl_X12_hoped_0 {p j : Nat} {b : UInt8} (e : p = 0 + j) (h : fb_X12_hoped_0[j]? = some b) : cX12_hoped.data.toList[p]? = some b := fq_l (n := 64) (show (cX12_hoped.data.toList.drop 0).take 64 = fb_X12_hoped_0 by decide +kernel) e h
theorem dX12_hoped_0 : decode cX12_hoped 0 = .ok (.aload_n 0, 1) := fq1_42 (fl_X12_hoped_0 (j := 0) rfl rfl)
theorem dX12_hoped_1 : decode cX12_hoped 1 = .ok (.iload_n 1, 1) := fq1_27 (fl_X12_hoped_0 (j := 1) rfl rfl)
theorem dX12_hoped_2 : decode cX12_hoped 2 = .ok (.iload_n 3, 1) := fq1_29 (fl_X12_hoped_0 (j := 2) rfl rfl)
theorem dX12_hoped_3 : decode cX12_hoped 3 = .ok (.invokevirtual 265, 3) := fq3_182 (fl_X12_hoped_0 (j := 3) rfl rfl) (fl_X12_hoped_0 (j := 4) rfl rfl) (fl_X12_hoped_0 (j := 5) rfl rfl) rfl
theorem dX12_hoped_6 : decode cX12_hoped 6 = .ok (.ifCond .eq 10, 3) := fq3_153 (fl_X12_hoped_0 (j := 6) rfl rfl) (fl_X12_hoped_0 (j := 7) rfl rfl) (fl_X12_hoped_0 (j := 8) rfl rfl) (s2p rfl (bl rfl))
theorem dX12_hoped_9 : decode cX12_hoped 9 = .ok (.iload_n 2, 1) := fq1_28 (fl_X12_hoped_0 (j := 9) rfl rfl)
theorem dX12_hoped_10 : decode cX12_hoped 10 = .ok (.invokestatic 268, 3) := fq3_184 (fl_X12_hoped_0 (j := 10) rfl rfl) (fl_X12_hoped_0 (j := 11) rfl rfl) (fl_X12_hoped_0 (j := 12) rfl rfl) rfl
theorem dX12_hoped_13 : decode cX12_hoped 13 = .ok (.ifCond .ne 9, 3) := fq3_154 (fl_X12_hoped_0 (j := 13) rfl rfl) (fl_X12_hoped_0 (j := 14) rfl rfl) (fl_X12_hoped_0 (j := 15) rfl rfl) (s2p rfl (bl rfl))
theorem dX12_hoped_16 : decode cX12_hoped 16 = .ok (.aload_n 0, 1) := fq1_42 (fl_X12_hoped_0 (j := 16) rfl rfl)
theorem dX12_hoped_17 : decode cX12_hoped 17 = .ok (.iconst 1, 1) := fq1_4 (fl_X12_hoped_0 (j := 17) rfl rfl)
theorem dX12_hoped_18 : decode cX12_hoped 18 = .ok (.invokevirtual 81, 3) := fq3_182 (fl_X12_hoped_0 (j := 18) rfl rfl) (fl_X12_hoped_0 (j := 19) rfl rfl) (fl_X12_hoped_0 (j := 20) rfl rfl) rfl
theorem dX12_hoped_21 : decode cX12_hoped 21 = .ok (.ireturn, 1) := fq1_172 (fl_X12_hoped_0 (j := 21) rfl rfl)
theorem dX12_hoped_22 : decode cX12_hoped 22 = .ok (.aload_n 0, 1) := fq1_42 (fl_X12_hoped_0 (j := 22) rfl rfl)
theorem dX12_hoped_23 : decode cX12_hoped 23 = .ok (.iload_n 1, 1) := fq1_27 (fl_X12_hoped_0 (j := 23) rfl rfl)
theorem dX12_hoped_24 : decode cX12_hoped 24 = .ok (.iload_n 3, 1) := fq1_29 (fl_X12_hoped_0 (j := 24) rfl rfl)
theorem dX12_hoped_25 : decode cX12_hoped 25 = .ok (.iload_n 2, 1) := fq1_28 (fl_X12_hoped_0 (j := 25) rfl rfl)
theorem dX12_hoped_26 : decode cX12_hoped 26 = .ok (.invokevirtual 287, 3) := fq3_182 (fl_X12_hoped_0 (j := 26) rfl rfl) (fl_X12_hoped_0 (j := 27) rfl rfl) (fl_X12_hoped_0 (j := 28) rfl rfl) rfl
theorem dX12_hoped_29 : decode cX12_hoped 29 = .ok (.istore 4, 2) := fq2_54 (fl_X12_hoped_0 (j := 29) rfl rfl) (fl_X12_hoped_0 (j := 30) rfl rfl) rfl
theorem dX12_hoped_31 : decode cX12_hoped 31 = .ok (.iload 4, 2) := fq2_21 (fl_X12_hoped_0 (j := 31) rfl rfl) (fl_X12_hoped_0 (j := 32) rfl rfl) rfl
theorem dX12_hoped_33 : decode cX12_hoped 33 = .ok (.iconst (-1), 1) := fq1_2 (fl_X12_hoped_0 (j := 33) rfl rfl)
theorem dX12_hoped_34 : decode cX12_hoped 34 = .ok (.if_icmp .ne 12, 3) := fq3_160 (fl_X12_hoped_0 (j := 34) rfl rfl) (fl_X12_hoped_0 (j := 35) rfl rfl) (fl_X12_hoped_0 (j := 36) rfl rfl) (s2p rfl (bl rfl))
theorem dX12_hoped_37 : decode cX12_hoped 37 = .ok (.aload_n 0, 1) := fq1_42 (fl_X12_hoped_0 (j := 37) rfl rfl)
theorem dX12_hoped_38 : decode cX12_hoped 38 = .ok (.bipush 6, 2) := fq2_16 (fl_X12_hoped_0 (j := 38) rfl rfl) (fl_X12_hoped_0 (j := 39) rfl rfl) (s1p rfl (bl rfl))
theorem dX12_hoped_40 : decode cX12_hoped 40 = .ok (.invokevirtual 81, 3) := fq3_182 (fl_X12_hoped_0 (j := 40) rfl rfl) (fl_X12_hoped_0 (j := 41) rfl rfl) (fl_X12_hoped_0 (j := 42) rfl rfl) rfl
theorem dX12_hoped_43 : decode cX12_hoped 43 = .ok (.goto 21, 3) := fq3_167 (fl_X12_hoped_0 (j := 43) rfl rfl) (fl_X12_hoped_0 (j := 44) rfl rfl) (fl_X12_hoped_0 (j := 45) rfl rfl) (s2p rfl (bl rfl))
theorem dX12_hoped_46 : decode cX12_hoped 46 = .ok (.aload_n 0, 1) := fq1_42 (fl_X12_hoped_0 (j := 46) rfl rfl)
theorem dX12_hoped_47 : decode cX12_hoped 47 = .ok (.aload_n 0, 1) := fq1_42 (fl_X12_hoped_0 (j := 47) rfl rfl)
theorem dX12_hoped_48 : decode cX12_hoped 48 = .ok (.iload_n 3, 1) := fq1_29 (fl_X12_hoped_0 (j := 48) rfl rfl)
theorem dX12_hoped_49 : decode cX12_hoped 49 = .ok (.iload 4, 2) := fq2_21 (fl_X12_hoped_0 (j := 49) rfl rfl) (fl_X12_hoped_0 (j := 50) rfl rfl) rfl
theorem dX12_hoped_51 : decode cX12_hoped 51 = .ok (.invokevirtual 353, 3) := fq3_182 (fl_X12_hoped_0 (j := 51) rfl rfl) (fl_X12_hoped_0 (j := 52) rfl rfl) (fl_X12_hoped_0 (j := 53) rfl rfl) rfl
theorem dX12_hoped_54 : decode cX12_hoped 54 = .ok (.aload_n 0, 1) := fq1_42 (fl_X12_hoped_0 (j := 54) rfl rfl)
theorem dX12_hoped_55 : decode cX12_hoped 55 = .ok (.iload_n 1, 1) := fq1_27 (fl_X12_hoped_0 (j := 55) rfl rfl)
theorem dX12_hoped_56 : decode cX12_hoped 56 = .ok (.iload_n 2, 1) := fq1_28 (fl_X12_hoped_0 (j := 56) rfl rfl)
theorem dX12_hoped_57 : decode cX12_hoped 57 = .ok (.invokevirtual 353, 3) := fq3_182 (fl_X12_hoped_0 (j := 57) rfl rfl) (fl_X12_hoped_0 (j := 58) rfl rfl) (fl_X12_hoped_0 (j := 59) rfl rfl) rfl
theorem dX12_hoped_60 : decode cX12_hoped 60 = .ok (.isub, 1) := fq1_100 (fl_X12_hoped_0 (j := 60) rfl rfl)
theorem dX12_hoped_61 : decode cX12_hoped 61 = .ok (.invokevirtual 85, 3) := fq3_182 (fl_X12_hoped_0 (j := 61) rfl rfl) (fl_X12_hoped_0 (j := 62) rfl rfl) (fl_X12_hoped_0 (j := 63) rfl rfl) rfl
def fb_X12_hoped_1 : List UInt8 := [0xac]
theorem fl_X12_hoped_1 {p j : Nat} {b : UInt8} (e : p = 64 + j) (h : fb_X12_hoped_1[j]? = some b) : cX12_hoped.data.toList[p]? = some b := fq_l (n := 64) (show (cX12_hoped.data.toList.drop 64).take 64 = fb_X12_hoped_1 by decide +kernel) e h
theorem dX12_hoped_64 : decode cX12_hoped 64 = .ok (.ireturn, 1) := fq1_172 (fl_X12_hoped_1 (j := 0) rfl rfl)
def fb_X12_ice_0 : List UInt8 := [0x1b, 0x9b, 0x00, 0x2a, 0x1b, 0x2a, 0xb4, 0x00, 0x07, 0x04, 0x2e, 0xa2, 0x00, 0x20, 0x1c, 0x9b, 0x00, 0x1c, 0x1c, 0x06, 0xa3, 0x00, 0x17, 0x2a, 0x2a, 0xb4, 0x00, 0x07, 0x10, 0x2e, 0x07, 0x1b, 0x68, 0x60, 0x1c, 0x60, 0x2e, 0xb6, 0x00, 0x55, 0xa7, 0x00, 0x08, 0x2a, 0x04, 0xb6, 0x00, 0x51, 0xac]
theorem fl_X12_ice_0 {p j : Nat} {b : UInt8} (e : p = 0 + j) (h : fb_X12_ice_0[j]? = some b) : cX12_ice.data.toList[p]? = some b := fq_l (n := 64) (show (cX12_ice.data.toList.drop 0).take 64 = fb_X12_ice_0 by decide +kernel) e h
theorem dX12_ice_0 : decode cX12_ice 0 = .ok (.iload_n 1, 1) := fq1_27 (fl_X12_ice_0 (j := 0) rfl rfl)
theorem dX12_ice_1 : decode cX12_ice 1 = .ok (.ifCond .lt 42, 3) := fq3_155 (fl_X12_ice_0 (j := 1) rfl rfl) (fl_X12_ice_0 (j := 2) rfl rfl) (fl_X12_ice_0 (j := 3) rfl rfl) (s2p rfl (bl rfl))
theorem dX12_ice_4 : decode cX12_ice 4 = .ok (.iload_n 1, 1) := fq1_27 (fl_X12_ice_0 (j := 4) rfl rfl)
theorem dX12_ice_5 : decode cX12_ice 5 = .ok (.aload_n 0, 1) := fq1_42 (fl_X12_ice_0 (j := 5) rfl rfl)
theorem dX12_ice_6 : decode cX12_ice 6 = .ok (.getfield 7, 3) := fq3_180 (fl_X12_ice_0 (j := 6) rfl rfl) (fl_X12_ice_0 (j := 7) rfl rfl) (fl_X12_ice_0 (j := 8) rfl rfl) rfl
theorem dX12_ice_9 : decode cX12_ice 9 = .ok (.iconst 1, 1) := fq1_4 (fl_X12_ice_0 (j := 9) rfl rfl)
theorem dX12_ice_10 : decode cX12_ice 10 = .ok (.iaload, 1) := fq1_46 (fl_X12_ice_0 (j := 10) rfl rfl)
theorem dX12_ice_11 : decode cX12_ice 11 = .ok (.if_icmp .ge 32, 3) := fq3_162 (fl_X12_ice_0 (j := 11) rfl rfl) (fl_X12_ice_0 (j := 12) rfl rfl) (fl_X12_ice_0 (j := 13) rfl rfl) (s2p rfl (bl rfl))
theorem dX12_ice_14 : decode cX12_ice 14 = .ok (.iload_n 2, 1) := fq1_28 (fl_X12_ice_0 (j := 14) rfl rfl)
theorem dX12_ice_15 : decode cX12_ice 15 = .ok (.ifCond .lt 28, 3) := fq3_155 (fl_X12_ice_0 (j := 15) rfl rfl) (fl_X12_ice_0 (j := 16) rfl rfl) (fl_X12_ice_0 (j := 17) rfl rfl) (s2p rfl (bl rfl))
theorem dX12_ice_18 : decode cX12_ice 18 = .ok (.iload_n 2, 1) := fq1_28 (fl_X12_ice_0 (j := 18) rfl rfl)
theorem dX12_ice_19 : decode cX12_ice 19 = .ok (.iconst 3, 1) := fq1_6 (fl_X12_ice_0 (j := 19) rfl rfl)
theorem dX12_ice_20 : decode cX12_ice 20 = .ok (.if_icmp .gt 23, 3) := fq3_163 (fl_X12_ice_0 (j := 20) rfl rfl) (fl_X12_ice_0 (j := 21) rfl rfl) (fl_X12_ice_0 (j := 22) rfl rfl) (s2p rfl (bl rfl))
theorem dX12_ice_23 : decode cX12_ice 23 = .ok (.aload_n 0, 1) := fq1_42 (fl_X12_ice_0 (j := 23) rfl rfl)
theorem dX12_ice_24 : decode cX12_ice 24 = .ok (.aload_n 0, 1) := fq1_42 (fl_X12_ice_0 (j := 24) rfl rfl)
theorem dX12_ice_25 : decode cX12_ice 25 = .ok (.getfield 7, 3) := fq3_180 (fl_X12_ice_0 (j := 25) rfl rfl) (fl_X12_ice_0 (j := 26) rfl rfl) (fl_X12_ice_0 (j := 27) rfl rfl) rfl
theorem dX12_ice_28 : decode cX12_ice 28 = .ok (.bipush 46, 2) := fq2_16 (fl_X12_ice_0 (j := 28) rfl rfl) (fl_X12_ice_0 (j := 29) rfl rfl) (s1p rfl (bl rfl))
theorem dX12_ice_30 : decode cX12_ice 30 = .ok (.iconst 4, 1) := fq1_7 (fl_X12_ice_0 (j := 30) rfl rfl)
theorem dX12_ice_31 : decode cX12_ice 31 = .ok (.iload_n 1, 1) := fq1_27 (fl_X12_ice_0 (j := 31) rfl rfl)
theorem dX12_ice_32 : decode cX12_ice 32 = .ok (.imul, 1) := fq1_104 (fl_X12_ice_0 (j := 32) rfl rfl)
theorem dX12_ice_33 : decode cX12_ice 33 = .ok (.iadd, 1) := fq1_96 (fl_X12_ice_0 (j := 33) rfl rfl)
theorem dX12_ice_34 : decode cX12_ice 34 = .ok (.iload_n 2, 1) := fq1_28 (fl_X12_ice_0 (j := 34) rfl rfl)
theorem dX12_ice_35 : decode cX12_ice 35 = .ok (.iadd, 1) := fq1_96 (fl_X12_ice_0 (j := 35) rfl rfl)
theorem dX12_ice_36 : decode cX12_ice 36 = .ok (.iaload, 1) := fq1_46 (fl_X12_ice_0 (j := 36) rfl rfl)
theorem dX12_ice_37 : decode cX12_ice 37 = .ok (.invokevirtual 85, 3) := fq3_182 (fl_X12_ice_0 (j := 37) rfl rfl) (fl_X12_ice_0 (j := 38) rfl rfl) (fl_X12_ice_0 (j := 39) rfl rfl) rfl
theorem dX12_ice_40 : decode cX12_ice 40 = .ok (.goto 8, 3) := fq3_167 (fl_X12_ice_0 (j := 40) rfl rfl) (fl_X12_ice_0 (j := 41) rfl rfl) (fl_X12_ice_0 (j := 42) rfl rfl) (s2p rfl (bl rfl))
theorem dX12_ice_43 : decode cX12_ice 43 = .ok (.aload_n 0, 1) := fq1_42 (fl_X12_ice_0 (j := 43) rfl rfl)
theorem dX12_ice_44 : decode cX12_ice 44 = .ok (.iconst 1, 1) := fq1_4 (fl_X12_ice_0 (j := 44) rfl rfl)
theorem dX12_ice_45 : decode cX12_ice 45 = .ok (.invokevirtual 81, 3) := fq3_182 (fl_X12_ice_0 (j := 45) rfl rfl) (fl_X12_ice_0 (j := 46) rfl rfl) (fl_X12_ice_0 (j := 47) rfl rfl) rfl
theorem dX12_ice_48 : decode cX12_ice 48 = .ok (.ireturn, 1) := fq1_172 (fl_X12_ice_0 (j := 48) rfl rfl)
def fb_X12_iced_0 : List UInt8 := [0x2a, 0x1b, 0x1c, 0xb6, 0x01, 0x09, 0x99, 0x00, 0x20, 0x1d, 0xb8, 0x01, 0x0c, 0x99, 0x00, 0x19, 0x2a, 0x2a, 0x1b, 0x1c, 0x1d, 0xb6, 0x01, 0x0f, 0x99, 0x00, 0x07, 0x04, 0xa7, 0x00, 0x04, 0x03, 0xb6, 0x00, 0x55, 0xa7, 0x00, 0x08, 0x2a, 0x04, 0xb6, 0x00, 0x51, 0xac]
theorem fl_X12_iced_0 {p j : Nat} {b : UInt8} (e : p = 0 + j) (h : fb_X12_iced_0[j]? = some b) : cX12_iced.data.toList[p]? = some b := fq_l (n := 64) (show (cX12_iced.data.toList.drop 0).take 64 = fb_X12_iced_0 by decide +kernel) e h
theorem dX12_iced_0 : decode cX12_iced 0 = .ok (.aload_n 0, 1) := fq1_42 (fl_X12_iced_0 (j := 0) rfl rfl)
theorem dX12_iced_1 : decode cX12_iced 1 = .ok (.iload_n 1, 1) := fq1_27 (fl_X12_iced_0 (j := 1) rfl rfl)
theorem dX12_iced_2 : decode cX12_iced 2 = .ok (.iload_n 2, 1) := fq1_28 (fl_X12_iced_0 (j := 2) rfl rfl)
theorem dX12_iced_3 : decode cX12_iced 3 = .ok (.invokevirtual 265, 3) := fq3_182 (fl_X12_iced_0 (j := 3) rfl rfl) (fl_X12_iced_0 (j := 4) rfl rfl) (fl_X12_iced_0 (j := 5) rfl rfl) rfl
theorem dX12_iced_6 : decode cX12_iced 6 = .ok (.ifCond .eq 32, 3) := fq3_153 (fl_X12_iced_0 (j := 6) rfl rfl) (fl_X12_iced_0 (j := 7) rfl rfl) (fl_X12_iced_0 (j := 8) rfl rfl) (s2p rfl (bl rfl))
theorem dX12_iced_9 : decode cX12_iced 9 = .ok (.iload_n 3, 1) := fq1_29 (fl_X12_iced_0 (j := 9) rfl rfl)
theorem dX12_iced_10 : decode cX12_iced 10 = .ok (.invokestatic 268, 3) := fq3_184 (fl_X12_iced_0 (j := 10) rfl rfl) (fl_X12_iced_0 (j := 11) rfl rfl) (fl_X12_iced_0 (j := 12) rfl rfl) rfl
theorem dX12_iced_13 : decode cX12_iced 13 = .ok (.ifCond .eq 25, 3) := fq3_153 (fl_X12_iced_0 (j := 13) rfl rfl) (fl_X12_iced_0 (j := 14) rfl rfl) (fl_X12_iced_0 (j := 15) rfl rfl) (s2p rfl (bl rfl))
theorem dX12_iced_16 : decode cX12_iced 16 = .ok (.aload_n 0, 1) := fq1_42 (fl_X12_iced_0 (j := 16) rfl rfl)
theorem dX12_iced_17 : decode cX12_iced 17 = .ok (.aload_n 0, 1) := fq1_42 (fl_X12_iced_0 (j := 17) rfl rfl)
theorem dX12_iced_18 : decode cX12_iced 18 = .ok (.iload_n 1, 1) := fq1_27 (fl_X12_iced_0 (j := 18) rfl rfl)
theorem dX12_iced_19 : decode cX12_iced 19 = .ok (.iload_n 2, 1) := fq1_28 (fl_X12_iced_0 (j := 19) rfl rfl)
theorem dX12_iced_20 : decode cX12_iced 20 = .ok (.iload_n 3, 1) := fq1_29 (fl_X12_iced_0 (j := 20) rfl rfl)
theorem dX12_iced_21 : decode cX12_iced 21 = .ok (.invokevirtual 271, 3) := fq3_182 (fl_X12_iced_0 (j := 21) rfl rfl) (fl_X12_iced_0 (j := 22) rfl rfl) (fl_X12_iced_0 (j := 23) rfl rfl) rfl
theorem dX12_iced_24 : decode cX12_iced 24 = .ok (.ifCond .eq 7, 3) := fq3_153 (fl_X12_iced_0 (j := 24) rfl rfl) (fl_X12_iced_0 (j := 25) rfl rfl) (fl_X12_iced_0 (j := 26) rfl rfl) (s2p rfl (bl rfl))
theorem dX12_iced_27 : decode cX12_iced 27 = .ok (.iconst 1, 1) := fq1_4 (fl_X12_iced_0 (j := 27) rfl rfl)
theorem dX12_iced_28 : decode cX12_iced 28 = .ok (.goto 4, 3) := fq3_167 (fl_X12_iced_0 (j := 28) rfl rfl) (fl_X12_iced_0 (j := 29) rfl rfl) (fl_X12_iced_0 (j := 30) rfl rfl) (s2p rfl (bl rfl))
theorem dX12_iced_31 : decode cX12_iced 31 = .ok (.iconst 0, 1) := fq1_3 (fl_X12_iced_0 (j := 31) rfl rfl)
theorem dX12_iced_32 : decode cX12_iced 32 = .ok (.invokevirtual 85, 3) := fq3_182 (fl_X12_iced_0 (j := 32) rfl rfl) (fl_X12_iced_0 (j := 33) rfl rfl) (fl_X12_iced_0 (j := 34) rfl rfl) rfl
theorem dX12_iced_35 : decode cX12_iced 35 = .ok (.goto 8, 3) := fq3_167 (fl_X12_iced_0 (j := 35) rfl rfl) (fl_X12_iced_0 (j := 36) rfl rfl) (fl_X12_iced_0 (j := 37) rfl rfl) (s2p rfl (bl rfl))
theorem dX12_iced_38 : decode cX12_iced 38 = .ok (.aload_n 0, 1) := fq1_42 (fl_X12_iced_0 (j := 38) rfl rfl)
theorem dX12_iced_39 : decode cX12_iced 39 = .ok (.iconst 1, 1) := fq1_4 (fl_X12_iced_0 (j := 39) rfl rfl)
theorem dX12_iced_40 : decode cX12_iced 40 = .ok (.invokevirtual 81, 3) := fq3_182 (fl_X12_iced_0 (j := 40) rfl rfl) (fl_X12_iced_0 (j := 41) rfl rfl) (fl_X12_iced_0 (j := 42) rfl rfl) rfl
theorem dX12_iced_43 : decode cX12_iced 43 = .ok (.ireturn, 1) := fq1_172 (fl_X12_iced_0 (j := 43) rfl rfl)
def fb_X12_is_0 : List UInt8 := [0x2a, 0x1b, 0xb5, 0x00, 0x4b, 0x1b, 0x9a, 0x00, 0x07, 0x04, 0xa7, 0x00, 0x04, 0x03, 0xac]
theorem fl_X12_is_0 {p j : Nat} {b : UInt8} (e : p = 0 + j) (h : fb_X12_is_0[j]? = some b) : cX12_is.data.toList[p]? = some b := fq_l (n := 64) (show (cX12_is.data.toList.drop 0).take 64 = fb_X12_is_0 by decide +kernel) e h
theorem dX12_is_0 : decode cX12_is 0 = .ok (.aload_n 0, 1) := fq1_42 (fl_X12_is_0 (j := 0) rfl rfl)
theorem dX12_is_1 : decode cX12_is 1 = .ok (.iload_n 1, 1) := fq1_27 (fl_X12_is_0 (j := 1) rfl rfl)
theorem dX12_is_2 : decode cX12_is 2 = .ok (.putfield 75, 3) := fq3_181 (fl_X12_is_0 (j := 2) rfl rfl) (fl_X12_is_0 (j := 3) rfl rfl) (fl_X12_is_0 (j := 4) rfl rfl) rfl
theorem dX12_is_5 : decode cX12_is 5 = .ok (.iload_n 1, 1) := fq1_27 (fl_X12_is_0 (j := 5) rfl rfl)
theorem dX12_is_6 : decode cX12_is 6 = .ok (.ifCond .ne 7, 3) := fq3_154 (fl_X12_is_0 (j := 6) rfl rfl) (fl_X12_is_0 (j := 7) rfl rfl) (fl_X12_is_0 (j := 8) rfl rfl) (s2p rfl (bl rfl))
theorem dX12_is_9 : decode cX12_is 9 = .ok (.iconst 1, 1) := fq1_4 (fl_X12_is_0 (j := 9) rfl rfl)
theorem dX12_is_10 : decode cX12_is 10 = .ok (.goto 4, 3) := fq3_167 (fl_X12_is_0 (j := 10) rfl rfl) (fl_X12_is_0 (j := 11) rfl rfl) (fl_X12_is_0 (j := 12) rfl rfl) (s2p rfl (bl rfl))
theorem dX12_is_13 : decode cX12_is 13 = .ok (.iconst 0, 1) := fq1_3 (fl_X12_is_0 (j := 13) rfl rfl)
theorem dX12_is_14 : decode cX12_is 14 = .ok (.ireturn, 1) := fq1_172 (fl_X12_is_0 (j := 14) rfl rfl)
def fb_X12_isFrom_0 : List UInt8 := [0x1e, 0x20, 0x94, 0x9b, 0x00, 0x0e, 0x1e, 0x16, 0x04, 0x94, 0x9d, 0x00, 0x07, 0x04, 0xa7, 0x00, 0x04, 0x03, 0xac]
theorem fl_X12_isFrom_0 {p j : Nat} {b : UInt8} (e : p = 0 + j) (h : fb_X12_isFrom_0[j]? = some b) : cX12_isFrom.data.toList[p]? = some b := fq_l (n := 64) (show (cX12_isFrom.data.toList.drop 0).take 64 = fb_X12_isFrom_0 by decide +kernel) e h
theorem dX12_isFrom_0 : decode cX12_isFrom 0 = .ok (.lload_n 0, 1) := fq1_30 (fl_X12_isFrom_0 (j := 0) rfl rfl)
theorem dX12_isFrom_1 : decode cX12_isFrom 1 = .ok (.lload_n 2, 1) := fq1_32 (fl_X12_isFrom_0 (j := 1) rfl rfl)
theorem dX12_isFrom_2 : decode cX12_isFrom 2 = .ok (.lcmp, 1) := fq1_148 (fl_X12_isFrom_0 (j := 2) rfl rfl)
theorem dX12_isFrom_3 : decode cX12_isFrom 3 = .ok (.ifCond .lt 14, 3) := fq3_155 (fl_X12_isFrom_0 (j := 3) rfl rfl) (fl_X12_isFrom_0 (j := 4) rfl rfl) (fl_X12_isFrom_0 (j := 5) rfl rfl) (s2p rfl (bl rfl))
theorem dX12_isFrom_6 : decode cX12_isFrom 6 = .ok (.lload_n 0, 1) := fq1_30 (fl_X12_isFrom_0 (j := 6) rfl rfl)
theorem dX12_isFrom_7 : decode cX12_isFrom 7 = .ok (.lload 4, 2) := fq2_22 (fl_X12_isFrom_0 (j := 7) rfl rfl) (fl_X12_isFrom_0 (j := 8) rfl rfl) rfl
theorem dX12_isFrom_9 : decode cX12_isFrom 9 = .ok (.lcmp, 1) := fq1_148 (fl_X12_isFrom_0 (j := 9) rfl rfl)
theorem dX12_isFrom_10 : decode cX12_isFrom 10 = .ok (.ifCond .gt 7, 3) := fq3_157 (fl_X12_isFrom_0 (j := 10) rfl rfl) (fl_X12_isFrom_0 (j := 11) rfl rfl) (fl_X12_isFrom_0 (j := 12) rfl rfl) (s2p rfl (bl rfl))
theorem dX12_isFrom_13 : decode cX12_isFrom 13 = .ok (.iconst 1, 1) := fq1_4 (fl_X12_isFrom_0 (j := 13) rfl rfl)
theorem dX12_isFrom_14 : decode cX12_isFrom 14 = .ok (.goto 4, 3) := fq3_167 (fl_X12_isFrom_0 (j := 14) rfl rfl) (fl_X12_isFrom_0 (j := 15) rfl rfl) (fl_X12_isFrom_0 (j := 16) rfl rfl) (s2p rfl (bl rfl))
theorem dX12_isFrom_17 : decode cX12_isFrom 17 = .ok (.iconst 0, 1) := fq1_3 (fl_X12_isFrom_0 (j := 17) rfl rfl)
theorem dX12_isFrom_18 : decode cX12_isFrom 18 = .ok (.ireturn, 1) := fq1_172 (fl_X12_isFrom_0 (j := 18) rfl rfl)
def fb_X12_light_0 : List UInt8 := [0x2a, 0x1b, 0xb6, 0x00, 0xf3, 0x99, 0x00, 0x2a, 0x2a, 0x1d, 0xb6, 0x00, 0xf3, 0x99, 0x00, 0x22, 0x1c, 0xb8, 0x01, 0x02, 0x99, 0x00, 0x1b, 0x15, 0x04, 0xb8, 0x01, 0x02, 0x99, 0x00, 0x13, 0x2a, 0x2a, 0x1b, 0x1c, 0x1d, 0x15, 0x04, 0xb6, 0x01, 0x05, 0xb6, 0x00, 0x55, 0xa7, 0x00, 0x08, 0x2a, 0x04, 0xb6, 0x00, 0x51, 0xac]
theorem fl_X12_light_0 {p j : Nat} {b : UInt8} (e : p = 0 + j) (h : fb_X12_light_0[j]? = some b) : cX12_light.data.toList[p]? = some b := fq_l (n := 64) (show (cX12_light.data.toList.drop 0).take 64 = fb_X12_light_0 by decide +kernel) e h
theorem dX12_light_0 : decode cX12_light 0 = .ok (.aload_n 0, 1) := fq1_42 (fl_X12_light_0 (j := 0) rfl rfl)
theorem dX12_light_1 : decode cX12_light 1 = .ok (.iload_n 1, 1) := fq1_27 (fl_X12_light_0 (j := 1) rfl rfl)
theorem dX12_light_2 : decode cX12_light 2 = .ok (.invokevirtual 243, 3) := fq3_182 (fl_X12_light_0 (j := 2) rfl rfl) (fl_X12_light_0 (j := 3) rfl rfl) (fl_X12_light_0 (j := 4) rfl rfl) rfl
theorem dX12_light_5 : decode cX12_light 5 = .ok (.ifCond .eq 42, 3) := fq3_153 (fl_X12_light_0 (j := 5) rfl rfl) (fl_X12_light_0 (j := 6) rfl rfl) (fl_X12_light_0 (j := 7) rfl rfl) (s2p rfl (bl rfl))
theorem dX12_light_8 : decode cX12_light 8 = .ok (.aload_n 0, 1) := fq1_42 (fl_X12_light_0 (j := 8) rfl rfl)
theorem dX12_light_9 : decode cX12_light 9 = .ok (.iload_n 3, 1) := fq1_29 (fl_X12_light_0 (j := 9) rfl rfl)
theorem dX12_light_10 : decode cX12_light 10 = .ok (.invokevirtual 243, 3) := fq3_182 (fl_X12_light_0 (j := 10) rfl rfl) (fl_X12_light_0 (j := 11) rfl rfl) (fl_X12_light_0 (j := 12) rfl rfl) rfl
theorem dX12_light_13 : decode cX12_light 13 = .ok (.ifCond .eq 34, 3) := fq3_153 (fl_X12_light_0 (j := 13) rfl rfl) (fl_X12_light_0 (j := 14) rfl rfl) (fl_X12_light_0 (j := 15) rfl rfl) (s2p rfl (bl rfl))
theorem dX12_light_16 : decode cX12_light 16 = .ok (.iload_n 2, 1) := fq1_28 (fl_X12_light_0 (j := 16) rfl rfl)
theorem dX12_light_17 : decode cX12_light 17 = .ok (.invokestatic 258, 3) := fq3_184 (fl_X12_light_0 (j := 17) rfl rfl) (fl_X12_light_0 (j := 18) rfl rfl) (fl_X12_light_0 (j := 19) rfl rfl) rfl
theorem dX12_light_20 : decode cX12_light 20 = .ok (.ifCond .eq 27, 3) := fq3_153 (fl_X12_light_0 (j := 20) rfl rfl) (fl_X12_light_0 (j := 21) rfl rfl) (fl_X12_light_0 (j := 22) rfl rfl) (s2p rfl (bl rfl))
theorem dX12_light_23 : decode cX12_light 23 = .ok (.iload 4, 2) := fq2_21 (fl_X12_light_0 (j := 23) rfl rfl) (fl_X12_light_0 (j := 24) rfl rfl) rfl
theorem dX12_light_25 : decode cX12_light 25 = .ok (.invokestatic 258, 3) := fq3_184 (fl_X12_light_0 (j := 25) rfl rfl) (fl_X12_light_0 (j := 26) rfl rfl) (fl_X12_light_0 (j := 27) rfl rfl) rfl
theorem dX12_light_28 : decode cX12_light 28 = .ok (.ifCond .eq 19, 3) := fq3_153 (fl_X12_light_0 (j := 28) rfl rfl) (fl_X12_light_0 (j := 29) rfl rfl) (fl_X12_light_0 (j := 30) rfl rfl) (s2p rfl (bl rfl))
theorem dX12_light_31 : decode cX12_light 31 = .ok (.aload_n 0, 1) := fq1_42 (fl_X12_light_0 (j := 31) rfl rfl)
theorem dX12_light_32 : decode cX12_light 32 = .ok (.aload_n 0, 1) := fq1_42 (fl_X12_light_0 (j := 32) rfl rfl)
theorem dX12_light_33 : decode cX12_light 33 = .ok (.iload_n 1, 1) := fq1_27 (fl_X12_light_0 (j := 33) rfl rfl)
theorem dX12_light_34 : decode cX12_light 34 = .ok (.iload_n 2, 1) := fq1_28 (fl_X12_light_0 (j := 34) rfl rfl)
theorem dX12_light_35 : decode cX12_light 35 = .ok (.iload_n 3, 1) := fq1_29 (fl_X12_light_0 (j := 35) rfl rfl)
theorem dX12_light_36 : decode cX12_light 36 = .ok (.iload 4, 2) := fq2_21 (fl_X12_light_0 (j := 36) rfl rfl) (fl_X12_light_0 (j := 37) rfl rfl) rfl
theorem dX12_light_38 : decode cX12_light 38 = .ok (.invokevirtual 261, 3) := fq3_182 (fl_X12_light_0 (j := 38) rfl rfl) (fl_X12_light_0 (j := 39) rfl rfl) (fl_X12_light_0 (j := 40) rfl rfl) rfl
theorem dX12_light_41 : decode cX12_light 41 = .ok (.invokevirtual 85, 3) := fq3_182 (fl_X12_light_0 (j := 41) rfl rfl) (fl_X12_light_0 (j := 42) rfl rfl) (fl_X12_light_0 (j := 43) rfl rfl) rfl
theorem dX12_light_44 : decode cX12_light 44 = .ok (.goto 8, 3) := fq3_167 (fl_X12_light_0 (j := 44) rfl rfl) (fl_X12_light_0 (j := 45) rfl rfl) (fl_X12_light_0 (j := 46) rfl rfl) (s2p rfl (bl rfl))
theorem dX12_light_47 : decode cX12_light 47 = .ok (.aload_n 0, 1) := fq1_42 (fl_X12_light_0 (j := 47) rfl rfl)
theorem dX12_light_48 : decode cX12_light 48 = .ok (.iconst 1, 1) := fq1_4 (fl_X12_light_0 (j := 48) rfl rfl)
theorem dX12_light_49 : decode cX12_light 49 = .ok (.invokevirtual 81, 3) := fq3_182 (fl_X12_light_0 (j := 49) rfl rfl) (fl_X12_light_0 (j := 50) rfl rfl) (fl_X12_light_0 (j := 51) rfl rfl) rfl
theorem dX12_light_52 : decode cX12_light 52 = .ok (.ireturn, 1) := fq1_172 (fl_X12_light_0 (j := 52) rfl rfl)
def fb_X12_market_0 : List UInt8 := [0x2a, 0x1b, 0xb6, 0x00, 0xf3, 0x99, 0x00, 0x0a, 0x1c, 0xb8, 0x01, 0x0c, 0x9a, 0x00, 0x09, 0x2a, 0x04, 0xb6, 0x00, 0x51, 0xac, 0x02, 0x3e, 0x03, 0x36, 0x04, 0x15, 0x04, 0x2a, 0xb4, 0x00, 0x07, 0x03, 0x2e, 0xa2, 0x00, 0x29, 0x15, 0x04, 0x1b, 0x9f, 0x00, 0x1d, 0x1d, 0x02, 0x9f, 0x00, 0x15, 0x2a, 0x1b, 0x1c, 0x15, 0x04, 0xb6, 0x01, 0x64, 0x2a, 0x1b, 0x1c, 0x1d, 0xb6, 0x01, 0x64, 0xa4]
theorem fl_X12_market_0 {p j : Nat} {b : UInt8} (e : p = 0 + j) (h : fb_X12_market_0[j]? = some b) : cX12_market.data.toList[p]? = some b := fq_l (n := 64) (show (cX12_market.data.toList.drop 0).take 64 = fb_X12_market_0 by decide +kernel) e h
theorem dX12_market_0 : decode cX12_market 0 = .ok (.aload_n 0, 1) := fq1_42 (fl_X12_market_0 (j := 0) rfl rfl)
theorem dX12_market_1 : decode cX12_market 1 = .ok (.iload_n 1, 1) := fq1_27 (fl_X12_market_0 (j := 1) rfl rfl)
theorem dX12_market_2 : decode cX12_market 2 = .ok (.invokevirtual 243, 3) := fq3_182 (fl_X12_market_0 (j := 2) rfl rfl) (fl_X12_market_0 (j := 3) rfl rfl) (fl_X12_market_0 (j := 4) rfl rfl) rfl
theorem dX12_market_5 : decode cX12_market 5 = .ok (.ifCond .eq 10, 3) := fq3_153 (fl_X12_market_0 (j := 5) rfl rfl) (fl_X12_market_0 (j := 6) rfl rfl) (fl_X12_market_0 (j := 7) rfl rfl) (s2p rfl (bl rfl))
theorem dX12_market_8 : decode cX12_market 8 = .ok (.iload_n 2, 1) := fq1_28 (fl_X12_market_0 (j := 8) rfl rfl)
theorem dX12_market_9 : decode cX12_market 9 = .ok (.invokestatic 268, 3) := fq3_184 (fl_X12_market_0 (j := 9) rfl rfl) (fl_X12_market_0 (j := 10) rfl rfl) (fl_X12_market_0 (j := 11) rfl rfl) rfl
theorem dX12_market_12 : decode cX12_market 12 = .ok (.ifCond .ne 9, 3) := fq3_154 (fl_X12_market_0 (j := 12) rfl rfl) (fl_X12_market_0 (j := 13) rfl rfl) (fl_X12_market_0 (j := 14) rfl rfl) (s2p rfl (bl rfl))
theorem dX12_market_15 : decode cX12_market 15 = .ok (.aload_n 0, 1) := fq1_42 (fl_X12_market_0 (j := 15) rfl rfl)
theorem dX12_market_16 : decode cX12_market 16 = .ok (.iconst 1, 1) := fq1_4 (fl_X12_market_0 (j := 16) rfl rfl)
theorem dX12_market_17 : decode cX12_market 17 = .ok (.invokevirtual 81, 3) := fq3_182 (fl_X12_market_0 (j := 17) rfl rfl) (fl_X12_market_0 (j := 18) rfl rfl) (fl_X12_market_0 (j := 19) rfl rfl) rfl
theorem dX12_market_20 : decode cX12_market 20 = .ok (.ireturn, 1) := fq1_172 (fl_X12_market_0 (j := 20) rfl rfl)
theorem dX12_market_21 : decode cX12_market 21 = .ok (.iconst (-1), 1) := fq1_2 (fl_X12_market_0 (j := 21) rfl rfl)
theorem dX12_market_22 : decode cX12_market 22 = .ok (.istore_n 3, 1) := fq1_62 (fl_X12_market_0 (j := 22) rfl rfl)
theorem dX12_market_23 : decode cX12_market 23 = .ok (.iconst 0, 1) := fq1_3 (fl_X12_market_0 (j := 23) rfl rfl)
theorem dX12_market_24 : decode cX12_market 24 = .ok (.istore 4, 2) := fq2_54 (fl_X12_market_0 (j := 24) rfl rfl) (fl_X12_market_0 (j := 25) rfl rfl) rfl
theorem dX12_market_26 : decode cX12_market 26 = .ok (.iload 4, 2) := fq2_21 (fl_X12_market_0 (j := 26) rfl rfl) (fl_X12_market_0 (j := 27) rfl rfl) rfl
theorem dX12_market_28 : decode cX12_market 28 = .ok (.aload_n 0, 1) := fq1_42 (fl_X12_market_0 (j := 28) rfl rfl)
theorem dX12_market_29 : decode cX12_market 29 = .ok (.getfield 7, 3) := fq3_180 (fl_X12_market_0 (j := 29) rfl rfl) (fl_X12_market_0 (j := 30) rfl rfl) (fl_X12_market_0 (j := 31) rfl rfl) rfl
theorem dX12_market_32 : decode cX12_market 32 = .ok (.iconst 0, 1) := fq1_3 (fl_X12_market_0 (j := 32) rfl rfl)
theorem dX12_market_33 : decode cX12_market 33 = .ok (.iaload, 1) := fq1_46 (fl_X12_market_0 (j := 33) rfl rfl)
theorem dX12_market_34 : decode cX12_market 34 = .ok (.if_icmp .ge 41, 3) := fq3_162 (fl_X12_market_0 (j := 34) rfl rfl) (fl_X12_market_0 (j := 35) rfl rfl) (fl_X12_market_0 (j := 36) rfl rfl) (s2p rfl (bl rfl))
theorem dX12_market_37 : decode cX12_market 37 = .ok (.iload 4, 2) := fq2_21 (fl_X12_market_0 (j := 37) rfl rfl) (fl_X12_market_0 (j := 38) rfl rfl) rfl
theorem dX12_market_39 : decode cX12_market 39 = .ok (.iload_n 1, 1) := fq1_27 (fl_X12_market_0 (j := 39) rfl rfl)
theorem dX12_market_40 : decode cX12_market 40 = .ok (.if_icmp .eq 29, 3) := fq3_159 (fl_X12_market_0 (j := 40) rfl rfl) (fl_X12_market_0 (j := 41) rfl rfl) (fl_X12_market_0 (j := 42) rfl rfl) (s2p rfl (bl rfl))
theorem dX12_market_43 : decode cX12_market 43 = .ok (.iload_n 3, 1) := fq1_29 (fl_X12_market_0 (j := 43) rfl rfl)
theorem dX12_market_44 : decode cX12_market 44 = .ok (.iconst (-1), 1) := fq1_2 (fl_X12_market_0 (j := 44) rfl rfl)
theorem dX12_market_45 : decode cX12_market 45 = .ok (.if_icmp .eq 21, 3) := fq3_159 (fl_X12_market_0 (j := 45) rfl rfl) (fl_X12_market_0 (j := 46) rfl rfl) (fl_X12_market_0 (j := 47) rfl rfl) (s2p rfl (bl rfl))
theorem dX12_market_48 : decode cX12_market 48 = .ok (.aload_n 0, 1) := fq1_42 (fl_X12_market_0 (j := 48) rfl rfl)
theorem dX12_market_49 : decode cX12_market 49 = .ok (.iload_n 1, 1) := fq1_27 (fl_X12_market_0 (j := 49) rfl rfl)
theorem dX12_market_50 : decode cX12_market 50 = .ok (.iload_n 2, 1) := fq1_28 (fl_X12_market_0 (j := 50) rfl rfl)
theorem dX12_market_51 : decode cX12_market 51 = .ok (.iload 4, 2) := fq2_21 (fl_X12_market_0 (j := 51) rfl rfl) (fl_X12_market_0 (j := 52) rfl rfl) rfl
theorem dX12_market_53 : decode cX12_market 53 = .ok (.invokevirtual 356, 3) := fq3_182 (fl_X12_market_0 (j := 53) rfl rfl) (fl_X12_market_0 (j := 54) rfl rfl) (fl_X12_market_0 (j := 55) rfl rfl) rfl
theorem dX12_market_56 : decode cX12_market 56 = .ok (.aload_n 0, 1) := fq1_42 (fl_X12_market_0 (j := 56) rfl rfl)
theorem dX12_market_57 : decode cX12_market 57 = .ok (.iload_n 1, 1) := fq1_27 (fl_X12_market_0 (j := 57) rfl rfl)
theorem dX12_market_58 : decode cX12_market 58 = .ok (.iload_n 2, 1) := fq1_28 (fl_X12_market_0 (j := 58) rfl rfl)
theorem dX12_market_59 : decode cX12_market 59 = .ok (.iload_n 3, 1) := fq1_29 (fl_X12_market_0 (j := 59) rfl rfl)
theorem dX12_market_60 : decode cX12_market 60 = .ok (.invokevirtual 356, 3) := fq3_182 (fl_X12_market_0 (j := 60) rfl rfl) (fl_X12_market_0 (j := 61) rfl rfl) (fl_X12_market_0 (j := 62) rfl rfl) rfl
def fb_X12_market_1 : List UInt8 := [0x00, 0x06, 0x15, 0x04, 0x3e, 0x84, 0x04, 0x01, 0xa7, 0xff, 0xd2, 0x2a, 0x1d, 0xb6, 0x01, 0x22, 0xac]
theorem fl_X12_market_1 {p j : Nat} {b : UInt8} (e : p = 64 + j) (h : fb_X12_market_1[j]? = some b) : cX12_market.data.toList[p]? = some b := fq_l (n := 64) (show (cX12_market.data.toList.drop 64).take 64 = fb_X12_market_1 by decide +kernel) e h
theorem dX12_market_63 : decode cX12_market 63 = .ok (.if_icmp .le 6, 3) := fq3_164 (fl_X12_market_0 (j := 63) rfl rfl) (fl_X12_market_1 (j := 0) rfl rfl) (fl_X12_market_1 (j := 1) rfl rfl) (s2p rfl (bl rfl))
theorem dX12_market_66 : decode cX12_market 66 = .ok (.iload 4, 2) := fq2_21 (fl_X12_market_1 (j := 2) rfl rfl) (fl_X12_market_1 (j := 3) rfl rfl) rfl
theorem dX12_market_68 : decode cX12_market 68 = .ok (.istore_n 3, 1) := fq1_62 (fl_X12_market_1 (j := 4) rfl rfl)
theorem dX12_market_69 : decode cX12_market 69 = .ok (.iinc 4 1, 3) := fq3_132 (fl_X12_market_1 (j := 5) rfl rfl) (fl_X12_market_1 (j := 6) rfl rfl) (fl_X12_market_1 (j := 7) rfl rfl) rfl (s1p rfl (bl rfl))
theorem dX12_market_72 : decode cX12_market 72 = .ok (.goto (-46), 3) := fq3_167 (fl_X12_market_1 (j := 8) rfl rfl) (fl_X12_market_1 (j := 9) rfl rfl) (fl_X12_market_1 (j := 10) rfl rfl) (by decide)
theorem dX12_market_75 : decode cX12_market 75 = .ok (.aload_n 0, 1) := fq1_42 (fl_X12_market_1 (j := 11) rfl rfl)
theorem dX12_market_76 : decode cX12_market 76 = .ok (.iload_n 3, 1) := fq1_29 (fl_X12_market_1 (j := 12) rfl rfl)
theorem dX12_market_77 : decode cX12_market 77 = .ok (.invokevirtual 290, 3) := fq3_182 (fl_X12_market_1 (j := 13) rfl rfl) (fl_X12_market_1 (j := 14) rfl rfl) (fl_X12_market_1 (j := 15) rfl rfl) rfl
theorem dX12_market_80 : decode cX12_market 80 = .ok (.ireturn, 1) := fq1_172 (fl_X12_market_1 (j := 16) rfl rfl)
def fb_X12_meetings_0 : List UInt8 := [0x2a, 0x1b, 0x1c, 0xb6, 0x01, 0x09, 0x99, 0x00, 0x18, 0x1d, 0xb8, 0x01, 0x0c, 0x99, 0x00, 0x11, 0x15, 0x04, 0xb8, 0x01, 0x0c, 0x99, 0x00, 0x09, 0x15, 0x04, 0x1d, 0xa2, 0x00, 0x09, 0x2a, 0x04, 0xb6, 0x00, 0x51, 0xac, 0x03, 0x36, 0x05, 0x1d, 0x36, 0x06, 0x15, 0x06, 0x15, 0x04, 0xa3, 0x00, 0x24, 0x15, 0x05, 0x2a, 0x1b, 0x15, 0x06, 0xb6, 0x00, 0xf9, 0x2a, 0x1c, 0x15, 0x06, 0xb6, 0x00]
theorem fl_X12_meetings_0 {p j : Nat} {b : UInt8} (e : p = 0 + j) (h : fb_X12_meetings_0[j]? = some b) : cX12_meetings.data.toList[p]? = some b := fq_l (n := 64) (show (cX12_meetings.data.toList.drop 0).take 64 = fb_X12_meetings_0 by decide +kernel) e h
theorem dX12_meetings_0 : decode cX12_meetings 0 = .ok (.aload_n 0, 1) := fq1_42 (fl_X12_meetings_0 (j := 0) rfl rfl)
theorem dX12_meetings_1 : decode cX12_meetings 1 = .ok (.iload_n 1, 1) := fq1_27 (fl_X12_meetings_0 (j := 1) rfl rfl)
theorem dX12_meetings_2 : decode cX12_meetings 2 = .ok (.iload_n 2, 1) := fq1_28 (fl_X12_meetings_0 (j := 2) rfl rfl)
theorem dX12_meetings_3 : decode cX12_meetings 3 = .ok (.invokevirtual 265, 3) := fq3_182 (fl_X12_meetings_0 (j := 3) rfl rfl) (fl_X12_meetings_0 (j := 4) rfl rfl) (fl_X12_meetings_0 (j := 5) rfl rfl) rfl
theorem dX12_meetings_6 : decode cX12_meetings 6 = .ok (.ifCond .eq 24, 3) := fq3_153 (fl_X12_meetings_0 (j := 6) rfl rfl) (fl_X12_meetings_0 (j := 7) rfl rfl) (fl_X12_meetings_0 (j := 8) rfl rfl) (s2p rfl (bl rfl))
theorem dX12_meetings_9 : decode cX12_meetings 9 = .ok (.iload_n 3, 1) := fq1_29 (fl_X12_meetings_0 (j := 9) rfl rfl)
theorem dX12_meetings_10 : decode cX12_meetings 10 = .ok (.invokestatic 268, 3) := fq3_184 (fl_X12_meetings_0 (j := 10) rfl rfl) (fl_X12_meetings_0 (j := 11) rfl rfl) (fl_X12_meetings_0 (j := 12) rfl rfl) rfl
theorem dX12_meetings_13 : decode cX12_meetings 13 = .ok (.ifCond .eq 17, 3) := fq3_153 (fl_X12_meetings_0 (j := 13) rfl rfl) (fl_X12_meetings_0 (j := 14) rfl rfl) (fl_X12_meetings_0 (j := 15) rfl rfl) (s2p rfl (bl rfl))
theorem dX12_meetings_16 : decode cX12_meetings 16 = .ok (.iload 4, 2) := fq2_21 (fl_X12_meetings_0 (j := 16) rfl rfl) (fl_X12_meetings_0 (j := 17) rfl rfl) rfl
theorem dX12_meetings_18 : decode cX12_meetings 18 = .ok (.invokestatic 268, 3) := fq3_184 (fl_X12_meetings_0 (j := 18) rfl rfl) (fl_X12_meetings_0 (j := 19) rfl rfl) (fl_X12_meetings_0 (j := 20) rfl rfl) rfl
theorem dX12_meetings_21 : decode cX12_meetings 21 = .ok (.ifCond .eq 9, 3) := fq3_153 (fl_X12_meetings_0 (j := 21) rfl rfl) (fl_X12_meetings_0 (j := 22) rfl rfl) (fl_X12_meetings_0 (j := 23) rfl rfl) (s2p rfl (bl rfl))
theorem dX12_meetings_24 : decode cX12_meetings 24 = .ok (.iload 4, 2) := fq2_21 (fl_X12_meetings_0 (j := 24) rfl rfl) (fl_X12_meetings_0 (j := 25) rfl rfl) rfl
theorem dX12_meetings_26 : decode cX12_meetings 26 = .ok (.iload_n 3, 1) := fq1_29 (fl_X12_meetings_0 (j := 26) rfl rfl)
theorem dX12_meetings_27 : decode cX12_meetings 27 = .ok (.if_icmp .ge 9, 3) := fq3_162 (fl_X12_meetings_0 (j := 27) rfl rfl) (fl_X12_meetings_0 (j := 28) rfl rfl) (fl_X12_meetings_0 (j := 29) rfl rfl) (s2p rfl (bl rfl))
theorem dX12_meetings_30 : decode cX12_meetings 30 = .ok (.aload_n 0, 1) := fq1_42 (fl_X12_meetings_0 (j := 30) rfl rfl)
theorem dX12_meetings_31 : decode cX12_meetings 31 = .ok (.iconst 1, 1) := fq1_4 (fl_X12_meetings_0 (j := 31) rfl rfl)
theorem dX12_meetings_32 : decode cX12_meetings 32 = .ok (.invokevirtual 81, 3) := fq3_182 (fl_X12_meetings_0 (j := 32) rfl rfl) (fl_X12_meetings_0 (j := 33) rfl rfl) (fl_X12_meetings_0 (j := 34) rfl rfl) rfl
theorem dX12_meetings_35 : decode cX12_meetings 35 = .ok (.ireturn, 1) := fq1_172 (fl_X12_meetings_0 (j := 35) rfl rfl)
theorem dX12_meetings_36 : decode cX12_meetings 36 = .ok (.iconst 0, 1) := fq1_3 (fl_X12_meetings_0 (j := 36) rfl rfl)
theorem dX12_meetings_37 : decode cX12_meetings 37 = .ok (.istore 5, 2) := fq2_54 (fl_X12_meetings_0 (j := 37) rfl rfl) (fl_X12_meetings_0 (j := 38) rfl rfl) rfl
theorem dX12_meetings_39 : decode cX12_meetings 39 = .ok (.iload_n 3, 1) := fq1_29 (fl_X12_meetings_0 (j := 39) rfl rfl)
theorem dX12_meetings_40 : decode cX12_meetings 40 = .ok (.istore 6, 2) := fq2_54 (fl_X12_meetings_0 (j := 40) rfl rfl) (fl_X12_meetings_0 (j := 41) rfl rfl) rfl
theorem dX12_meetings_42 : decode cX12_meetings 42 = .ok (.iload 6, 2) := fq2_21 (fl_X12_meetings_0 (j := 42) rfl rfl) (fl_X12_meetings_0 (j := 43) rfl rfl) rfl
theorem dX12_meetings_44 : decode cX12_meetings 44 = .ok (.iload 4, 2) := fq2_21 (fl_X12_meetings_0 (j := 44) rfl rfl) (fl_X12_meetings_0 (j := 45) rfl rfl) rfl
theorem dX12_meetings_46 : decode cX12_meetings 46 = .ok (.if_icmp .gt 36, 3) := fq3_163 (fl_X12_meetings_0 (j := 46) rfl rfl) (fl_X12_meetings_0 (j := 47) rfl rfl) (fl_X12_meetings_0 (j := 48) rfl rfl) (s2p rfl (bl rfl))
theorem dX12_meetings_49 : decode cX12_meetings 49 = .ok (.iload 5, 2) := fq2_21 (fl_X12_meetings_0 (j := 49) rfl rfl) (fl_X12_meetings_0 (j := 50) rfl rfl) rfl
theorem dX12_meetings_51 : decode cX12_meetings 51 = .ok (.aload_n 0, 1) := fq1_42 (fl_X12_meetings_0 (j := 51) rfl rfl)
theorem dX12_meetings_52 : decode cX12_meetings 52 = .ok (.iload_n 1, 1) := fq1_27 (fl_X12_meetings_0 (j := 52) rfl rfl)
theorem dX12_meetings_53 : decode cX12_meetings 53 = .ok (.iload 6, 2) := fq2_21 (fl_X12_meetings_0 (j := 53) rfl rfl) (fl_X12_meetings_0 (j := 54) rfl rfl) rfl
theorem dX12_meetings_55 : decode cX12_meetings 55 = .ok (.invokevirtual 249, 3) := fq3_182 (fl_X12_meetings_0 (j := 55) rfl rfl) (fl_X12_meetings_0 (j := 56) rfl rfl) (fl_X12_meetings_0 (j := 57) rfl rfl) rfl
theorem dX12_meetings_58 : decode cX12_meetings 58 = .ok (.aload_n 0, 1) := fq1_42 (fl_X12_meetings_0 (j := 58) rfl rfl)
theorem dX12_meetings_59 : decode cX12_meetings 59 = .ok (.iload_n 2, 1) := fq1_28 (fl_X12_meetings_0 (j := 59) rfl rfl)
theorem dX12_meetings_60 : decode cX12_meetings 60 = .ok (.iload 6, 2) := fq2_21 (fl_X12_meetings_0 (j := 60) rfl rfl) (fl_X12_meetings_0 (j := 61) rfl rfl) rfl
def fb_X12_meetings_1 : List UInt8 := [0xf9, 0xa0, 0x00, 0x07, 0x04, 0xa7, 0x00, 0x04, 0x03, 0x60, 0x36, 0x05, 0x84, 0x06, 0x01, 0xa7, 0xff, 0xdb, 0x2a, 0x15, 0x05, 0xb6, 0x00, 0x55, 0xac]
theorem fl_X12_meetings_1 {p j : Nat} {b : UInt8} (e : p = 64 + j) (h : fb_X12_meetings_1[j]? = some b) : cX12_meetings.data.toList[p]? = some b := fq_l (n := 64) (show (cX12_meetings.data.toList.drop 64).take 64 = fb_X12_meetings_1 by decide +kernel) e h
theorem dX12_meetings_62 : decode cX12_meetings 62 = .ok (.invokevirtual 249, 3) := fq3_182 (fl_X12_meetings_0 (j := 62) rfl rfl) (fl_X12_meetings_0 (j := 63) rfl rfl) (fl_X12_meetings_1 (j := 0) rfl rfl) rfl
theorem dX12_meetings_65 : decode cX12_meetings 65 = .ok (.if_icmp .ne 7, 3) := fq3_160 (fl_X12_meetings_1 (j := 1) rfl rfl) (fl_X12_meetings_1 (j := 2) rfl rfl) (fl_X12_meetings_1 (j := 3) rfl rfl) (s2p rfl (bl rfl))
theorem dX12_meetings_68 : decode cX12_meetings 68 = .ok (.iconst 1, 1) := fq1_4 (fl_X12_meetings_1 (j := 4) rfl rfl)
theorem dX12_meetings_69 : decode cX12_meetings 69 = .ok (.goto 4, 3) := fq3_167 (fl_X12_meetings_1 (j := 5) rfl rfl) (fl_X12_meetings_1 (j := 6) rfl rfl) (fl_X12_meetings_1 (j := 7) rfl rfl) (s2p rfl (bl rfl))
theorem dX12_meetings_72 : decode cX12_meetings 72 = .ok (.iconst 0, 1) := fq1_3 (fl_X12_meetings_1 (j := 8) rfl rfl)
theorem dX12_meetings_73 : decode cX12_meetings 73 = .ok (.iadd, 1) := fq1_96 (fl_X12_meetings_1 (j := 9) rfl rfl)
theorem dX12_meetings_74 : decode cX12_meetings 74 = .ok (.istore 5, 2) := fq2_54 (fl_X12_meetings_1 (j := 10) rfl rfl) (fl_X12_meetings_1 (j := 11) rfl rfl) rfl
theorem dX12_meetings_76 : decode cX12_meetings 76 = .ok (.iinc 6 1, 3) := fq3_132 (fl_X12_meetings_1 (j := 12) rfl rfl) (fl_X12_meetings_1 (j := 13) rfl rfl) (fl_X12_meetings_1 (j := 14) rfl rfl) rfl (s1p rfl (bl rfl))
theorem dX12_meetings_79 : decode cX12_meetings 79 = .ok (.goto (-37), 3) := fq3_167 (fl_X12_meetings_1 (j := 15) rfl rfl) (fl_X12_meetings_1 (j := 16) rfl rfl) (fl_X12_meetings_1 (j := 17) rfl rfl) (by decide)
theorem dX12_meetings_82 : decode cX12_meetings 82 = .ok (.aload_n 0, 1) := fq1_42 (fl_X12_meetings_1 (j := 18) rfl rfl)
theorem dX12_meetings_83 : decode cX12_meetings 83 = .ok (.iload 5, 2) := fq2_21 (fl_X12_meetings_1 (j := 19) rfl rfl) (fl_X12_meetings_1 (j := 20) rfl rfl) rfl
theorem dX12_meetings_85 : decode cX12_meetings 85 = .ok (.invokevirtual 85, 3) := fq3_182 (fl_X12_meetings_1 (j := 21) rfl rfl) (fl_X12_meetings_1 (j := 22) rfl rfl) (fl_X12_meetings_1 (j := 23) rfl rfl) rfl
theorem dX12_meetings_88 : decode cX12_meetings 88 = .ok (.ireturn, 1) := fq1_172 (fl_X12_meetings_1 (j := 24) rfl rfl)
def fb_X12_nearest_0 : List UInt8 := [0x2a, 0x1b, 0xb6, 0x00, 0xf3, 0x99, 0x00, 0x0a, 0x1c, 0xb8, 0x01, 0x0c, 0x9a, 0x00, 0x09, 0x2a, 0x04, 0xb6, 0x00, 0x51, 0xac, 0x02, 0x3e, 0x03, 0x36, 0x04, 0x15, 0x04, 0x2a, 0xb4, 0x00, 0x07, 0x03, 0x2e, 0xa2, 0x00, 0x2b, 0x15, 0x04, 0x1b, 0x9f, 0x00, 0x1f, 0x1d, 0x02, 0x9f, 0x00, 0x17, 0x2a, 0x1b, 0x1c, 0x15, 0x04, 0x1c, 0xb6, 0x01, 0x05, 0x2a, 0x1b, 0x1c, 0x1d, 0x1c, 0xb6, 0x01]
theorem fl_X12_nearest_0 {p j : Nat} {b : UInt8} (e : p = 0 + j) (h : fb_X12_nearest_0[j]? = some b) : cX12_nearest.data.toList[p]? = some b := fq_l (n := 64) (show (cX12_nearest.data.toList.drop 0).take 64 = fb_X12_nearest_0 by decide +kernel) e h
theorem dX12_nearest_0 : decode cX12_nearest 0 = .ok (.aload_n 0, 1) := fq1_42 (fl_X12_nearest_0 (j := 0) rfl rfl)
theorem dX12_nearest_1 : decode cX12_nearest 1 = .ok (.iload_n 1, 1) := fq1_27 (fl_X12_nearest_0 (j := 1) rfl rfl)
theorem dX12_nearest_2 : decode cX12_nearest 2 = .ok (.invokevirtual 243, 3) := fq3_182 (fl_X12_nearest_0 (j := 2) rfl rfl) (fl_X12_nearest_0 (j := 3) rfl rfl) (fl_X12_nearest_0 (j := 4) rfl rfl) rfl
theorem dX12_nearest_5 : decode cX12_nearest 5 = .ok (.ifCond .eq 10, 3) := fq3_153 (fl_X12_nearest_0 (j := 5) rfl rfl) (fl_X12_nearest_0 (j := 6) rfl rfl) (fl_X12_nearest_0 (j := 7) rfl rfl) (s2p rfl (bl rfl))
theorem dX12_nearest_8 : decode cX12_nearest 8 = .ok (.iload_n 2, 1) := fq1_28 (fl_X12_nearest_0 (j := 8) rfl rfl)
theorem dX12_nearest_9 : decode cX12_nearest 9 = .ok (.invokestatic 268, 3) := fq3_184 (fl_X12_nearest_0 (j := 9) rfl rfl) (fl_X12_nearest_0 (j := 10) rfl rfl) (fl_X12_nearest_0 (j := 11) rfl rfl) rfl
theorem dX12_nearest_12 : decode cX12_nearest 12 = .ok (.ifCond .ne 9, 3) := fq3_154 (fl_X12_nearest_0 (j := 12) rfl rfl) (fl_X12_nearest_0 (j := 13) rfl rfl) (fl_X12_nearest_0 (j := 14) rfl rfl) (s2p rfl (bl rfl))
theorem dX12_nearest_15 : decode cX12_nearest 15 = .ok (.aload_n 0, 1) := fq1_42 (fl_X12_nearest_0 (j := 15) rfl rfl)
theorem dX12_nearest_16 : decode cX12_nearest 16 = .ok (.iconst 1, 1) := fq1_4 (fl_X12_nearest_0 (j := 16) rfl rfl)
theorem dX12_nearest_17 : decode cX12_nearest 17 = .ok (.invokevirtual 81, 3) := fq3_182 (fl_X12_nearest_0 (j := 17) rfl rfl) (fl_X12_nearest_0 (j := 18) rfl rfl) (fl_X12_nearest_0 (j := 19) rfl rfl) rfl
theorem dX12_nearest_20 : decode cX12_nearest 20 = .ok (.ireturn, 1) := fq1_172 (fl_X12_nearest_0 (j := 20) rfl rfl)
theorem dX12_nearest_21 : decode cX12_nearest 21 = .ok (.iconst (-1), 1) := fq1_2 (fl_X12_nearest_0 (j := 21) rfl rfl)
theorem dX12_nearest_22 : decode cX12_nearest 22 = .ok (.istore_n 3, 1) := fq1_62 (fl_X12_nearest_0 (j := 22) rfl rfl)
theorem dX12_nearest_23 : decode cX12_nearest 23 = .ok (.iconst 0, 1) := fq1_3 (fl_X12_nearest_0 (j := 23) rfl rfl)
theorem dX12_nearest_24 : decode cX12_nearest 24 = .ok (.istore 4, 2) := fq2_54 (fl_X12_nearest_0 (j := 24) rfl rfl) (fl_X12_nearest_0 (j := 25) rfl rfl) rfl
theorem dX12_nearest_26 : decode cX12_nearest 26 = .ok (.iload 4, 2) := fq2_21 (fl_X12_nearest_0 (j := 26) rfl rfl) (fl_X12_nearest_0 (j := 27) rfl rfl) rfl
theorem dX12_nearest_28 : decode cX12_nearest 28 = .ok (.aload_n 0, 1) := fq1_42 (fl_X12_nearest_0 (j := 28) rfl rfl)
theorem dX12_nearest_29 : decode cX12_nearest 29 = .ok (.getfield 7, 3) := fq3_180 (fl_X12_nearest_0 (j := 29) rfl rfl) (fl_X12_nearest_0 (j := 30) rfl rfl) (fl_X12_nearest_0 (j := 31) rfl rfl) rfl
theorem dX12_nearest_32 : decode cX12_nearest 32 = .ok (.iconst 0, 1) := fq1_3 (fl_X12_nearest_0 (j := 32) rfl rfl)
theorem dX12_nearest_33 : decode cX12_nearest 33 = .ok (.iaload, 1) := fq1_46 (fl_X12_nearest_0 (j := 33) rfl rfl)
theorem dX12_nearest_34 : decode cX12_nearest 34 = .ok (.if_icmp .ge 43, 3) := fq3_162 (fl_X12_nearest_0 (j := 34) rfl rfl) (fl_X12_nearest_0 (j := 35) rfl rfl) (fl_X12_nearest_0 (j := 36) rfl rfl) (s2p rfl (bl rfl))
theorem dX12_nearest_37 : decode cX12_nearest 37 = .ok (.iload 4, 2) := fq2_21 (fl_X12_nearest_0 (j := 37) rfl rfl) (fl_X12_nearest_0 (j := 38) rfl rfl) rfl
theorem dX12_nearest_39 : decode cX12_nearest 39 = .ok (.iload_n 1, 1) := fq1_27 (fl_X12_nearest_0 (j := 39) rfl rfl)
theorem dX12_nearest_40 : decode cX12_nearest 40 = .ok (.if_icmp .eq 31, 3) := fq3_159 (fl_X12_nearest_0 (j := 40) rfl rfl) (fl_X12_nearest_0 (j := 41) rfl rfl) (fl_X12_nearest_0 (j := 42) rfl rfl) (s2p rfl (bl rfl))
theorem dX12_nearest_43 : decode cX12_nearest 43 = .ok (.iload_n 3, 1) := fq1_29 (fl_X12_nearest_0 (j := 43) rfl rfl)
theorem dX12_nearest_44 : decode cX12_nearest 44 = .ok (.iconst (-1), 1) := fq1_2 (fl_X12_nearest_0 (j := 44) rfl rfl)
theorem dX12_nearest_45 : decode cX12_nearest 45 = .ok (.if_icmp .eq 23, 3) := fq3_159 (fl_X12_nearest_0 (j := 45) rfl rfl) (fl_X12_nearest_0 (j := 46) rfl rfl) (fl_X12_nearest_0 (j := 47) rfl rfl) (s2p rfl (bl rfl))
theorem dX12_nearest_48 : decode cX12_nearest 48 = .ok (.aload_n 0, 1) := fq1_42 (fl_X12_nearest_0 (j := 48) rfl rfl)
theorem dX12_nearest_49 : decode cX12_nearest 49 = .ok (.iload_n 1, 1) := fq1_27 (fl_X12_nearest_0 (j := 49) rfl rfl)
theorem dX12_nearest_50 : decode cX12_nearest 50 = .ok (.iload_n 2, 1) := fq1_28 (fl_X12_nearest_0 (j := 50) rfl rfl)
theorem dX12_nearest_51 : decode cX12_nearest 51 = .ok (.iload 4, 2) := fq2_21 (fl_X12_nearest_0 (j := 51) rfl rfl) (fl_X12_nearest_0 (j := 52) rfl rfl) rfl
theorem dX12_nearest_53 : decode cX12_nearest 53 = .ok (.iload_n 2, 1) := fq1_28 (fl_X12_nearest_0 (j := 53) rfl rfl)
theorem dX12_nearest_54 : decode cX12_nearest 54 = .ok (.invokevirtual 261, 3) := fq3_182 (fl_X12_nearest_0 (j := 54) rfl rfl) (fl_X12_nearest_0 (j := 55) rfl rfl) (fl_X12_nearest_0 (j := 56) rfl rfl) rfl
theorem dX12_nearest_57 : decode cX12_nearest 57 = .ok (.aload_n 0, 1) := fq1_42 (fl_X12_nearest_0 (j := 57) rfl rfl)
theorem dX12_nearest_58 : decode cX12_nearest 58 = .ok (.iload_n 1, 1) := fq1_27 (fl_X12_nearest_0 (j := 58) rfl rfl)
theorem dX12_nearest_59 : decode cX12_nearest 59 = .ok (.iload_n 2, 1) := fq1_28 (fl_X12_nearest_0 (j := 59) rfl rfl)
theorem dX12_nearest_60 : decode cX12_nearest 60 = .ok (.iload_n 3, 1) := fq1_29 (fl_X12_nearest_0 (j := 60) rfl rfl)
theorem dX12_nearest_61 : decode cX12_nearest 61 = .ok (.iload_n 2, 1) := fq1_28 (fl_X12_nearest_0 (j := 61) rfl rfl)
def fb_X12_nearest_1 : List UInt8 := [0x05, 0xa2, 0x00, 0x06, 0x15, 0x04, 0x3e, 0x84, 0x04, 0x01, 0xa7, 0xff, 0xd0, 0x2a, 0x1d, 0xb6, 0x01, 0x22, 0xac]
theorem fl_X12_nearest_1 {p j : Nat} {b : UInt8} (e : p = 64 + j) (h : fb_X12_nearest_1[j]? = some b) : cX12_nearest.data.toList[p]? = some b := fq_l (n := 64) (show (cX12_nearest.data.toList.drop 64).take 64 = fb_X12_nearest_1 by decide +kernel) e h
theorem dX12_nearest_62 : decode cX12_nearest 62 = .ok (.invokevirtual 261, 3) := fq3_182 (fl_X12_nearest_0 (j := 62) rfl rfl) (fl_X12_nearest_0 (j := 63) rfl rfl) (fl_X12_nearest_1 (j := 0) rfl rfl) rfl
theorem dX12_nearest_65 : decode cX12_nearest 65 = .ok (.if_icmp .ge 6, 3) := fq3_162 (fl_X12_nearest_1 (j := 1) rfl rfl) (fl_X12_nearest_1 (j := 2) rfl rfl) (fl_X12_nearest_1 (j := 3) rfl rfl) (s2p rfl (bl rfl))
theorem dX12_nearest_68 : decode cX12_nearest 68 = .ok (.iload 4, 2) := fq2_21 (fl_X12_nearest_1 (j := 4) rfl rfl) (fl_X12_nearest_1 (j := 5) rfl rfl) rfl
theorem dX12_nearest_70 : decode cX12_nearest 70 = .ok (.istore_n 3, 1) := fq1_62 (fl_X12_nearest_1 (j := 6) rfl rfl)
theorem dX12_nearest_71 : decode cX12_nearest 71 = .ok (.iinc 4 1, 3) := fq3_132 (fl_X12_nearest_1 (j := 7) rfl rfl) (fl_X12_nearest_1 (j := 8) rfl rfl) (fl_X12_nearest_1 (j := 9) rfl rfl) rfl (s1p rfl (bl rfl))
theorem dX12_nearest_74 : decode cX12_nearest 74 = .ok (.goto (-48), 3) := fq3_167 (fl_X12_nearest_1 (j := 10) rfl rfl) (fl_X12_nearest_1 (j := 11) rfl rfl) (fl_X12_nearest_1 (j := 12) rfl rfl) (by decide)
theorem dX12_nearest_77 : decode cX12_nearest 77 = .ok (.aload_n 0, 1) := fq1_42 (fl_X12_nearest_1 (j := 13) rfl rfl)
theorem dX12_nearest_78 : decode cX12_nearest 78 = .ok (.iload_n 3, 1) := fq1_29 (fl_X12_nearest_1 (j := 14) rfl rfl)
theorem dX12_nearest_79 : decode cX12_nearest 79 = .ok (.invokevirtual 290, 3) := fq3_182 (fl_X12_nearest_1 (j := 15) rfl rfl) (fl_X12_nearest_1 (j := 16) rfl rfl) (fl_X12_nearest_1 (j := 17) rfl rfl) rfl
theorem dX12_nearest_82 : decode cX12_nearest 82 = .ok (.ireturn, 1) := fq1_172 (fl_X12_nearest_1 (j := 18) rfl rfl)
def fb_X12_orNever_0 : List UInt8 := [0x1b, 0x12, 0x58, 0xa1, 0x00, 0x0c, 0x2a, 0x10, 0x06, 0xb6, 0x00, 0x51, 0xa7, 0x00, 0x08, 0x2a, 0x1b, 0xb6, 0x00, 0x55, 0xac]
theorem fl_X12_orNever_0 {p j : Nat} {b : UInt8} (e : p = 0 + j) (h : fb_X12_orNever_0[j]? = some b) : cX12_orNever.data.toList[p]? = some b := fq_l (n := 64) (show (cX12_orNever.data.toList.drop 0).take 64 = fb_X12_orNever_0 by decide +kernel) e h
theorem dX12_orNever_0 : decode cX12_orNever 0 = .ok (.iload_n 1, 1) := fq1_27 (fl_X12_orNever_0 (j := 0) rfl rfl)
theorem dX12_orNever_1 : decode cX12_orNever 1 = .ok (.ldc 88, 2) := fq2_18 (fl_X12_orNever_0 (j := 1) rfl rfl) (fl_X12_orNever_0 (j := 2) rfl rfl) rfl
theorem dX12_orNever_3 : decode cX12_orNever 3 = .ok (.if_icmp .lt 12, 3) := fq3_161 (fl_X12_orNever_0 (j := 3) rfl rfl) (fl_X12_orNever_0 (j := 4) rfl rfl) (fl_X12_orNever_0 (j := 5) rfl rfl) (s2p rfl (bl rfl))
theorem dX12_orNever_6 : decode cX12_orNever 6 = .ok (.aload_n 0, 1) := fq1_42 (fl_X12_orNever_0 (j := 6) rfl rfl)
theorem dX12_orNever_7 : decode cX12_orNever 7 = .ok (.bipush 6, 2) := fq2_16 (fl_X12_orNever_0 (j := 7) rfl rfl) (fl_X12_orNever_0 (j := 8) rfl rfl) (s1p rfl (bl rfl))
theorem dX12_orNever_9 : decode cX12_orNever 9 = .ok (.invokevirtual 81, 3) := fq3_182 (fl_X12_orNever_0 (j := 9) rfl rfl) (fl_X12_orNever_0 (j := 10) rfl rfl) (fl_X12_orNever_0 (j := 11) rfl rfl) rfl
theorem dX12_orNever_12 : decode cX12_orNever 12 = .ok (.goto 8, 3) := fq3_167 (fl_X12_orNever_0 (j := 12) rfl rfl) (fl_X12_orNever_0 (j := 13) rfl rfl) (fl_X12_orNever_0 (j := 14) rfl rfl) (s2p rfl (bl rfl))
theorem dX12_orNever_15 : decode cX12_orNever 15 = .ok (.aload_n 0, 1) := fq1_42 (fl_X12_orNever_0 (j := 15) rfl rfl)
theorem dX12_orNever_16 : decode cX12_orNever 16 = .ok (.iload_n 1, 1) := fq1_27 (fl_X12_orNever_0 (j := 16) rfl rfl)
theorem dX12_orNever_17 : decode cX12_orNever 17 = .ok (.invokevirtual 85, 3) := fq3_182 (fl_X12_orNever_0 (j := 17) rfl rfl) (fl_X12_orNever_0 (j := 18) rfl rfl) (fl_X12_orNever_0 (j := 19) rfl rfl) rfl
theorem dX12_orNever_20 : decode cX12_orNever 20 = .ok (.ireturn, 1) := fq1_172 (fl_X12_orNever_0 (j := 20) rfl rfl)
def fb_X12_orNone_0 : List UInt8 := [0x1b, 0x02, 0xa0, 0x00, 0x0c, 0x2a, 0x10, 0x06, 0xb6, 0x00, 0x51, 0xa7, 0x00, 0x08, 0x2a, 0x1b, 0xb6, 0x00, 0x55, 0xac]
theorem fl_X12_orNone_0 {p j : Nat} {b : UInt8} (e : p = 0 + j) (h : fb_X12_orNone_0[j]? = some b) : cX12_orNone.data.toList[p]? = some b := fq_l (n := 64) (show (cX12_orNone.data.toList.drop 0).take 64 = fb_X12_orNone_0 by decide +kernel) e h
theorem dX12_orNone_0 : decode cX12_orNone 0 = .ok (.iload_n 1, 1) := fq1_27 (fl_X12_orNone_0 (j := 0) rfl rfl)
theorem dX12_orNone_1 : decode cX12_orNone 1 = .ok (.iconst (-1), 1) := fq1_2 (fl_X12_orNone_0 (j := 1) rfl rfl)
theorem dX12_orNone_2 : decode cX12_orNone 2 = .ok (.if_icmp .ne 12, 3) := fq3_160 (fl_X12_orNone_0 (j := 2) rfl rfl) (fl_X12_orNone_0 (j := 3) rfl rfl) (fl_X12_orNone_0 (j := 4) rfl rfl) (s2p rfl (bl rfl))
theorem dX12_orNone_5 : decode cX12_orNone 5 = .ok (.aload_n 0, 1) := fq1_42 (fl_X12_orNone_0 (j := 5) rfl rfl)
theorem dX12_orNone_6 : decode cX12_orNone 6 = .ok (.bipush 6, 2) := fq2_16 (fl_X12_orNone_0 (j := 6) rfl rfl) (fl_X12_orNone_0 (j := 7) rfl rfl) (s1p rfl (bl rfl))
theorem dX12_orNone_8 : decode cX12_orNone 8 = .ok (.invokevirtual 81, 3) := fq3_182 (fl_X12_orNone_0 (j := 8) rfl rfl) (fl_X12_orNone_0 (j := 9) rfl rfl) (fl_X12_orNone_0 (j := 10) rfl rfl) rfl
theorem dX12_orNone_11 : decode cX12_orNone 11 = .ok (.goto 8, 3) := fq3_167 (fl_X12_orNone_0 (j := 11) rfl rfl) (fl_X12_orNone_0 (j := 12) rfl rfl) (fl_X12_orNone_0 (j := 13) rfl rfl) (s2p rfl (bl rfl))
theorem dX12_orNone_14 : decode cX12_orNone 14 = .ok (.aload_n 0, 1) := fq1_42 (fl_X12_orNone_0 (j := 14) rfl rfl)
theorem dX12_orNone_15 : decode cX12_orNone 15 = .ok (.iload_n 1, 1) := fq1_27 (fl_X12_orNone_0 (j := 15) rfl rfl)
theorem dX12_orNone_16 : decode cX12_orNone 16 = .ok (.invokevirtual 85, 3) := fq3_182 (fl_X12_orNone_0 (j := 16) rfl rfl) (fl_X12_orNone_0 (j := 17) rfl rfl) (fl_X12_orNone_0 (j := 18) rfl rfl) rfl
theorem dX12_orNone_19 : decode cX12_orNone 19 = .ok (.ireturn, 1) := fq1_172 (fl_X12_orNone_0 (j := 19) rfl rfl)
def fb_X12_price_0 : List UInt8 := [0x2a, 0x1b, 0xb6, 0x00, 0xf3, 0x99, 0x00, 0x17, 0x1c, 0xb8, 0x01, 0x02, 0x99, 0x00, 0x10, 0x2a, 0x2a, 0x1b, 0x1c, 0xb6, 0x01, 0x61, 0xb6, 0x00, 0x55, 0xa7, 0x00, 0x08, 0x2a, 0x04, 0xb6, 0x00, 0x51, 0xac]
theorem fl_X12_price_0 {p j : Nat} {b : UInt8} (e : p = 0 + j) (h : fb_X12_price_0[j]? = some b) : cX12_price.data.toList[p]? = some b := fq_l (n := 64) (show (cX12_price.data.toList.drop 0).take 64 = fb_X12_price_0 by decide +kernel) e h
theorem dX12_price_0 : decode cX12_price 0 = .ok (.aload_n 0, 1) := fq1_42 (fl_X12_price_0 (j := 0) rfl rfl)
theorem dX12_price_1 : decode cX12_price 1 = .ok (.iload_n 1, 1) := fq1_27 (fl_X12_price_0 (j := 1) rfl rfl)
theorem dX12_price_2 : decode cX12_price 2 = .ok (.invokevirtual 243, 3) := fq3_182 (fl_X12_price_0 (j := 2) rfl rfl) (fl_X12_price_0 (j := 3) rfl rfl) (fl_X12_price_0 (j := 4) rfl rfl) rfl
theorem dX12_price_5 : decode cX12_price 5 = .ok (.ifCond .eq 23, 3) := fq3_153 (fl_X12_price_0 (j := 5) rfl rfl) (fl_X12_price_0 (j := 6) rfl rfl) (fl_X12_price_0 (j := 7) rfl rfl) (s2p rfl (bl rfl))
theorem dX12_price_8 : decode cX12_price 8 = .ok (.iload_n 2, 1) := fq1_28 (fl_X12_price_0 (j := 8) rfl rfl)
theorem dX12_price_9 : decode cX12_price 9 = .ok (.invokestatic 258, 3) := fq3_184 (fl_X12_price_0 (j := 9) rfl rfl) (fl_X12_price_0 (j := 10) rfl rfl) (fl_X12_price_0 (j := 11) rfl rfl) rfl
theorem dX12_price_12 : decode cX12_price 12 = .ok (.ifCond .eq 16, 3) := fq3_153 (fl_X12_price_0 (j := 12) rfl rfl) (fl_X12_price_0 (j := 13) rfl rfl) (fl_X12_price_0 (j := 14) rfl rfl) (s2p rfl (bl rfl))
theorem dX12_price_15 : decode cX12_price 15 = .ok (.aload_n 0, 1) := fq1_42 (fl_X12_price_0 (j := 15) rfl rfl)
theorem dX12_price_16 : decode cX12_price 16 = .ok (.aload_n 0, 1) := fq1_42 (fl_X12_price_0 (j := 16) rfl rfl)
theorem dX12_price_17 : decode cX12_price 17 = .ok (.iload_n 1, 1) := fq1_27 (fl_X12_price_0 (j := 17) rfl rfl)
theorem dX12_price_18 : decode cX12_price 18 = .ok (.iload_n 2, 1) := fq1_28 (fl_X12_price_0 (j := 18) rfl rfl)
theorem dX12_price_19 : decode cX12_price 19 = .ok (.invokevirtual 353, 3) := fq3_182 (fl_X12_price_0 (j := 19) rfl rfl) (fl_X12_price_0 (j := 20) rfl rfl) (fl_X12_price_0 (j := 21) rfl rfl) rfl
theorem dX12_price_22 : decode cX12_price 22 = .ok (.invokevirtual 85, 3) := fq3_182 (fl_X12_price_0 (j := 22) rfl rfl) (fl_X12_price_0 (j := 23) rfl rfl) (fl_X12_price_0 (j := 24) rfl rfl) rfl
theorem dX12_price_25 : decode cX12_price 25 = .ok (.goto 8, 3) := fq3_167 (fl_X12_price_0 (j := 25) rfl rfl) (fl_X12_price_0 (j := 26) rfl rfl) (fl_X12_price_0 (j := 27) rfl rfl) (s2p rfl (bl rfl))
theorem dX12_price_28 : decode cX12_price 28 = .ok (.aload_n 0, 1) := fq1_42 (fl_X12_price_0 (j := 28) rfl rfl)
theorem dX12_price_29 : decode cX12_price 29 = .ok (.iconst 1, 1) := fq1_4 (fl_X12_price_0 (j := 29) rfl rfl)
theorem dX12_price_30 : decode cX12_price 30 = .ok (.invokevirtual 81, 3) := fq3_182 (fl_X12_price_0 (j := 30) rfl rfl) (fl_X12_price_0 (j := 31) rfl rfl) (fl_X12_price_0 (j := 32) rfl rfl) rfl
theorem dX12_price_33 : decode cX12_price 33 = .ok (.ireturn, 1) := fq1_172 (fl_X12_price_0 (j := 33) rfl rfl)
def fb_X12_priceSeen_0 : List UInt8 := [0x2a, 0x1b, 0x1d, 0x1c, 0xb6, 0x01, 0x15, 0x9a, 0x00, 0x09, 0x2a, 0x04, 0xb6, 0x00, 0x51, 0xac, 0x2a, 0x1b, 0x1c, 0x1d, 0xb6, 0x01, 0x1f, 0x36, 0x04, 0x15, 0x04, 0x02, 0xa0, 0x00, 0x0c, 0x2a, 0x10, 0x06, 0xb6, 0x00, 0x51, 0xa7, 0x00, 0x0e, 0x2a, 0x2a, 0x1c, 0x15, 0x04, 0xb6, 0x01, 0x61, 0xb6, 0x00, 0x55, 0xac]
theorem fl_X12_priceSeen_0 {p j : Nat} {b : UInt8} (e : p = 0 + j) (h : fb_X12_priceSeen_0[j]? = some b) : cX12_priceSeen.data.toList[p]? = some b := fq_l (n := 64) (show (cX12_priceSeen.data.toList.drop 0).take 64 = fb_X12_priceSeen_0 by decide +kernel) e h
theorem dX12_priceSeen_0 : decode cX12_priceSeen 0 = .ok (.aload_n 0, 1) := fq1_42 (fl_X12_priceSeen_0 (j := 0) rfl rfl)
theorem dX12_priceSeen_1 : decode cX12_priceSeen 1 = .ok (.iload_n 1, 1) := fq1_27 (fl_X12_priceSeen_0 (j := 1) rfl rfl)
theorem dX12_priceSeen_2 : decode cX12_priceSeen 2 = .ok (.iload_n 3, 1) := fq1_29 (fl_X12_priceSeen_0 (j := 2) rfl rfl)
theorem dX12_priceSeen_3 : decode cX12_priceSeen 3 = .ok (.iload_n 2, 1) := fq1_28 (fl_X12_priceSeen_0 (j := 3) rfl rfl)
theorem dX12_priceSeen_4 : decode cX12_priceSeen 4 = .ok (.invokevirtual 277, 3) := fq3_182 (fl_X12_priceSeen_0 (j := 4) rfl rfl) (fl_X12_priceSeen_0 (j := 5) rfl rfl) (fl_X12_priceSeen_0 (j := 6) rfl rfl) rfl
theorem dX12_priceSeen_7 : decode cX12_priceSeen 7 = .ok (.ifCond .ne 9, 3) := fq3_154 (fl_X12_priceSeen_0 (j := 7) rfl rfl) (fl_X12_priceSeen_0 (j := 8) rfl rfl) (fl_X12_priceSeen_0 (j := 9) rfl rfl) (s2p rfl (bl rfl))
theorem dX12_priceSeen_10 : decode cX12_priceSeen 10 = .ok (.aload_n 0, 1) := fq1_42 (fl_X12_priceSeen_0 (j := 10) rfl rfl)
theorem dX12_priceSeen_11 : decode cX12_priceSeen 11 = .ok (.iconst 1, 1) := fq1_4 (fl_X12_priceSeen_0 (j := 11) rfl rfl)
theorem dX12_priceSeen_12 : decode cX12_priceSeen 12 = .ok (.invokevirtual 81, 3) := fq3_182 (fl_X12_priceSeen_0 (j := 12) rfl rfl) (fl_X12_priceSeen_0 (j := 13) rfl rfl) (fl_X12_priceSeen_0 (j := 14) rfl rfl) rfl
theorem dX12_priceSeen_15 : decode cX12_priceSeen 15 = .ok (.ireturn, 1) := fq1_172 (fl_X12_priceSeen_0 (j := 15) rfl rfl)
theorem dX12_priceSeen_16 : decode cX12_priceSeen 16 = .ok (.aload_n 0, 1) := fq1_42 (fl_X12_priceSeen_0 (j := 16) rfl rfl)
theorem dX12_priceSeen_17 : decode cX12_priceSeen 17 = .ok (.iload_n 1, 1) := fq1_27 (fl_X12_priceSeen_0 (j := 17) rfl rfl)
theorem dX12_priceSeen_18 : decode cX12_priceSeen 18 = .ok (.iload_n 2, 1) := fq1_28 (fl_X12_priceSeen_0 (j := 18) rfl rfl)
theorem dX12_priceSeen_19 : decode cX12_priceSeen 19 = .ok (.iload_n 3, 1) := fq1_29 (fl_X12_priceSeen_0 (j := 19) rfl rfl)
theorem dX12_priceSeen_20 : decode cX12_priceSeen 20 = .ok (.invokevirtual 287, 3) := fq3_182 (fl_X12_priceSeen_0 (j := 20) rfl rfl) (fl_X12_priceSeen_0 (j := 21) rfl rfl) (fl_X12_priceSeen_0 (j := 22) rfl rfl) rfl
theorem dX12_priceSeen_23 : decode cX12_priceSeen 23 = .ok (.istore 4, 2) := fq2_54 (fl_X12_priceSeen_0 (j := 23) rfl rfl) (fl_X12_priceSeen_0 (j := 24) rfl rfl) rfl
theorem dX12_priceSeen_25 : decode cX12_priceSeen 25 = .ok (.iload 4, 2) := fq2_21 (fl_X12_priceSeen_0 (j := 25) rfl rfl) (fl_X12_priceSeen_0 (j := 26) rfl rfl) rfl
theorem dX12_priceSeen_27 : decode cX12_priceSeen 27 = .ok (.iconst (-1), 1) := fq1_2 (fl_X12_priceSeen_0 (j := 27) rfl rfl)
theorem dX12_priceSeen_28 : decode cX12_priceSeen 28 = .ok (.if_icmp .ne 12, 3) := fq3_160 (fl_X12_priceSeen_0 (j := 28) rfl rfl) (fl_X12_priceSeen_0 (j := 29) rfl rfl) (fl_X12_priceSeen_0 (j := 30) rfl rfl) (s2p rfl (bl rfl))
theorem dX12_priceSeen_31 : decode cX12_priceSeen 31 = .ok (.aload_n 0, 1) := fq1_42 (fl_X12_priceSeen_0 (j := 31) rfl rfl)
theorem dX12_priceSeen_32 : decode cX12_priceSeen 32 = .ok (.bipush 6, 2) := fq2_16 (fl_X12_priceSeen_0 (j := 32) rfl rfl) (fl_X12_priceSeen_0 (j := 33) rfl rfl) (s1p rfl (bl rfl))
theorem dX12_priceSeen_34 : decode cX12_priceSeen 34 = .ok (.invokevirtual 81, 3) := fq3_182 (fl_X12_priceSeen_0 (j := 34) rfl rfl) (fl_X12_priceSeen_0 (j := 35) rfl rfl) (fl_X12_priceSeen_0 (j := 36) rfl rfl) rfl
theorem dX12_priceSeen_37 : decode cX12_priceSeen 37 = .ok (.goto 14, 3) := fq3_167 (fl_X12_priceSeen_0 (j := 37) rfl rfl) (fl_X12_priceSeen_0 (j := 38) rfl rfl) (fl_X12_priceSeen_0 (j := 39) rfl rfl) (s2p rfl (bl rfl))
theorem dX12_priceSeen_40 : decode cX12_priceSeen 40 = .ok (.aload_n 0, 1) := fq1_42 (fl_X12_priceSeen_0 (j := 40) rfl rfl)
theorem dX12_priceSeen_41 : decode cX12_priceSeen 41 = .ok (.aload_n 0, 1) := fq1_42 (fl_X12_priceSeen_0 (j := 41) rfl rfl)
theorem dX12_priceSeen_42 : decode cX12_priceSeen 42 = .ok (.iload_n 2, 1) := fq1_28 (fl_X12_priceSeen_0 (j := 42) rfl rfl)
theorem dX12_priceSeen_43 : decode cX12_priceSeen 43 = .ok (.iload 4, 2) := fq2_21 (fl_X12_priceSeen_0 (j := 43) rfl rfl) (fl_X12_priceSeen_0 (j := 44) rfl rfl) rfl
theorem dX12_priceSeen_45 : decode cX12_priceSeen 45 = .ok (.invokevirtual 353, 3) := fq3_182 (fl_X12_priceSeen_0 (j := 45) rfl rfl) (fl_X12_priceSeen_0 (j := 46) rfl rfl) (fl_X12_priceSeen_0 (j := 47) rfl rfl) rfl
theorem dX12_priceSeen_48 : decode cX12_priceSeen 48 = .ok (.invokevirtual 85, 3) := fq3_182 (fl_X12_priceSeen_0 (j := 48) rfl rfl) (fl_X12_priceSeen_0 (j := 49) rfl rfl) (fl_X12_priceSeen_0 (j := 50) rfl rfl) rfl
theorem dX12_priceSeen_51 : decode cX12_priceSeen 51 = .ok (.ireturn, 1) := fq1_172 (fl_X12_priceSeen_0 (j := 51) rfl rfl)
def fb_X12_refuse_0 : List UInt8 := [0x2a, 0x1b, 0xb5, 0x00, 0x4b, 0x02, 0xac]
theorem fl_X12_refuse_0 {p j : Nat} {b : UInt8} (e : p = 0 + j) (h : fb_X12_refuse_0[j]? = some b) : cX12_refuse.data.toList[p]? = some b := fq_l (n := 64) (show (cX12_refuse.data.toList.drop 0).take 64 = fb_X12_refuse_0 by decide +kernel) e h
theorem dX12_refuse_0 : decode cX12_refuse 0 = .ok (.aload_n 0, 1) := fq1_42 (fl_X12_refuse_0 (j := 0) rfl rfl)
theorem dX12_refuse_1 : decode cX12_refuse 1 = .ok (.iload_n 1, 1) := fq1_27 (fl_X12_refuse_0 (j := 1) rfl rfl)
theorem dX12_refuse_2 : decode cX12_refuse 2 = .ok (.putfield 75, 3) := fq3_181 (fl_X12_refuse_0 (j := 2) rfl rfl) (fl_X12_refuse_0 (j := 3) rfl rfl) (fl_X12_refuse_0 (j := 4) rfl rfl) rfl
theorem dX12_refuse_5 : decode cX12_refuse 5 = .ok (.iconst (-1), 1) := fq1_2 (fl_X12_refuse_0 (j := 5) rfl rfl)
theorem dX12_refuse_6 : decode cX12_refuse 6 = .ok (.ireturn, 1) := fq1_172 (fl_X12_refuse_0 (j := 6) rfl rfl)
def fb_X12_rock_0 : List UInt8 := [0x2a, 0x1b, 0xb6, 0x00, 0xf3, 0x99, 0x00, 0x1e, 0x1c, 0x9b, 0x00, 0x1a, 0x1c, 0x08, 0xa3, 0x00, 0x15, 0x2a, 0x2a, 0xb4, 0x00, 0x07, 0x1b, 0xb8, 0x00, 0xf6, 0x1c, 0x60, 0x2e, 0xb6, 0x00, 0x55, 0xa7, 0x00, 0x08, 0x2a, 0x04, 0xb6, 0x00, 0x51, 0xac]
theorem fl_X12_rock_0 {p j : Nat} {b : UInt8} (e : p = 0 + j) (h : fb_X12_rock_0[j]? = some b) : cX12_rock.data.toList[p]? = some b := fq_l (n := 64) (show (cX12_rock.data.toList.drop 0).take 64 = fb_X12_rock_0 by decide +kernel) e h
theorem dX12_rock_0 : decode cX12_rock 0 = .ok (.aload_n 0, 1) := fq1_42 (fl_X12_rock_0 (j := 0) rfl rfl)
theorem dX12_rock_1 : decode cX12_rock 1 = .ok (.iload_n 1, 1) := fq1_27 (fl_X12_rock_0 (j := 1) rfl rfl)
theorem dX12_rock_2 : decode cX12_rock 2 = .ok (.invokevirtual 243, 3) := fq3_182 (fl_X12_rock_0 (j := 2) rfl rfl) (fl_X12_rock_0 (j := 3) rfl rfl) (fl_X12_rock_0 (j := 4) rfl rfl) rfl
theorem dX12_rock_5 : decode cX12_rock 5 = .ok (.ifCond .eq 30, 3) := fq3_153 (fl_X12_rock_0 (j := 5) rfl rfl) (fl_X12_rock_0 (j := 6) rfl rfl) (fl_X12_rock_0 (j := 7) rfl rfl) (s2p rfl (bl rfl))
theorem dX12_rock_8 : decode cX12_rock 8 = .ok (.iload_n 2, 1) := fq1_28 (fl_X12_rock_0 (j := 8) rfl rfl)
theorem dX12_rock_9 : decode cX12_rock 9 = .ok (.ifCond .lt 26, 3) := fq3_155 (fl_X12_rock_0 (j := 9) rfl rfl) (fl_X12_rock_0 (j := 10) rfl rfl) (fl_X12_rock_0 (j := 11) rfl rfl) (s2p rfl (bl rfl))
theorem dX12_rock_12 : decode cX12_rock 12 = .ok (.iload_n 2, 1) := fq1_28 (fl_X12_rock_0 (j := 12) rfl rfl)
theorem dX12_rock_13 : decode cX12_rock 13 = .ok (.iconst 5, 1) := fq1_8 (fl_X12_rock_0 (j := 13) rfl rfl)
theorem dX12_rock_14 : decode cX12_rock 14 = .ok (.if_icmp .gt 21, 3) := fq3_163 (fl_X12_rock_0 (j := 14) rfl rfl) (fl_X12_rock_0 (j := 15) rfl rfl) (fl_X12_rock_0 (j := 16) rfl rfl) (s2p rfl (bl rfl))
theorem dX12_rock_17 : decode cX12_rock 17 = .ok (.aload_n 0, 1) := fq1_42 (fl_X12_rock_0 (j := 17) rfl rfl)
theorem dX12_rock_18 : decode cX12_rock 18 = .ok (.aload_n 0, 1) := fq1_42 (fl_X12_rock_0 (j := 18) rfl rfl)
theorem dX12_rock_19 : decode cX12_rock 19 = .ok (.getfield 7, 3) := fq3_180 (fl_X12_rock_0 (j := 19) rfl rfl) (fl_X12_rock_0 (j := 20) rfl rfl) (fl_X12_rock_0 (j := 21) rfl rfl) rfl
theorem dX12_rock_22 : decode cX12_rock 22 = .ok (.iload_n 1, 1) := fq1_27 (fl_X12_rock_0 (j := 22) rfl rfl)
theorem dX12_rock_23 : decode cX12_rock 23 = .ok (.invokestatic 246, 3) := fq3_184 (fl_X12_rock_0 (j := 23) rfl rfl) (fl_X12_rock_0 (j := 24) rfl rfl) (fl_X12_rock_0 (j := 25) rfl rfl) rfl
theorem dX12_rock_26 : decode cX12_rock 26 = .ok (.iload_n 2, 1) := fq1_28 (fl_X12_rock_0 (j := 26) rfl rfl)
theorem dX12_rock_27 : decode cX12_rock 27 = .ok (.iadd, 1) := fq1_96 (fl_X12_rock_0 (j := 27) rfl rfl)
theorem dX12_rock_28 : decode cX12_rock 28 = .ok (.iaload, 1) := fq1_46 (fl_X12_rock_0 (j := 28) rfl rfl)
theorem dX12_rock_29 : decode cX12_rock 29 = .ok (.invokevirtual 85, 3) := fq3_182 (fl_X12_rock_0 (j := 29) rfl rfl) (fl_X12_rock_0 (j := 30) rfl rfl) (fl_X12_rock_0 (j := 31) rfl rfl) rfl
theorem dX12_rock_32 : decode cX12_rock 32 = .ok (.goto 8, 3) := fq3_167 (fl_X12_rock_0 (j := 32) rfl rfl) (fl_X12_rock_0 (j := 33) rfl rfl) (fl_X12_rock_0 (j := 34) rfl rfl) (s2p rfl (bl rfl))
theorem dX12_rock_35 : decode cX12_rock 35 = .ok (.aload_n 0, 1) := fq1_42 (fl_X12_rock_0 (j := 35) rfl rfl)
theorem dX12_rock_36 : decode cX12_rock 36 = .ok (.iconst 1, 1) := fq1_4 (fl_X12_rock_0 (j := 36) rfl rfl)
theorem dX12_rock_37 : decode cX12_rock 37 = .ok (.invokevirtual 81, 3) := fq3_182 (fl_X12_rock_0 (j := 37) rfl rfl) (fl_X12_rock_0 (j := 38) rfl rfl) (fl_X12_rock_0 (j := 39) rfl rfl) rfl
theorem dX12_rock_40 : decode cX12_rock 40 = .ok (.ireturn, 1) := fq1_172 (fl_X12_rock_0 (j := 40) rfl rfl)
def fb_X12_sees_0 : List UInt8 := [0x2a, 0x1b, 0x1d, 0x1c, 0xb6, 0x01, 0x15, 0x99, 0x00, 0x11, 0x2a, 0x2a, 0x1b, 0x1c, 0x1d, 0xb6, 0x01, 0x1f, 0xb6, 0x01, 0x22, 0xa7, 0x00, 0x08, 0x2a, 0x04, 0xb6, 0x00, 0x51, 0xac]
theorem fl_X12_sees_0 {p j : Nat} {b : UInt8} (e : p = 0 + j) (h : fb_X12_sees_0[j]? = some b) : cX12_sees.data.toList[p]? = some b := fq_l (n := 64) (show (cX12_sees.data.toList.drop 0).take 64 = fb_X12_sees_0 by decide +kernel) e h
theorem dX12_sees_0 : decode cX12_sees 0 = .ok (.aload_n 0, 1) := fq1_42 (fl_X12_sees_0 (j := 0) rfl rfl)
theorem dX12_sees_1 : decode cX12_sees 1 = .ok (.iload_n 1, 1) := fq1_27 (fl_X12_sees_0 (j := 1) rfl rfl)
theorem dX12_sees_2 : decode cX12_sees 2 = .ok (.iload_n 3, 1) := fq1_29 (fl_X12_sees_0 (j := 2) rfl rfl)
theorem dX12_sees_3 : decode cX12_sees 3 = .ok (.iload_n 2, 1) := fq1_28 (fl_X12_sees_0 (j := 3) rfl rfl)
theorem dX12_sees_4 : decode cX12_sees 4 = .ok (.invokevirtual 277, 3) := fq3_182 (fl_X12_sees_0 (j := 4) rfl rfl) (fl_X12_sees_0 (j := 5) rfl rfl) (fl_X12_sees_0 (j := 6) rfl rfl) rfl
theorem dX12_sees_7 : decode cX12_sees 7 = .ok (.ifCond .eq 17, 3) := fq3_153 (fl_X12_sees_0 (j := 7) rfl rfl) (fl_X12_sees_0 (j := 8) rfl rfl) (fl_X12_sees_0 (j := 9) rfl rfl) (s2p rfl (bl rfl))
theorem dX12_sees_10 : decode cX12_sees 10 = .ok (.aload_n 0, 1) := fq1_42 (fl_X12_sees_0 (j := 10) rfl rfl)
theorem dX12_sees_11 : decode cX12_sees 11 = .ok (.aload_n 0, 1) := fq1_42 (fl_X12_sees_0 (j := 11) rfl rfl)
theorem dX12_sees_12 : decode cX12_sees 12 = .ok (.iload_n 1, 1) := fq1_27 (fl_X12_sees_0 (j := 12) rfl rfl)
theorem dX12_sees_13 : decode cX12_sees 13 = .ok (.iload_n 2, 1) := fq1_28 (fl_X12_sees_0 (j := 13) rfl rfl)
theorem dX12_sees_14 : decode cX12_sees 14 = .ok (.iload_n 3, 1) := fq1_29 (fl_X12_sees_0 (j := 14) rfl rfl)
theorem dX12_sees_15 : decode cX12_sees 15 = .ok (.invokevirtual 287, 3) := fq3_182 (fl_X12_sees_0 (j := 15) rfl rfl) (fl_X12_sees_0 (j := 16) rfl rfl) (fl_X12_sees_0 (j := 17) rfl rfl) rfl
theorem dX12_sees_18 : decode cX12_sees 18 = .ok (.invokevirtual 290, 3) := fq3_182 (fl_X12_sees_0 (j := 18) rfl rfl) (fl_X12_sees_0 (j := 19) rfl rfl) (fl_X12_sees_0 (j := 20) rfl rfl) rfl
theorem dX12_sees_21 : decode cX12_sees 21 = .ok (.goto 8, 3) := fq3_167 (fl_X12_sees_0 (j := 21) rfl rfl) (fl_X12_sees_0 (j := 22) rfl rfl) (fl_X12_sees_0 (j := 23) rfl rfl) (s2p rfl (bl rfl))
theorem dX12_sees_24 : decode cX12_sees 24 = .ok (.aload_n 0, 1) := fq1_42 (fl_X12_sees_0 (j := 24) rfl rfl)
theorem dX12_sees_25 : decode cX12_sees 25 = .ok (.iconst 1, 1) := fq1_4 (fl_X12_sees_0 (j := 25) rfl rfl)
theorem dX12_sees_26 : decode cX12_sees 26 = .ok (.invokevirtual 81, 3) := fq3_182 (fl_X12_sees_0 (j := 26) rfl rfl) (fl_X12_sees_0 (j := 27) rfl rfl) (fl_X12_sees_0 (j := 28) rfl rfl) rfl
theorem dX12_sees_29 : decode cX12_sees 29 = .ok (.ireturn, 1) := fq1_172 (fl_X12_sees_0 (j := 29) rfl rfl)
def fb_X12_ship_0 : List UInt8 := [0x2a, 0x1b, 0x1c, 0x1d, 0xb6, 0x01, 0x15, 0x99, 0x00, 0x13, 0x2a, 0x2a, 0x1b, 0x1c, 0x1d, 0x10, 0x0a, 0xb6, 0x01, 0x12, 0xb6, 0x00, 0x55, 0xa7, 0x00, 0x08, 0x2a, 0x04, 0xb6, 0x00, 0x51, 0xac]
theorem fl_X12_ship_0 {p j : Nat} {b : UInt8} (e : p = 0 + j) (h : fb_X12_ship_0[j]? = some b) : cX12_ship.data.toList[p]? = some b := fq_l (n := 64) (show (cX12_ship.data.toList.drop 0).take 64 = fb_X12_ship_0 by decide +kernel) e h
theorem dX12_ship_0 : decode cX12_ship 0 = .ok (.aload_n 0, 1) := fq1_42 (fl_X12_ship_0 (j := 0) rfl rfl)
theorem dX12_ship_1 : decode cX12_ship 1 = .ok (.iload_n 1, 1) := fq1_27 (fl_X12_ship_0 (j := 1) rfl rfl)
theorem dX12_ship_2 : decode cX12_ship 2 = .ok (.iload_n 2, 1) := fq1_28 (fl_X12_ship_0 (j := 2) rfl rfl)
theorem dX12_ship_3 : decode cX12_ship 3 = .ok (.iload_n 3, 1) := fq1_29 (fl_X12_ship_0 (j := 3) rfl rfl)
theorem dX12_ship_4 : decode cX12_ship 4 = .ok (.invokevirtual 277, 3) := fq3_182 (fl_X12_ship_0 (j := 4) rfl rfl) (fl_X12_ship_0 (j := 5) rfl rfl) (fl_X12_ship_0 (j := 6) rfl rfl) rfl
theorem dX12_ship_7 : decode cX12_ship 7 = .ok (.ifCond .eq 19, 3) := fq3_153 (fl_X12_ship_0 (j := 7) rfl rfl) (fl_X12_ship_0 (j := 8) rfl rfl) (fl_X12_ship_0 (j := 9) rfl rfl) (s2p rfl (bl rfl))
theorem dX12_ship_10 : decode cX12_ship 10 = .ok (.aload_n 0, 1) := fq1_42 (fl_X12_ship_0 (j := 10) rfl rfl)
theorem dX12_ship_11 : decode cX12_ship 11 = .ok (.aload_n 0, 1) := fq1_42 (fl_X12_ship_0 (j := 11) rfl rfl)
theorem dX12_ship_12 : decode cX12_ship 12 = .ok (.iload_n 1, 1) := fq1_27 (fl_X12_ship_0 (j := 12) rfl rfl)
theorem dX12_ship_13 : decode cX12_ship 13 = .ok (.iload_n 2, 1) := fq1_28 (fl_X12_ship_0 (j := 13) rfl rfl)
theorem dX12_ship_14 : decode cX12_ship 14 = .ok (.iload_n 3, 1) := fq1_29 (fl_X12_ship_0 (j := 14) rfl rfl)
theorem dX12_ship_15 : decode cX12_ship 15 = .ok (.bipush 10, 2) := fq2_16 (fl_X12_ship_0 (j := 15) rfl rfl) (fl_X12_ship_0 (j := 16) rfl rfl) (s1p rfl (bl rfl))
theorem dX12_ship_17 : decode cX12_ship 17 = .ok (.invokevirtual 274, 3) := fq3_182 (fl_X12_ship_0 (j := 17) rfl rfl) (fl_X12_ship_0 (j := 18) rfl rfl) (fl_X12_ship_0 (j := 19) rfl rfl) rfl
theorem dX12_ship_20 : decode cX12_ship 20 = .ok (.invokevirtual 85, 3) := fq3_182 (fl_X12_ship_0 (j := 20) rfl rfl) (fl_X12_ship_0 (j := 21) rfl rfl) (fl_X12_ship_0 (j := 22) rfl rfl) rfl
theorem dX12_ship_23 : decode cX12_ship 23 = .ok (.goto 8, 3) := fq3_167 (fl_X12_ship_0 (j := 23) rfl rfl) (fl_X12_ship_0 (j := 24) rfl rfl) (fl_X12_ship_0 (j := 25) rfl rfl) (s2p rfl (bl rfl))
theorem dX12_ship_26 : decode cX12_ship 26 = .ok (.aload_n 0, 1) := fq1_42 (fl_X12_ship_0 (j := 26) rfl rfl)
theorem dX12_ship_27 : decode cX12_ship 27 = .ok (.iconst 1, 1) := fq1_4 (fl_X12_ship_0 (j := 27) rfl rfl)
theorem dX12_ship_28 : decode cX12_ship 28 = .ok (.invokevirtual 81, 3) := fq3_182 (fl_X12_ship_0 (j := 28) rfl rfl) (fl_X12_ship_0 (j := 29) rfl rfl) (fl_X12_ship_0 (j := 30) rfl rfl) rfl
theorem dX12_ship_31 : decode cX12_ship 31 = .ok (.ireturn, 1) := fq1_172 (fl_X12_ship_0 (j := 31) rfl rfl)
def fb_X12_span_0 : List UInt8 := [0x1b, 0xb8, 0x01, 0x02, 0x9a, 0x00, 0x09, 0x2a, 0x04, 0xb6, 0x00, 0x51, 0xac, 0x03, 0x3d, 0x03, 0x3e, 0x1d, 0x2a, 0xb4, 0x00, 0x07, 0x03, 0x2e, 0xa2, 0x00, 0x26, 0x03, 0x36, 0x04, 0x15, 0x04, 0x1d, 0xa2, 0x00, 0x17, 0x1c, 0x2a, 0x1d, 0x1b, 0x15, 0x04, 0x1b, 0xb6, 0x01, 0x05, 0xb8, 0x00, 0xff, 0x3d, 0x84, 0x04, 0x01, 0xa7, 0xff, 0xe9, 0x84, 0x03, 0x01, 0xa7, 0xff, 0xd6, 0x2a, 0x1c]
theorem fl_X12_span_0 {p j : Nat} {b : UInt8} (e : p = 0 + j) (h : fb_X12_span_0[j]? = some b) : cX12_span.data.toList[p]? = some b := fq_l (n := 64) (show (cX12_span.data.toList.drop 0).take 64 = fb_X12_span_0 by decide +kernel) e h
theorem dX12_span_0 : decode cX12_span 0 = .ok (.iload_n 1, 1) := fq1_27 (fl_X12_span_0 (j := 0) rfl rfl)
theorem dX12_span_1 : decode cX12_span 1 = .ok (.invokestatic 258, 3) := fq3_184 (fl_X12_span_0 (j := 1) rfl rfl) (fl_X12_span_0 (j := 2) rfl rfl) (fl_X12_span_0 (j := 3) rfl rfl) rfl
theorem dX12_span_4 : decode cX12_span 4 = .ok (.ifCond .ne 9, 3) := fq3_154 (fl_X12_span_0 (j := 4) rfl rfl) (fl_X12_span_0 (j := 5) rfl rfl) (fl_X12_span_0 (j := 6) rfl rfl) (s2p rfl (bl rfl))
theorem dX12_span_7 : decode cX12_span 7 = .ok (.aload_n 0, 1) := fq1_42 (fl_X12_span_0 (j := 7) rfl rfl)
theorem dX12_span_8 : decode cX12_span 8 = .ok (.iconst 1, 1) := fq1_4 (fl_X12_span_0 (j := 8) rfl rfl)
theorem dX12_span_9 : decode cX12_span 9 = .ok (.invokevirtual 81, 3) := fq3_182 (fl_X12_span_0 (j := 9) rfl rfl) (fl_X12_span_0 (j := 10) rfl rfl) (fl_X12_span_0 (j := 11) rfl rfl) rfl
theorem dX12_span_12 : decode cX12_span 12 = .ok (.ireturn, 1) := fq1_172 (fl_X12_span_0 (j := 12) rfl rfl)
theorem dX12_span_13 : decode cX12_span 13 = .ok (.iconst 0, 1) := fq1_3 (fl_X12_span_0 (j := 13) rfl rfl)
theorem dX12_span_14 : decode cX12_span 14 = .ok (.istore_n 2, 1) := fq1_61 (fl_X12_span_0 (j := 14) rfl rfl)
theorem dX12_span_15 : decode cX12_span 15 = .ok (.iconst 0, 1) := fq1_3 (fl_X12_span_0 (j := 15) rfl rfl)
theorem dX12_span_16 : decode cX12_span 16 = .ok (.istore_n 3, 1) := fq1_62 (fl_X12_span_0 (j := 16) rfl rfl)
theorem dX12_span_17 : decode cX12_span 17 = .ok (.iload_n 3, 1) := fq1_29 (fl_X12_span_0 (j := 17) rfl rfl)
theorem dX12_span_18 : decode cX12_span 18 = .ok (.aload_n 0, 1) := fq1_42 (fl_X12_span_0 (j := 18) rfl rfl)
theorem dX12_span_19 : decode cX12_span 19 = .ok (.getfield 7, 3) := fq3_180 (fl_X12_span_0 (j := 19) rfl rfl) (fl_X12_span_0 (j := 20) rfl rfl) (fl_X12_span_0 (j := 21) rfl rfl) rfl
theorem dX12_span_22 : decode cX12_span 22 = .ok (.iconst 0, 1) := fq1_3 (fl_X12_span_0 (j := 22) rfl rfl)
theorem dX12_span_23 : decode cX12_span 23 = .ok (.iaload, 1) := fq1_46 (fl_X12_span_0 (j := 23) rfl rfl)
theorem dX12_span_24 : decode cX12_span 24 = .ok (.if_icmp .ge 38, 3) := fq3_162 (fl_X12_span_0 (j := 24) rfl rfl) (fl_X12_span_0 (j := 25) rfl rfl) (fl_X12_span_0 (j := 26) rfl rfl) (s2p rfl (bl rfl))
theorem dX12_span_27 : decode cX12_span 27 = .ok (.iconst 0, 1) := fq1_3 (fl_X12_span_0 (j := 27) rfl rfl)
theorem dX12_span_28 : decode cX12_span 28 = .ok (.istore 4, 2) := fq2_54 (fl_X12_span_0 (j := 28) rfl rfl) (fl_X12_span_0 (j := 29) rfl rfl) rfl
theorem dX12_span_30 : decode cX12_span 30 = .ok (.iload 4, 2) := fq2_21 (fl_X12_span_0 (j := 30) rfl rfl) (fl_X12_span_0 (j := 31) rfl rfl) rfl
theorem dX12_span_32 : decode cX12_span 32 = .ok (.iload_n 3, 1) := fq1_29 (fl_X12_span_0 (j := 32) rfl rfl)
theorem dX12_span_33 : decode cX12_span 33 = .ok (.if_icmp .ge 23, 3) := fq3_162 (fl_X12_span_0 (j := 33) rfl rfl) (fl_X12_span_0 (j := 34) rfl rfl) (fl_X12_span_0 (j := 35) rfl rfl) (s2p rfl (bl rfl))
theorem dX12_span_36 : decode cX12_span 36 = .ok (.iload_n 2, 1) := fq1_28 (fl_X12_span_0 (j := 36) rfl rfl)
theorem dX12_span_37 : decode cX12_span 37 = .ok (.aload_n 0, 1) := fq1_42 (fl_X12_span_0 (j := 37) rfl rfl)
theorem dX12_span_38 : decode cX12_span 38 = .ok (.iload_n 3, 1) := fq1_29 (fl_X12_span_0 (j := 38) rfl rfl)
theorem dX12_span_39 : decode cX12_span 39 = .ok (.iload_n 1, 1) := fq1_27 (fl_X12_span_0 (j := 39) rfl rfl)
theorem dX12_span_40 : decode cX12_span 40 = .ok (.iload 4, 2) := fq2_21 (fl_X12_span_0 (j := 40) rfl rfl) (fl_X12_span_0 (j := 41) rfl rfl) rfl
theorem dX12_span_42 : decode cX12_span 42 = .ok (.iload_n 1, 1) := fq1_27 (fl_X12_span_0 (j := 42) rfl rfl)
theorem dX12_span_43 : decode cX12_span 43 = .ok (.invokevirtual 261, 3) := fq3_182 (fl_X12_span_0 (j := 43) rfl rfl) (fl_X12_span_0 (j := 44) rfl rfl) (fl_X12_span_0 (j := 45) rfl rfl) rfl
theorem dX12_span_46 : decode cX12_span 46 = .ok (.invokestatic 255, 3) := fq3_184 (fl_X12_span_0 (j := 46) rfl rfl) (fl_X12_span_0 (j := 47) rfl rfl) (fl_X12_span_0 (j := 48) rfl rfl) rfl
theorem dX12_span_49 : decode cX12_span 49 = .ok (.istore_n 2, 1) := fq1_61 (fl_X12_span_0 (j := 49) rfl rfl)
theorem dX12_span_50 : decode cX12_span 50 = .ok (.iinc 4 1, 3) := fq3_132 (fl_X12_span_0 (j := 50) rfl rfl) (fl_X12_span_0 (j := 51) rfl rfl) (fl_X12_span_0 (j := 52) rfl rfl) rfl (s1p rfl (bl rfl))
theorem dX12_span_53 : decode cX12_span 53 = .ok (.goto (-23), 3) := fq3_167 (fl_X12_span_0 (j := 53) rfl rfl) (fl_X12_span_0 (j := 54) rfl rfl) (fl_X12_span_0 (j := 55) rfl rfl) (by decide)
theorem dX12_span_56 : decode cX12_span 56 = .ok (.iinc 3 1, 3) := fq3_132 (fl_X12_span_0 (j := 56) rfl rfl) (fl_X12_span_0 (j := 57) rfl rfl) (fl_X12_span_0 (j := 58) rfl rfl) rfl (s1p rfl (bl rfl))
theorem dX12_span_59 : decode cX12_span 59 = .ok (.goto (-42), 3) := fq3_167 (fl_X12_span_0 (j := 59) rfl rfl) (fl_X12_span_0 (j := 60) rfl rfl) (fl_X12_span_0 (j := 61) rfl rfl) (by decide)
theorem dX12_span_62 : decode cX12_span 62 = .ok (.aload_n 0, 1) := fq1_42 (fl_X12_span_0 (j := 62) rfl rfl)
theorem dX12_span_63 : decode cX12_span 63 = .ok (.iload_n 2, 1) := fq1_28 (fl_X12_span_0 (j := 63) rfl rfl)
def fb_X12_span_1 : List UInt8 := [0xb6, 0x00, 0x55, 0xac]
theorem fl_X12_span_1 {p j : Nat} {b : UInt8} (e : p = 64 + j) (h : fb_X12_span_1[j]? = some b) : cX12_span.data.toList[p]? = some b := fq_l (n := 64) (show (cX12_span.data.toList.drop 64).take 64 = fb_X12_span_1 by decide +kernel) e h
theorem dX12_span_64 : decode cX12_span 64 = .ok (.invokevirtual 85, 3) := fq3_182 (fl_X12_span_1 (j := 0) rfl rfl) (fl_X12_span_1 (j := 1) rfl rfl) (fl_X12_span_1 (j := 2) rfl rfl) rfl
theorem dX12_span_67 : decode cX12_span 67 = .ok (.ireturn, 1) := fq1_172 (fl_X12_span_1 (j := 3) rfl rfl)
def fb_X12_stale_0 : List UInt8 := [0x2a, 0x1b, 0x1d, 0x1c, 0xb6, 0x01, 0x15, 0x9a, 0x00, 0x09, 0x2a, 0x04, 0xb6, 0x00, 0x51, 0xac, 0x2a, 0x1b, 0x1c, 0x1d, 0xb6, 0x01, 0x1f, 0x36, 0x04, 0x15, 0x04, 0x02, 0xa0, 0x00, 0x0c, 0x2a, 0x10, 0x06, 0xb6, 0x00, 0x51, 0xa7, 0x00, 0x0b, 0x2a, 0x1d, 0x15, 0x04, 0x64, 0xb6, 0x00, 0x55, 0xac]
theorem fl_X12_stale_0 {p j : Nat} {b : UInt8} (e : p = 0 + j) (h : fb_X12_stale_0[j]? = some b) : cX12_stale.data.toList[p]? = some b := fq_l (n := 64) (show (cX12_stale.data.toList.drop 0).take 64 = fb_X12_stale_0 by decide +kernel) e h
theorem dX12_stale_0 : decode cX12_stale 0 = .ok (.aload_n 0, 1) := fq1_42 (fl_X12_stale_0 (j := 0) rfl rfl)
theorem dX12_stale_1 : decode cX12_stale 1 = .ok (.iload_n 1, 1) := fq1_27 (fl_X12_stale_0 (j := 1) rfl rfl)
theorem dX12_stale_2 : decode cX12_stale 2 = .ok (.iload_n 3, 1) := fq1_29 (fl_X12_stale_0 (j := 2) rfl rfl)
theorem dX12_stale_3 : decode cX12_stale 3 = .ok (.iload_n 2, 1) := fq1_28 (fl_X12_stale_0 (j := 3) rfl rfl)
theorem dX12_stale_4 : decode cX12_stale 4 = .ok (.invokevirtual 277, 3) := fq3_182 (fl_X12_stale_0 (j := 4) rfl rfl) (fl_X12_stale_0 (j := 5) rfl rfl) (fl_X12_stale_0 (j := 6) rfl rfl) rfl
theorem dX12_stale_7 : decode cX12_stale 7 = .ok (.ifCond .ne 9, 3) := fq3_154 (fl_X12_stale_0 (j := 7) rfl rfl) (fl_X12_stale_0 (j := 8) rfl rfl) (fl_X12_stale_0 (j := 9) rfl rfl) (s2p rfl (bl rfl))
theorem dX12_stale_10 : decode cX12_stale 10 = .ok (.aload_n 0, 1) := fq1_42 (fl_X12_stale_0 (j := 10) rfl rfl)
theorem dX12_stale_11 : decode cX12_stale 11 = .ok (.iconst 1, 1) := fq1_4 (fl_X12_stale_0 (j := 11) rfl rfl)
theorem dX12_stale_12 : decode cX12_stale 12 = .ok (.invokevirtual 81, 3) := fq3_182 (fl_X12_stale_0 (j := 12) rfl rfl) (fl_X12_stale_0 (j := 13) rfl rfl) (fl_X12_stale_0 (j := 14) rfl rfl) rfl
theorem dX12_stale_15 : decode cX12_stale 15 = .ok (.ireturn, 1) := fq1_172 (fl_X12_stale_0 (j := 15) rfl rfl)
theorem dX12_stale_16 : decode cX12_stale 16 = .ok (.aload_n 0, 1) := fq1_42 (fl_X12_stale_0 (j := 16) rfl rfl)
theorem dX12_stale_17 : decode cX12_stale 17 = .ok (.iload_n 1, 1) := fq1_27 (fl_X12_stale_0 (j := 17) rfl rfl)
theorem dX12_stale_18 : decode cX12_stale 18 = .ok (.iload_n 2, 1) := fq1_28 (fl_X12_stale_0 (j := 18) rfl rfl)
theorem dX12_stale_19 : decode cX12_stale 19 = .ok (.iload_n 3, 1) := fq1_29 (fl_X12_stale_0 (j := 19) rfl rfl)
theorem dX12_stale_20 : decode cX12_stale 20 = .ok (.invokevirtual 287, 3) := fq3_182 (fl_X12_stale_0 (j := 20) rfl rfl) (fl_X12_stale_0 (j := 21) rfl rfl) (fl_X12_stale_0 (j := 22) rfl rfl) rfl
theorem dX12_stale_23 : decode cX12_stale 23 = .ok (.istore 4, 2) := fq2_54 (fl_X12_stale_0 (j := 23) rfl rfl) (fl_X12_stale_0 (j := 24) rfl rfl) rfl
theorem dX12_stale_25 : decode cX12_stale 25 = .ok (.iload 4, 2) := fq2_21 (fl_X12_stale_0 (j := 25) rfl rfl) (fl_X12_stale_0 (j := 26) rfl rfl) rfl
theorem dX12_stale_27 : decode cX12_stale 27 = .ok (.iconst (-1), 1) := fq1_2 (fl_X12_stale_0 (j := 27) rfl rfl)
theorem dX12_stale_28 : decode cX12_stale 28 = .ok (.if_icmp .ne 12, 3) := fq3_160 (fl_X12_stale_0 (j := 28) rfl rfl) (fl_X12_stale_0 (j := 29) rfl rfl) (fl_X12_stale_0 (j := 30) rfl rfl) (s2p rfl (bl rfl))
theorem dX12_stale_31 : decode cX12_stale 31 = .ok (.aload_n 0, 1) := fq1_42 (fl_X12_stale_0 (j := 31) rfl rfl)
theorem dX12_stale_32 : decode cX12_stale 32 = .ok (.bipush 6, 2) := fq2_16 (fl_X12_stale_0 (j := 32) rfl rfl) (fl_X12_stale_0 (j := 33) rfl rfl) (s1p rfl (bl rfl))
theorem dX12_stale_34 : decode cX12_stale 34 = .ok (.invokevirtual 81, 3) := fq3_182 (fl_X12_stale_0 (j := 34) rfl rfl) (fl_X12_stale_0 (j := 35) rfl rfl) (fl_X12_stale_0 (j := 36) rfl rfl) rfl
theorem dX12_stale_37 : decode cX12_stale 37 = .ok (.goto 11, 3) := fq3_167 (fl_X12_stale_0 (j := 37) rfl rfl) (fl_X12_stale_0 (j := 38) rfl rfl) (fl_X12_stale_0 (j := 39) rfl rfl) (s2p rfl (bl rfl))
theorem dX12_stale_40 : decode cX12_stale 40 = .ok (.aload_n 0, 1) := fq1_42 (fl_X12_stale_0 (j := 40) rfl rfl)
theorem dX12_stale_41 : decode cX12_stale 41 = .ok (.iload_n 3, 1) := fq1_29 (fl_X12_stale_0 (j := 41) rfl rfl)
theorem dX12_stale_42 : decode cX12_stale 42 = .ok (.iload 4, 2) := fq2_21 (fl_X12_stale_0 (j := 42) rfl rfl) (fl_X12_stale_0 (j := 43) rfl rfl) rfl
theorem dX12_stale_44 : decode cX12_stale 44 = .ok (.isub, 1) := fq1_100 (fl_X12_stale_0 (j := 44) rfl rfl)
theorem dX12_stale_45 : decode cX12_stale 45 = .ok (.invokevirtual 85, 3) := fq3_182 (fl_X12_stale_0 (j := 45) rfl rfl) (fl_X12_stale_0 (j := 46) rfl rfl) (fl_X12_stale_0 (j := 47) rfl rfl) rfl
theorem dX12_stale_48 : decode cX12_stale 48 = .ok (.ireturn, 1) := fq1_172 (fl_X12_stale_0 (j := 48) rfl rfl)
def fb_X12_status_0 : List UInt8 := [0x2a, 0xb4, 0x00, 0x4b, 0xac]
theorem fl_X12_status_0 {p j : Nat} {b : UInt8} (e : p = 0 + j) (h : fb_X12_status_0[j]? = some b) : cX12_status.data.toList[p]? = some b := fq_l (n := 64) (show (cX12_status.data.toList.drop 0).take 64 = fb_X12_status_0 by decide +kernel) e h
theorem dX12_status_0 : decode cX12_status 0 = .ok (.aload_n 0, 1) := fq1_42 (fl_X12_status_0 (j := 0) rfl rfl)
theorem dX12_status_1 : decode cX12_status 1 = .ok (.getfield 75, 3) := fq3_180 (fl_X12_status_0 (j := 1) rfl rfl) (fl_X12_status_0 (j := 2) rfl rfl) (fl_X12_status_0 (j := 3) rfl rfl) rfl
theorem dX12_status_4 : decode cX12_status 4 = .ok (.ireturn, 1) := fq1_172 (fl_X12_status_0 (j := 4) rfl rfl)
def fb_X12_told_0 : List UInt8 := [0x1b, 0x9b, 0x00, 0x08, 0x1b, 0x08, 0xa4, 0x00, 0x09, 0x2a, 0x04, 0xb6, 0x00, 0x51, 0xac, 0x2a, 0x1b, 0x08, 0xa0, 0x00, 0x14, 0x2a, 0xb4, 0x00, 0x07, 0x10, 0x76, 0x2a, 0xb4, 0x00, 0x07, 0x06, 0x2e, 0x60, 0x2e, 0xa7, 0x00, 0x09, 0x2a, 0xb4, 0x00, 0x07, 0x1b, 0x2e, 0xb6, 0x00, 0x55, 0xac]
theorem fl_X12_told_0 {p j : Nat} {b : UInt8} (e : p = 0 + j) (h : fb_X12_told_0[j]? = some b) : cX12_told.data.toList[p]? = some b := fq_l (n := 64) (show (cX12_told.data.toList.drop 0).take 64 = fb_X12_told_0 by decide +kernel) e h
theorem dX12_told_0 : decode cX12_told 0 = .ok (.iload_n 1, 1) := fq1_27 (fl_X12_told_0 (j := 0) rfl rfl)
theorem dX12_told_1 : decode cX12_told 1 = .ok (.ifCond .lt 8, 3) := fq3_155 (fl_X12_told_0 (j := 1) rfl rfl) (fl_X12_told_0 (j := 2) rfl rfl) (fl_X12_told_0 (j := 3) rfl rfl) (s2p rfl (bl rfl))
theorem dX12_told_4 : decode cX12_told 4 = .ok (.iload_n 1, 1) := fq1_27 (fl_X12_told_0 (j := 4) rfl rfl)
theorem dX12_told_5 : decode cX12_told 5 = .ok (.iconst 5, 1) := fq1_8 (fl_X12_told_0 (j := 5) rfl rfl)
theorem dX12_told_6 : decode cX12_told 6 = .ok (.if_icmp .le 9, 3) := fq3_164 (fl_X12_told_0 (j := 6) rfl rfl) (fl_X12_told_0 (j := 7) rfl rfl) (fl_X12_told_0 (j := 8) rfl rfl) (s2p rfl (bl rfl))
theorem dX12_told_9 : decode cX12_told 9 = .ok (.aload_n 0, 1) := fq1_42 (fl_X12_told_0 (j := 9) rfl rfl)
theorem dX12_told_10 : decode cX12_told 10 = .ok (.iconst 1, 1) := fq1_4 (fl_X12_told_0 (j := 10) rfl rfl)
theorem dX12_told_11 : decode cX12_told 11 = .ok (.invokevirtual 81, 3) := fq3_182 (fl_X12_told_0 (j := 11) rfl rfl) (fl_X12_told_0 (j := 12) rfl rfl) (fl_X12_told_0 (j := 13) rfl rfl) rfl
theorem dX12_told_14 : decode cX12_told 14 = .ok (.ireturn, 1) := fq1_172 (fl_X12_told_0 (j := 14) rfl rfl)
theorem dX12_told_15 : decode cX12_told 15 = .ok (.aload_n 0, 1) := fq1_42 (fl_X12_told_0 (j := 15) rfl rfl)
theorem dX12_told_16 : decode cX12_told 16 = .ok (.iload_n 1, 1) := fq1_27 (fl_X12_told_0 (j := 16) rfl rfl)
theorem dX12_told_17 : decode cX12_told 17 = .ok (.iconst 5, 1) := fq1_8 (fl_X12_told_0 (j := 17) rfl rfl)
theorem dX12_told_18 : decode cX12_told 18 = .ok (.if_icmp .ne 20, 3) := fq3_160 (fl_X12_told_0 (j := 18) rfl rfl) (fl_X12_told_0 (j := 19) rfl rfl) (fl_X12_told_0 (j := 20) rfl rfl) (s2p rfl (bl rfl))
theorem dX12_told_21 : decode cX12_told 21 = .ok (.aload_n 0, 1) := fq1_42 (fl_X12_told_0 (j := 21) rfl rfl)
theorem dX12_told_22 : decode cX12_told 22 = .ok (.getfield 7, 3) := fq3_180 (fl_X12_told_0 (j := 22) rfl rfl) (fl_X12_told_0 (j := 23) rfl rfl) (fl_X12_told_0 (j := 24) rfl rfl) rfl
theorem dX12_told_25 : decode cX12_told 25 = .ok (.bipush 118, 2) := fq2_16 (fl_X12_told_0 (j := 25) rfl rfl) (fl_X12_told_0 (j := 26) rfl rfl) (s1p rfl (bl rfl))
theorem dX12_told_27 : decode cX12_told 27 = .ok (.aload_n 0, 1) := fq1_42 (fl_X12_told_0 (j := 27) rfl rfl)
theorem dX12_told_28 : decode cX12_told 28 = .ok (.getfield 7, 3) := fq3_180 (fl_X12_told_0 (j := 28) rfl rfl) (fl_X12_told_0 (j := 29) rfl rfl) (fl_X12_told_0 (j := 30) rfl rfl) rfl
theorem dX12_told_31 : decode cX12_told 31 = .ok (.iconst 3, 1) := fq1_6 (fl_X12_told_0 (j := 31) rfl rfl)
theorem dX12_told_32 : decode cX12_told 32 = .ok (.iaload, 1) := fq1_46 (fl_X12_told_0 (j := 32) rfl rfl)
theorem dX12_told_33 : decode cX12_told 33 = .ok (.iadd, 1) := fq1_96 (fl_X12_told_0 (j := 33) rfl rfl)
theorem dX12_told_34 : decode cX12_told 34 = .ok (.iaload, 1) := fq1_46 (fl_X12_told_0 (j := 34) rfl rfl)
theorem dX12_told_35 : decode cX12_told 35 = .ok (.goto 9, 3) := fq3_167 (fl_X12_told_0 (j := 35) rfl rfl) (fl_X12_told_0 (j := 36) rfl rfl) (fl_X12_told_0 (j := 37) rfl rfl) (s2p rfl (bl rfl))
theorem dX12_told_38 : decode cX12_told 38 = .ok (.aload_n 0, 1) := fq1_42 (fl_X12_told_0 (j := 38) rfl rfl)
theorem dX12_told_39 : decode cX12_told 39 = .ok (.getfield 7, 3) := fq3_180 (fl_X12_told_0 (j := 39) rfl rfl) (fl_X12_told_0 (j := 40) rfl rfl) (fl_X12_told_0 (j := 41) rfl rfl) rfl
theorem dX12_told_42 : decode cX12_told 42 = .ok (.iload_n 1, 1) := fq1_27 (fl_X12_told_0 (j := 42) rfl rfl)
theorem dX12_told_43 : decode cX12_told 43 = .ok (.iaload, 1) := fq1_46 (fl_X12_told_0 (j := 43) rfl rfl)
theorem dX12_told_44 : decode cX12_told 44 = .ok (.invokevirtual 85, 3) := fq3_182 (fl_X12_told_0 (j := 44) rfl rfl) (fl_X12_told_0 (j := 45) rfl rfl) (fl_X12_told_0 (j := 46) rfl rfl) rfl
theorem dX12_told_47 : decode cX12_told 47 = .ok (.ireturn, 1) := fq1_172 (fl_X12_told_0 (j := 47) rfl rfl)
def fb_X12_top_0 : List UInt8 := [0x2a, 0xb4, 0x00, 0x4e, 0xad]
theorem fl_X12_top_0 {p j : Nat} {b : UInt8} (e : p = 0 + j) (h : fb_X12_top_0[j]? = some b) : cX12_top.data.toList[p]? = some b := fq_l (n := 64) (show (cX12_top.data.toList.drop 0).take 64 = fb_X12_top_0 by decide +kernel) e h
theorem dX12_top_0 : decode cX12_top 0 = .ok (.aload_n 0, 1) := fq1_42 (fl_X12_top_0 (j := 0) rfl rfl)
theorem dX12_top_1 : decode cX12_top 1 = .ok (.getfield 78, 3) := fq3_180 (fl_X12_top_0 (j := 1) rfl rfl) (fl_X12_top_0 (j := 2) rfl rfl) (fl_X12_top_0 (j := 3) rfl rfl) rfl
theorem dX12_top_4 : decode cX12_top 4 = .ok (.lreturn, 1) := fq1_173 (fl_X12_top_0 (j := 4) rfl rfl)
end

section
set_option maxHeartbeats 4000000 in
set_option maxRecDepth 100000 in
theorem m_gives (l : Launch) (D : va_G) (k : Nat → ClassId) (hm : Nat) (Ma : Nat) (Mn : Nat) (Ms : Nat) (My : Nat) (Mt : Nat) (Mp : Nat) (Mx : Nat) (Mo : Nat) (Mk : Nat) (Ml : Nat) (Mb : Nat) (Mh : Nat) (Mc : Nat) (Mz : Nat) (Mr : Nat) (Mq : Nat) (Mst : Int) (Mtd : Int) (Msz : Int) (Mtk : Int) (Mfr : Int) (Men : Int) (Mva : Int) (Mfk : Int) (Mfp : Int) (Mfs : Int) (Mse : Int) (Mlt : Int) (Mdp : Int) (Mct : Int) (Mdr : Int) (Mrs : Int) (Mit : Int) (Mmk : Int) (Mtp : Int64) (Mbt : Int64) (x : Int) : WD (σ := ((Int) × (Int64) × (Unit) × (Unit))) l yX12_gives cX12_gives 2 (some .int) 0 0 0 D k [.ref hm, .int (iZ x)] [(hm, .inr (12, [.ref Ma, .ref Mn, .int (iZ Mst), .long Mtp, .long Mbt, .ref Ms, .ref My, .ref Mt, .ref Mp, .ref Mx, .int (iZ Mtd), .int (iZ Msz), .int (iZ Mtk), .int (iZ Mfr), .int (iZ Men), .int (iZ Mva), .int (iZ Mfk), .int (iZ Mfp), .int (iZ Mfs), .int (iZ Mse), .int (iZ Mlt), .ref Mo, .int (iZ Mdp), .int (iZ Mct), .ref Mk, .ref Ml, .ref Mb, .ref Mh, .ref Mc, .int (iZ Mdr), .int (iZ Mrs), .ref Mz, .ref Mr, .ref Mq, .int (iZ Mit), .int (iZ Mmk)]))] (fun _ => some (.int (iZ x))) (fun _ => True) (fun u => [(hm, .inr (12, [.ref Ma, .ref Mn, .int (iZ 0), .long Mtp, .long Mbt, .ref Ms, .ref My, .ref Mt, .ref Mp, .ref Mx, .int (iZ Mtd), .int (iZ Msz), .int (iZ Mtk), .int (iZ Mfr), .int (iZ Men), .int (iZ Mva), .int (iZ Mfk), .int (iZ Mfp), .int (iZ Mfs), .int (iZ Mse), .int (iZ Mlt), .ref Mo, .int (iZ Mdp), .int (iZ Mct), .ref Mk, .ref Ml, .ref Mb, .ref Mh, .ref Mc, .int (iZ Mdr), .int (iZ Mrs), .ref Mz, .ref Mr, .ref Mq, .int (iZ Mit), .int (iZ Mmk)]))]) := by
  refine MW (by decide) (Nat.le_of_ble_eq_true rfl) (fun p e s m below meth c ls A hx hb hml hr hlocks hin hts hown hKK hP hD hS hA hl => ?_)
  have hK := hKK.1
  have hl : lv_has ls 2 [(0, .ref hm), (1, .int (iZ x))] := hl
  refine lv_aload_n hx hb dX12_gives_0 rfl (lv_at hl 0 rfl) ?_
  refine lv_iconst (v := iZ 0) hx hb dX12_gives_1 rfl ?_
  refine va_put (D := D) (ci := 12) (v := .int (iZ 0)) (ty := .int) (C := RX12) (T := TX12) (N := 36) hx hb hts iX12 tyX12 tyX12_ok nmX12 hown hK hP hD hS 0 rfl rfl 2 (bl rfl) (hts _ qf_X12_75) (fun _ h => h) rfl (by decide +kernel) rfl rfl (Nat.le_of_ble_eq_true rfl) dX12_gives_2 (fun H locs hP hD hS => ?_)
  refine lv_iload_n hx hb dX12_gives_5 rfl (lv_at hl 1 rfl) ?_
  exact EWi hx hb hr hlocks hS (0, 0, (), ()) rfl trivial (hP.sub [0] rfl) (hD.sub [0] rfl rfl) dX12_gives_6
set_option maxHeartbeats 4000000 in
set_option maxRecDepth 100000 in
theorem m_refuse (l : Launch) (D : va_G) (k : Nat → ClassId) (hm : Nat) (Ma : Nat) (Mn : Nat) (Ms : Nat) (My : Nat) (Mt : Nat) (Mp : Nat) (Mx : Nat) (Mo : Nat) (Mk : Nat) (Ml : Nat) (Mb : Nat) (Mh : Nat) (Mc : Nat) (Mz : Nat) (Mr : Nat) (Mq : Nat) (Mst : Int) (Mtd : Int) (Msz : Int) (Mtk : Int) (Mfr : Int) (Men : Int) (Mva : Int) (Mfk : Int) (Mfp : Int) (Mfs : Int) (Mse : Int) (Mlt : Int) (Mdp : Int) (Mct : Int) (Mdr : Int) (Mrs : Int) (Mit : Int) (Mmk : Int) (Mtp : Int64) (Mbt : Int64) (x : Int) : WD (σ := ((Int) × (Int64) × (Unit) × (Unit))) l yX12_refuse cX12_refuse 2 (some .int) 0 0 0 D k [.ref hm, .int (iZ x)] [(hm, .inr (12, [.ref Ma, .ref Mn, .int (iZ Mst), .long Mtp, .long Mbt, .ref Ms, .ref My, .ref Mt, .ref Mp, .ref Mx, .int (iZ Mtd), .int (iZ Msz), .int (iZ Mtk), .int (iZ Mfr), .int (iZ Men), .int (iZ Mva), .int (iZ Mfk), .int (iZ Mfp), .int (iZ Mfs), .int (iZ Mse), .int (iZ Mlt), .ref Mo, .int (iZ Mdp), .int (iZ Mct), .ref Mk, .ref Ml, .ref Mb, .ref Mh, .ref Mc, .int (iZ Mdr), .int (iZ Mrs), .ref Mz, .ref Mr, .ref Mq, .int (iZ Mit), .int (iZ Mmk)]))] (fun _ => some (.int (iZ (-1)))) (fun _ => True) (fun u => [(hm, .inr (12, [.ref Ma, .ref Mn, .int (iZ x), .long Mtp, .long Mbt, .ref Ms, .ref My, .ref Mt, .ref Mp, .ref Mx, .int (iZ Mtd), .int (iZ Msz), .int (iZ Mtk), .int (iZ Mfr), .int (iZ Men), .int (iZ Mva), .int (iZ Mfk), .int (iZ Mfp), .int (iZ Mfs), .int (iZ Mse), .int (iZ Mlt), .ref Mo, .int (iZ Mdp), .int (iZ Mct), .ref Mk, .ref Ml, .ref Mb, .ref Mh, .ref Mc, .int (iZ Mdr), .int (iZ Mrs), .ref Mz, .ref Mr, .ref Mq, .int (iZ Mit), .int (iZ Mmk)]))]) := by
  refine MW (by decide) (Nat.le_of_ble_eq_true rfl) (fun p e s m below meth c ls A hx hb hml hr hlocks hin hts hown hKK hP hD hS hA hl => ?_)
  have hK := hKK.1
  have hl : lv_has ls 2 [(0, .ref hm), (1, .int (iZ x))] := hl
  refine lv_aload_n hx hb dX12_refuse_0 rfl (lv_at hl 0 rfl) ?_
  refine lv_iload_n hx hb dX12_refuse_1 rfl (lv_at hl 1 rfl) ?_
  refine va_put (D := D) (ci := 12) (v := .int (iZ x)) (ty := .int) (C := RX12) (T := TX12) (N := 36) hx hb hts iX12 tyX12 tyX12_ok nmX12 hown hK hP hD hS 0 rfl rfl 2 (bl rfl) (hts _ qf_X12_75) (fun _ h => h) rfl (by decide +kernel) rfl rfl (Nat.le_of_ble_eq_true rfl) dX12_refuse_2 (fun H locs hP hD hS => ?_)
  refine lv_iconst (v := iZ (-1)) hx hb dX12_refuse_5 rfl ?_
  exact EWi hx hb hr hlocks hS (0, 0, (), ()) rfl trivial (hP.sub [0] rfl) (hD.sub [0] rfl rfl) dX12_refuse_6
set_option maxHeartbeats 4000000 in
set_option maxRecDepth 100000 in
theorem m_isN (l : Launch) (D : va_G) (k : Nat → ClassId) (hm : Nat) (Ma : Nat) (Mn : Nat) (Ms : Nat) (My : Nat) (Mt : Nat) (Mp : Nat) (Mx : Nat) (Mo : Nat) (Mk : Nat) (Ml : Nat) (Mb : Nat) (Mh : Nat) (Mc : Nat) (Mz : Nat) (Mr : Nat) (Mq : Nat) (Mst : Int) (Mtd : Int) (Msz : Int) (Mtk : Int) (Mfr : Int) (Men : Int) (Mva : Int) (Mfk : Int) (Mfp : Int) (Mfs : Int) (Mse : Int) (Mlt : Int) (Mdp : Int) (Mct : Int) (Mdr : Int) (Mrs : Int) (Mit : Int) (Mmk : Int) (Mtp : Int64) (Mbt : Int64) (x : Int) (h9x : -2147483648 ≤ x ∧ x < 2147483648) (hne0 : ¬ x = 0) : WD (σ := ((Int) × (Int64) × (Unit) × (Unit))) l yX12_is cX12_is 2 (some .boolean) 0 0 0 D k [.ref hm, .int (iZ x)] [(hm, .inr (12, [.ref Ma, .ref Mn, .int (iZ Mst), .long Mtp, .long Mbt, .ref Ms, .ref My, .ref Mt, .ref Mp, .ref Mx, .int (iZ Mtd), .int (iZ Msz), .int (iZ Mtk), .int (iZ Mfr), .int (iZ Men), .int (iZ Mva), .int (iZ Mfk), .int (iZ Mfp), .int (iZ Mfs), .int (iZ Mse), .int (iZ Mlt), .ref Mo, .int (iZ Mdp), .int (iZ Mct), .ref Mk, .ref Ml, .ref Mb, .ref Mh, .ref Mc, .int (iZ Mdr), .int (iZ Mrs), .ref Mz, .ref Mr, .ref Mq, .int (iZ Mit), .int (iZ Mmk)]))] (fun _ => some (.int (iZ 0))) (fun _ => True) (fun u => [(hm, .inr (12, [.ref Ma, .ref Mn, .int (iZ x), .long Mtp, .long Mbt, .ref Ms, .ref My, .ref Mt, .ref Mp, .ref Mx, .int (iZ Mtd), .int (iZ Msz), .int (iZ Mtk), .int (iZ Mfr), .int (iZ Men), .int (iZ Mva), .int (iZ Mfk), .int (iZ Mfp), .int (iZ Mfs), .int (iZ Mse), .int (iZ Mlt), .ref Mo, .int (iZ Mdp), .int (iZ Mct), .ref Mk, .ref Ml, .ref Mb, .ref Mh, .ref Mc, .int (iZ Mdr), .int (iZ Mrs), .ref Mz, .ref Mr, .ref Mq, .int (iZ Mit), .int (iZ Mmk)]))]) := by
  refine MW (by decide) (Nat.le_of_ble_eq_true rfl) (fun p e s m below meth c ls A hx hb hml hr hlocks hin hts hown hKK hP hD hS hA hl => ?_)
  have hK := hKK.1
  have hl : lv_has ls 2 [(0, .ref hm), (1, .int (iZ x))] := hl
  refine lv_aload_n hx hb dX12_is_0 rfl (lv_at hl 0 rfl) ?_
  refine lv_iload_n hx hb dX12_is_1 rfl (lv_at hl 1 rfl) ?_
  refine va_put (D := D) (ci := 12) (v := .int (iZ x)) (ty := .int) (C := RX12) (T := TX12) (N := 36) hx hb hts iX12 tyX12 tyX12_ok nmX12 hown hK hP hD hS 0 rfl rfl 2 (bl rfl) (hts _ qf_X12_75) (fun _ h => h) rfl (by decide +kernel) rfl rfl (Nat.le_of_ble_eq_true rfl) dX12_is_2 (fun H locs hP hD hS => ?_)
  refine lv_iload_n hx hb dX12_is_5 rfl (lv_at hl 1 rfl) ?_
  refine lv_if_ne (tgt := 13) hx hb dX12_is_6 rfl (fun c_1 => ?_) (fun c_1 => ?_)
  ·
    have c_1 := mt (zeq (x := iZ x) (y := iZ 0) rfl rfl ⟨by omega, by omega⟩ wn_0).mpr c_1
    refine lv_iconst (v := iZ 0) hx hb dX12_is_13 rfl ?_
    exact EWz hx hb hr hlocks hS (0, 0, (), ()) rfl rfl trivial (hP.sub [0] rfl) (hD.sub [0] rfl rfl) dX12_is_14
  ·
    have c_1 := (zeq (x := iZ x) (y := iZ 0) rfl rfl ⟨by omega, by omega⟩ wn_0).mp c_1
    exact absurd c_1 (by omega)
set_option maxHeartbeats 4000000 in
set_option maxRecDepth 100000 in
theorem m_is0 (l : Launch) (D : va_G) (k : Nat → ClassId) (hm : Nat) (Ma : Nat) (Mn : Nat) (Ms : Nat) (My : Nat) (Mt : Nat) (Mp : Nat) (Mx : Nat) (Mo : Nat) (Mk : Nat) (Ml : Nat) (Mb : Nat) (Mh : Nat) (Mc : Nat) (Mz : Nat) (Mr : Nat) (Mq : Nat) (Mst : Int) (Mtd : Int) (Msz : Int) (Mtk : Int) (Mfr : Int) (Men : Int) (Mva : Int) (Mfk : Int) (Mfp : Int) (Mfs : Int) (Mse : Int) (Mlt : Int) (Mdp : Int) (Mct : Int) (Mdr : Int) (Mrs : Int) (Mit : Int) (Mmk : Int) (Mtp : Int64) (Mbt : Int64) : WD (σ := ((Int) × (Int64) × (Unit) × (Unit))) l yX12_is cX12_is 2 (some .boolean) 0 0 0 D k [.ref hm, .int (iZ 0)] [(hm, .inr (12, [.ref Ma, .ref Mn, .int (iZ Mst), .long Mtp, .long Mbt, .ref Ms, .ref My, .ref Mt, .ref Mp, .ref Mx, .int (iZ Mtd), .int (iZ Msz), .int (iZ Mtk), .int (iZ Mfr), .int (iZ Men), .int (iZ Mva), .int (iZ Mfk), .int (iZ Mfp), .int (iZ Mfs), .int (iZ Mse), .int (iZ Mlt), .ref Mo, .int (iZ Mdp), .int (iZ Mct), .ref Mk, .ref Ml, .ref Mb, .ref Mh, .ref Mc, .int (iZ Mdr), .int (iZ Mrs), .ref Mz, .ref Mr, .ref Mq, .int (iZ Mit), .int (iZ Mmk)]))] (fun _ => some (.int (iZ 1))) (fun _ => True) (fun u => [(hm, .inr (12, [.ref Ma, .ref Mn, .int (iZ 0), .long Mtp, .long Mbt, .ref Ms, .ref My, .ref Mt, .ref Mp, .ref Mx, .int (iZ Mtd), .int (iZ Msz), .int (iZ Mtk), .int (iZ Mfr), .int (iZ Men), .int (iZ Mva), .int (iZ Mfk), .int (iZ Mfp), .int (iZ Mfs), .int (iZ Mse), .int (iZ Mlt), .ref Mo, .int (iZ Mdp), .int (iZ Mct), .ref Mk, .ref Ml, .ref Mb, .ref Mh, .ref Mc, .int (iZ Mdr), .int (iZ Mrs), .ref Mz, .ref Mr, .ref Mq, .int (iZ Mit), .int (iZ Mmk)]))]) := by
  refine MW (by decide) (Nat.le_of_ble_eq_true rfl) (fun p e s m below meth c ls A hx hb hml hr hlocks hin hts hown hKK hP hD hS hA hl => ?_)
  have hK := hKK.1
  have hl : lv_has ls 2 [(0, .ref hm), (1, .int (iZ 0))] := hl
  refine lv_aload_n hx hb dX12_is_0 rfl (lv_at hl 0 rfl) ?_
  refine lv_iload_n hx hb dX12_is_1 rfl (lv_at hl 1 rfl) ?_
  refine va_put (D := D) (ci := 12) (v := .int (iZ 0)) (ty := .int) (C := RX12) (T := TX12) (N := 36) hx hb hts iX12 tyX12 tyX12_ok nmX12 hown hK hP hD hS 0 rfl rfl 2 (bl rfl) (hts _ qf_X12_75) (fun _ h => h) rfl (by decide +kernel) rfl rfl (Nat.le_of_ble_eq_true rfl) dX12_is_2 (fun H locs hP hD hS => ?_)
  refine lv_iload_n hx hb dX12_is_5 rfl (lv_at hl 1 rfl) ?_
  refine lv_if_ne (tgt := 13) hx hb dX12_is_6 rfl (fun c => absurd (by decide) c) (fun _ => ?_)
  refine lv_iconst (v := iZ 1) hx hb dX12_is_9 rfl ?_
  refine lv_goto (tgt := 14) hx hb dX12_is_10 rfl ?_
  exact EWz hx hb hr hlocks hS (0, 0, (), ()) rfl rfl trivial (hP.sub [0] rfl) (hD.sub [0] rfl rfl) dX12_is_14
set_option maxHeartbeats 4000000 in
set_option maxRecDepth 100000 in
theorem m_orNone (l : Launch) (D : va_G) (k : Nat → ClassId) (hm : Nat) (Ma : Nat) (Mn : Nat) (Ms : Nat) (My : Nat) (Mt : Nat) (Mp : Nat) (Mx : Nat) (Mo : Nat) (Mk : Nat) (Ml : Nat) (Mb : Nat) (Mh : Nat) (Mc : Nat) (Mz : Nat) (Mr : Nat) (Mq : Nat) (Mst : Int) (Mtd : Int) (Msz : Int) (Mtk : Int) (Mfr : Int) (Men : Int) (Mva : Int) (Mfk : Int) (Mfp : Int) (Mfs : Int) (Mse : Int) (Mlt : Int) (Mdp : Int) (Mct : Int) (Mdr : Int) (Mrs : Int) (Mit : Int) (Mmk : Int) (Mtp : Int64) (Mbt : Int64) (x : Int) (h9x : -2147483648 ≤ x ∧ x < 2147483648) : WD (σ := ((Int × Int) × (Int64) × (Unit) × (Unit))) l yX12_orNone cX12_orNone 2 (some .int) 1 0 0 D k [.ref hm, .int (iZ x)] [(hm, .inr (12, [.ref Ma, .ref Mn, .int (iZ Mst), .long Mtp, .long Mbt, .ref Ms, .ref My, .ref Mt, .ref Mp, .ref Mx, .int (iZ Mtd), .int (iZ Msz), .int (iZ Mtk), .int (iZ Mfr), .int (iZ Men), .int (iZ Mva), .int (iZ Mfk), .int (iZ Mfp), .int (iZ Mfs), .int (iZ Mse), .int (iZ Mlt), .ref Mo, .int (iZ Mdp), .int (iZ Mct), .ref Mk, .ref Ml, .ref Mb, .ref Mh, .ref Mc, .int (iZ Mdr), .int (iZ Mrs), .ref Mz, .ref Mr, .ref Mq, .int (iZ Mit), .int (iZ Mmk)]))] (fun _ => some (.int (iZ x))) (fun u => ((x : Int) = -1 ∧ u.1.2 = 6) ∨ (¬ (x : Int) = -1 ∧ u.1.2 = 0)) (fun u => [(hm, .inr (12, [.ref Ma, .ref Mn, .int (iZ u.1.2), .long Mtp, .long Mbt, .ref Ms, .ref My, .ref Mt, .ref Mp, .ref Mx, .int (iZ Mtd), .int (iZ Msz), .int (iZ Mtk), .int (iZ Mfr), .int (iZ Men), .int (iZ Mva), .int (iZ Mfk), .int (iZ Mfp), .int (iZ Mfs), .int (iZ Mse), .int (iZ Mlt), .ref Mo, .int (iZ Mdp), .int (iZ Mct), .ref Mk, .ref Ml, .ref Mb, .ref Mh, .ref Mc, .int (iZ Mdr), .int (iZ Mrs), .ref Mz, .ref Mr, .ref Mq, .int (iZ Mit), .int (iZ Mmk)]))]) := by
  refine MW (by decide) (Nat.le_of_ble_eq_true rfl) (fun p e s m below meth c ls A hx hb hml hr hlocks hin hts hown hKK hP hD hS hA hl => ?_)
  have hK := hKK.1
  have hl : lv_has ls 2 [(0, .ref hm), (1, .int (iZ x))] := hl
  refine lv_iload_n hx hb dX12_orNone_0 rfl (lv_at hl 1 rfl) ?_
  refine lv_iconst (v := iZ (-1)) hx hb dX12_orNone_1 rfl ?_
  refine lv_icmp_ne (tgt := 14) hx hb dX12_orNone_2 rfl (fun c_1 => ?_) (fun c_1 => ?_)
  ·
    have c_1 := mt (zeq (x := iZ x) (y := iZ (-1)) rfl rfl ⟨by omega, by omega⟩ wn_m1).mpr c_1
    refine lv_aload_n hx hb dX12_orNone_14 rfl (lv_at hl 0 rfl) ?_
    refine lv_iload_n hx hb dX12_orNone_15 rfl (lv_at hl 1 rfl) ?_
    refine CWV (As := [.int (iZ x)]) (rest := []) (wc := _) (wr := []) hx hb hml hown hts hKK hP hD hS hA (m_gives l D k hm Ma Mn Ms My Mt Mp Mx Mo Mk Ml Mb Mh Mc Mz Mr Mq Mst Mtd Msz Mtk Mfr Men Mva Mfk Mfp Mfs Mse Mlt Mdp Mct Mdr Mrs Mit Mmk Mtp Mbt x) ci_X12_gives qm_X12_85 ⟨Nat.le_of_ble_eq_true rfl, Nat.le_of_ble_eq_true rfl⟩ ⟨Nat.le_of_ble_eq_true rfl, Nat.le_of_ble_eq_true rfl⟩ [0] [] rfl rfl rfl rfl rfl (dj rfl) 0 rfl rfl rfl hl.1 rfl (Nat.le_of_ble_eq_true rfl) dX12_orNone_16 (fun u_2 H locs hφ hP hD hS => ?_)
    refine W.eq (g2 := F0 m 19 ls [.int (iZ x)]) rfl ?_
    exact EWi hx hb hr hlocks hS ((0, 0), 0, (), ()) rfl (show ((x : Int) = -1 ∧ 0 = 6) ∨ (¬ (x : Int) = -1 ∧ 0 = 0) from (by omega)) (hP.sub [0] rfl) (hD.sub [0] rfl rfl) dX12_orNone_19
  ·
    have c_1 := (zeq (x := iZ x) (y := iZ (-1)) rfl rfl ⟨by omega, by omega⟩ wn_m1).mp c_1
    refine lv_aload_n hx hb dX12_orNone_5 rfl (lv_at hl 0 rfl) ?_
    refine lv_bipush (v := iZ 6) hx hb dX12_orNone_6 bip_6 ?_
    refine CWV (As := [.int (iZ 6)]) (rest := []) (wc := _) (wr := []) hx hb hml hown hts hKK hP hD hS hA (m_refuse l D k hm Ma Mn Ms My Mt Mp Mx Mo Mk Ml Mb Mh Mc Mz Mr Mq Mst Mtd Msz Mtk Mfr Men Mva Mfk Mfp Mfs Mse Mlt Mdp Mct Mdr Mrs Mit Mmk Mtp Mbt 6) ci_X12_refuse qm_X12_81 ⟨Nat.le_of_ble_eq_true rfl, Nat.le_of_ble_eq_true rfl⟩ ⟨Nat.le_of_ble_eq_true rfl, Nat.le_of_ble_eq_true rfl⟩ [0] [] rfl rfl rfl rfl rfl (dj rfl) 0 rfl rfl rfl hl.1 rfl (Nat.le_of_ble_eq_true rfl) dX12_orNone_8 (fun u_3 H locs hφ hP hD hS => ?_)
    refine W.eq (g2 := F0 m 11 ls [.int (iZ (-1))]) rfl ?_
    refine lv_goto (tgt := 19) hx hb dX12_orNone_11 rfl ?_
    exact EWi hx hb hr hlocks hS ((0, 6), 0, (), ()) (congrArg (fun z9 => some (Value.int (iZ z9))) (show x = -1 from (by omega))) (show ((x : Int) = -1 ∧ 6 = 6) ∨ (¬ (x : Int) = -1 ∧ 6 = 0) from (by omega)) (hP.sub [0] rfl) (hD.sub [0] rfl rfl) dX12_orNone_19
set_option maxHeartbeats 4000000 in
set_option maxRecDepth 100000 in
theorem m_orNever (l : Launch) (D : va_G) (k : Nat → ClassId) (hm : Nat) (Ma : Nat) (Mn : Nat) (Ms : Nat) (My : Nat) (Mt : Nat) (Mp : Nat) (Mx : Nat) (Mo : Nat) (Mk : Nat) (Ml : Nat) (Mb : Nat) (Mh : Nat) (Mc : Nat) (Mz : Nat) (Mr : Nat) (Mq : Nat) (Mst : Int) (Mtd : Int) (Msz : Int) (Mtk : Int) (Mfr : Int) (Men : Int) (Mva : Int) (Mfk : Int) (Mfp : Int) (Mfs : Int) (Mse : Int) (Mlt : Int) (Mdp : Int) (Mct : Int) (Mdr : Int) (Mrs : Int) (Mit : Int) (Mmk : Int) (Mtp : Int64) (Mbt : Int64) (x : Int) (h9x : -2147483648 ≤ x ∧ x < 2147483648) : WD (σ := ((Int × Int) × (Int64) × (Unit) × (Unit))) l yX12_orNever cX12_orNever 2 (some .int) 1 0 0 D k [.ref hm, .int (iZ x)] [(hm, .inr (12, [.ref Ma, .ref Mn, .int (iZ Mst), .long Mtp, .long Mbt, .ref Ms, .ref My, .ref Mt, .ref Mp, .ref Mx, .int (iZ Mtd), .int (iZ Msz), .int (iZ Mtk), .int (iZ Mfr), .int (iZ Men), .int (iZ Mva), .int (iZ Mfk), .int (iZ Mfp), .int (iZ Mfs), .int (iZ Mse), .int (iZ Mlt), .ref Mo, .int (iZ Mdp), .int (iZ Mct), .ref Mk, .ref Ml, .ref Mb, .ref Mh, .ref Mc, .int (iZ Mdr), .int (iZ Mrs), .ref Mz, .ref Mr, .ref Mq, .int (iZ Mit), .int (iZ Mmk)]))] (fun u => some (.int (iZ u.1.1))) (fun u => ((x : Int) ≥ 1000000 ∧ u.1.1 = -1 ∧ u.1.2 = 6) ∨ ((x : Int) < 1000000 ∧ u.1.1 = x ∧ u.1.2 = 0)) (fun u => [(hm, .inr (12, [.ref Ma, .ref Mn, .int (iZ u.1.2), .long Mtp, .long Mbt, .ref Ms, .ref My, .ref Mt, .ref Mp, .ref Mx, .int (iZ Mtd), .int (iZ Msz), .int (iZ Mtk), .int (iZ Mfr), .int (iZ Men), .int (iZ Mva), .int (iZ Mfk), .int (iZ Mfp), .int (iZ Mfs), .int (iZ Mse), .int (iZ Mlt), .ref Mo, .int (iZ Mdp), .int (iZ Mct), .ref Mk, .ref Ml, .ref Mb, .ref Mh, .ref Mc, .int (iZ Mdr), .int (iZ Mrs), .ref Mz, .ref Mr, .ref Mq, .int (iZ Mit), .int (iZ Mmk)]))]) := by
  refine MW (by decide) (Nat.le_of_ble_eq_true rfl) (fun p e s m below meth c ls A hx hb hml hr hlocks hin hts hown hKK hP hD hS hA hl => ?_)
  have hK := hKK.1
  have hl : lv_has ls 2 [(0, .ref hm), (1, .int (iZ x))] := hl
  refine lv_iload_n hx hb dX12_orNever_0 rfl (lv_at hl 1 rfl) ?_
  refine lv_ldc (own := RX12) (v := 1000000) hx hb hown (hts _ qk_X12_88) dX12_orNever_1 ?_
  refine W.eq (g2 := F0 m 3 ls [.int (iZ 1000000), .int (iZ x)]) rfl ?_
  refine lv_icmp_lt (tgt := 15) hx hb dX12_orNever_3 rfl (fun c_1 => ?_) (fun c_1 => ?_)
  ·
    have c_1 := (zlt (x := iZ x) (y := iZ 1000000) rfl rfl ⟨by omega, by omega⟩ wn_1000000).mp c_1
    refine lv_aload_n hx hb dX12_orNever_15 rfl (lv_at hl 0 rfl) ?_
    refine lv_iload_n hx hb dX12_orNever_16 rfl (lv_at hl 1 rfl) ?_
    refine CWV (As := [.int (iZ x)]) (rest := []) (wc := _) (wr := []) hx hb hml hown hts hKK hP hD hS hA (m_gives l D k hm Ma Mn Ms My Mt Mp Mx Mo Mk Ml Mb Mh Mc Mz Mr Mq Mst Mtd Msz Mtk Mfr Men Mva Mfk Mfp Mfs Mse Mlt Mdp Mct Mdr Mrs Mit Mmk Mtp Mbt x) ci_X12_gives qm_X12_85 ⟨Nat.le_of_ble_eq_true rfl, Nat.le_of_ble_eq_true rfl⟩ ⟨Nat.le_of_ble_eq_true rfl, Nat.le_of_ble_eq_true rfl⟩ [0] [] rfl rfl rfl rfl rfl (dj rfl) 0 rfl rfl rfl hl.1 rfl (Nat.le_of_ble_eq_true rfl) dX12_orNever_17 (fun u_2 H locs hφ hP hD hS => ?_)
    refine W.eq (g2 := F0 m 20 ls [.int (iZ x)]) rfl ?_
    exact EWi hx hb hr hlocks hS ((x, 0), 0, (), ()) rfl (show ((x : Int) ≥ 1000000 ∧ x = -1 ∧ 0 = 6) ∨ ((x : Int) < 1000000 ∧ x = x ∧ 0 = 0) from (by omega)) (hP.sub [0] rfl) (hD.sub [0] rfl rfl) dX12_orNever_20
  ·
    have c_1 := mt (zlt (x := iZ x) (y := iZ 1000000) rfl rfl ⟨by omega, by omega⟩ wn_1000000).mpr c_1
    refine lv_aload_n hx hb dX12_orNever_6 rfl (lv_at hl 0 rfl) ?_
    refine lv_bipush (v := iZ 6) hx hb dX12_orNever_7 bip_6 ?_
    refine CWV (As := [.int (iZ 6)]) (rest := []) (wc := _) (wr := []) hx hb hml hown hts hKK hP hD hS hA (m_refuse l D k hm Ma Mn Ms My Mt Mp Mx Mo Mk Ml Mb Mh Mc Mz Mr Mq Mst Mtd Msz Mtk Mfr Men Mva Mfk Mfp Mfs Mse Mlt Mdp Mct Mdr Mrs Mit Mmk Mtp Mbt 6) ci_X12_refuse qm_X12_81 ⟨Nat.le_of_ble_eq_true rfl, Nat.le_of_ble_eq_true rfl⟩ ⟨Nat.le_of_ble_eq_true rfl, Nat.le_of_ble_eq_true rfl⟩ [0] [] rfl rfl rfl rfl rfl (dj rfl) 0 rfl rfl rfl hl.1 rfl (Nat.le_of_ble_eq_true rfl) dX12_orNever_9 (fun u_3 H locs hφ hP hD hS => ?_)
    refine W.eq (g2 := F0 m 12 ls [.int (iZ (-1))]) rfl ?_
    refine lv_goto (tgt := 20) hx hb dX12_orNever_12 rfl ?_
    exact EWi hx hb hr hlocks hS (((-1), 6), 0, (), ()) rfl (show ((x : Int) ≥ 1000000 ∧ (-1) = -1 ∧ 6 = 6) ∨ ((x : Int) < 1000000 ∧ (-1) = x ∧ 6 = 0) from (by omega)) (hP.sub [0] rfl) (hD.sub [0] rfl rfl) dX12_orNever_20
set_option maxHeartbeats 4000000 in
set_option maxRecDepth 100000 in
theorem m_status (l : Launch) (D : va_G) (k : Nat → ClassId) (hm : Nat) (Ma : Nat) (Mn : Nat) (Ms : Nat) (My : Nat) (Mt : Nat) (Mp : Nat) (Mx : Nat) (Mo : Nat) (Mk : Nat) (Ml : Nat) (Mb : Nat) (Mh : Nat) (Mc : Nat) (Mz : Nat) (Mr : Nat) (Mq : Nat) (Mst : Int) (Mtd : Int) (Msz : Int) (Mtk : Int) (Mfr : Int) (Men : Int) (Mva : Int) (Mfk : Int) (Mfp : Int) (Mfs : Int) (Mse : Int) (Mlt : Int) (Mdp : Int) (Mct : Int) (Mdr : Int) (Mrs : Int) (Mit : Int) (Mmk : Int) (Mtp : Int64) (Mbt : Int64) : WD (σ := ((Int) × (Int64) × (Unit) × (Unit))) l yX12_status cX12_status 1 (some .int) 0 0 0 D k [.ref hm] [(hm, .inr (12, [.ref Ma, .ref Mn, .int (iZ Mst), .long Mtp, .long Mbt, .ref Ms, .ref My, .ref Mt, .ref Mp, .ref Mx, .int (iZ Mtd), .int (iZ Msz), .int (iZ Mtk), .int (iZ Mfr), .int (iZ Men), .int (iZ Mva), .int (iZ Mfk), .int (iZ Mfp), .int (iZ Mfs), .int (iZ Mse), .int (iZ Mlt), .ref Mo, .int (iZ Mdp), .int (iZ Mct), .ref Mk, .ref Ml, .ref Mb, .ref Mh, .ref Mc, .int (iZ Mdr), .int (iZ Mrs), .ref Mz, .ref Mr, .ref Mq, .int (iZ Mit), .int (iZ Mmk)]))] (fun _ => some (.int (iZ Mst))) (fun _ => True) (fun u => [(hm, .inr (12, [.ref Ma, .ref Mn, .int (iZ Mst), .long Mtp, .long Mbt, .ref Ms, .ref My, .ref Mt, .ref Mp, .ref Mx, .int (iZ Mtd), .int (iZ Msz), .int (iZ Mtk), .int (iZ Mfr), .int (iZ Men), .int (iZ Mva), .int (iZ Mfk), .int (iZ Mfp), .int (iZ Mfs), .int (iZ Mse), .int (iZ Mlt), .ref Mo, .int (iZ Mdp), .int (iZ Mct), .ref Mk, .ref Ml, .ref Mb, .ref Mh, .ref Mc, .int (iZ Mdr), .int (iZ Mrs), .ref Mz, .ref Mr, .ref Mq, .int (iZ Mit), .int (iZ Mmk)]))]) := by
  refine MW (by decide) (Nat.le_of_ble_eq_true rfl) (fun p e s m below meth c ls A hx hb hml hr hlocks hin hts hown hKK hP hD hS hA hl => ?_)
  have hK := hKK.1
  have hl : lv_has ls 1 [(0, .ref hm)] := hl
  refine lv_aload_n hx hb dX12_status_0 rfl (lv_at hl 0 rfl) ?_
  refine va_get (D := D) (ci := 12) (v := .int (iZ Mst)) (C := RX12) (T := TX12) (N := 36) hx hb hts iX12 hown hK hP 0 rfl rfl 2 (bl rfl) (hts _ qf_X12_75) (fun _ h => h) rfl dX12_status_1 ?_
  exact EWi hx hb hr hlocks hS (0, 0, (), ()) rfl trivial (hP.sub [0] rfl) (hD.sub [0] rfl rfl) dX12_status_4
set_option maxHeartbeats 4000000 in
set_option maxRecDepth 100000 in
theorem m_top (l : Launch) (D : va_G) (k : Nat → ClassId) (hm : Nat) (Ma : Nat) (Mn : Nat) (Ms : Nat) (My : Nat) (Mt : Nat) (Mp : Nat) (Mx : Nat) (Mo : Nat) (Mk : Nat) (Ml : Nat) (Mb : Nat) (Mh : Nat) (Mc : Nat) (Mz : Nat) (Mr : Nat) (Mq : Nat) (Mst : Int) (Mtd : Int) (Msz : Int) (Mtk : Int) (Mfr : Int) (Men : Int) (Mva : Int) (Mfk : Int) (Mfp : Int) (Mfs : Int) (Mse : Int) (Mlt : Int) (Mdp : Int) (Mct : Int) (Mdr : Int) (Mrs : Int) (Mit : Int) (Mmk : Int) (Mtp : Int64) (Mbt : Int64) : WD (σ := ((Int) × (Int64) × (Unit) × (Unit))) l yX12_top cX12_top 1 (some .long) 0 0 0 D k [.ref hm] [(hm, .inr (12, [.ref Ma, .ref Mn, .int (iZ Mst), .long Mtp, .long Mbt, .ref Ms, .ref My, .ref Mt, .ref Mp, .ref Mx, .int (iZ Mtd), .int (iZ Msz), .int (iZ Mtk), .int (iZ Mfr), .int (iZ Men), .int (iZ Mva), .int (iZ Mfk), .int (iZ Mfp), .int (iZ Mfs), .int (iZ Mse), .int (iZ Mlt), .ref Mo, .int (iZ Mdp), .int (iZ Mct), .ref Mk, .ref Ml, .ref Mb, .ref Mh, .ref Mc, .int (iZ Mdr), .int (iZ Mrs), .ref Mz, .ref Mr, .ref Mq, .int (iZ Mit), .int (iZ Mmk)]))] (fun u => some (.long u.2.1)) (fun _ => True) (fun u => [(hm, .inr (12, [.ref Ma, .ref Mn, .int (iZ Mst), .long Mtp, .long Mbt, .ref Ms, .ref My, .ref Mt, .ref Mp, .ref Mx, .int (iZ Mtd), .int (iZ Msz), .int (iZ Mtk), .int (iZ Mfr), .int (iZ Men), .int (iZ Mva), .int (iZ Mfk), .int (iZ Mfp), .int (iZ Mfs), .int (iZ Mse), .int (iZ Mlt), .ref Mo, .int (iZ Mdp), .int (iZ Mct), .ref Mk, .ref Ml, .ref Mb, .ref Mh, .ref Mc, .int (iZ Mdr), .int (iZ Mrs), .ref Mz, .ref Mr, .ref Mq, .int (iZ Mit), .int (iZ Mmk)]))]) := by
  refine MW (by decide) (Nat.le_of_ble_eq_true rfl) (fun p e s m below meth c ls A hx hb hml hr hlocks hin hts hown hKK hP hD hS hA hl => ?_)
  have hK := hKK.1
  have hl : lv_has ls 1 [(0, .ref hm)] := hl
  refine lv_aload_n hx hb dX12_top_0 rfl (lv_at hl 0 rfl) ?_
  refine va_get (D := D) (ci := 12) (v := .long Mtp) (C := RX12) (T := TX12) (N := 36) hx hb hts iX12 hown hK hP 0 rfl rfl 3 (bl rfl) (hts _ qf_X12_78) (fun _ h => h) rfl dX12_top_1 ?_
  exact EWl hx hb hr hlocks hS (0, Mtp, (), ()) rfl trivial (hP.sub [0] rfl) (hD.sub [0] rfl rfl) dX12_top_4
set_option maxHeartbeats 4000000 in
set_option maxRecDepth 100000 in
theorem m_bottom (l : Launch) (D : va_G) (k : Nat → ClassId) (hm : Nat) (Ma : Nat) (Mn : Nat) (Ms : Nat) (My : Nat) (Mt : Nat) (Mp : Nat) (Mx : Nat) (Mo : Nat) (Mk : Nat) (Ml : Nat) (Mb : Nat) (Mh : Nat) (Mc : Nat) (Mz : Nat) (Mr : Nat) (Mq : Nat) (Mst : Int) (Mtd : Int) (Msz : Int) (Mtk : Int) (Mfr : Int) (Men : Int) (Mva : Int) (Mfk : Int) (Mfp : Int) (Mfs : Int) (Mse : Int) (Mlt : Int) (Mdp : Int) (Mct : Int) (Mdr : Int) (Mrs : Int) (Mit : Int) (Mmk : Int) (Mtp : Int64) (Mbt : Int64) : WD (σ := ((Int) × (Int64) × (Unit) × (Unit))) l yX12_bottom cX12_bottom 1 (some .long) 0 0 0 D k [.ref hm] [(hm, .inr (12, [.ref Ma, .ref Mn, .int (iZ Mst), .long Mtp, .long Mbt, .ref Ms, .ref My, .ref Mt, .ref Mp, .ref Mx, .int (iZ Mtd), .int (iZ Msz), .int (iZ Mtk), .int (iZ Mfr), .int (iZ Men), .int (iZ Mva), .int (iZ Mfk), .int (iZ Mfp), .int (iZ Mfs), .int (iZ Mse), .int (iZ Mlt), .ref Mo, .int (iZ Mdp), .int (iZ Mct), .ref Mk, .ref Ml, .ref Mb, .ref Mh, .ref Mc, .int (iZ Mdr), .int (iZ Mrs), .ref Mz, .ref Mr, .ref Mq, .int (iZ Mit), .int (iZ Mmk)]))] (fun u => some (.long u.2.1)) (fun _ => True) (fun u => [(hm, .inr (12, [.ref Ma, .ref Mn, .int (iZ Mst), .long Mtp, .long Mbt, .ref Ms, .ref My, .ref Mt, .ref Mp, .ref Mx, .int (iZ Mtd), .int (iZ Msz), .int (iZ Mtk), .int (iZ Mfr), .int (iZ Men), .int (iZ Mva), .int (iZ Mfk), .int (iZ Mfp), .int (iZ Mfs), .int (iZ Mse), .int (iZ Mlt), .ref Mo, .int (iZ Mdp), .int (iZ Mct), .ref Mk, .ref Ml, .ref Mb, .ref Mh, .ref Mc, .int (iZ Mdr), .int (iZ Mrs), .ref Mz, .ref Mr, .ref Mq, .int (iZ Mit), .int (iZ Mmk)]))]) := by
  refine MW (by decide) (Nat.le_of_ble_eq_true rfl) (fun p e s m below meth c ls A hx hb hml hr hlocks hin hts hown hKK hP hD hS hA hl => ?_)
  have hK := hKK.1
  have hl : lv_has ls 1 [(0, .ref hm)] := hl
  refine lv_aload_n hx hb dX12_bottom_0 rfl (lv_at hl 0 rfl) ?_
  refine va_get (D := D) (ci := 12) (v := .long Mbt) (C := RX12) (T := TX12) (N := 36) hx hb hts iX12 hown hK hP 0 rfl rfl 4 (bl rfl) (hts _ qf_X12_17) (fun _ h => h) rfl dX12_bottom_1 ?_
  exact EWl hx hb hr hlocks hS (0, Mbt, (), ()) rfl trivial (hP.sub [0] rfl) (hD.sub [0] rfl rfl) dX12_bottom_4
set_option maxHeartbeats 4000000 in
set_option maxRecDepth 100000 in
theorem q_rock (l : Launch) (D : va_G) (k : Nat → ClassId) (hm : Nat) (Ma : Nat) (Mn : Nat) (Ms : Nat) (My : Nat) (Mt : Nat) (Mp : Nat) (Mx : Nat) (Mo : Nat) (Mk : Nat) (Ml : Nat) (Mb : Nat) (Mh : Nat) (Mc : Nat) (Mz : Nat) (Mr : Nat) (Mq : Nat) (Mst : Int) (Mtd : Int) (Msz : Int) (Mtk : Int) (Mfr : Int) (Men : Int) (Mva : Int) (Mfk : Int) (Mfp : Int) (Mfs : Int) (Mse : Int) (Mlt : Int) (Mdp : Int) (Mct : Int) (Mdr : Int) (Mrs : Int) (Mit : Int) (Mmk : Int) (Mtp : Int64) (Mbt : Int64) (Af : Nat → Int32) (x1 : Int) (x2 : Int) (hM : M0 Af) (h9x1 : -2147483648 ≤ x1 ∧ x1 < 2147483648) (h9x2 : -2147483648 ≤ x2 ∧ x2 < 2147483648) : WD (σ := ((Int × Int) × (Int64) × (Unit) × (Unit))) l yX12_rock cX12_rock 3 (some .int) 1 0 0 D k [.ref hm, .int (iZ x1), .int (iZ x2)] [(hm, .inr (12, [.ref Ma, .ref Mn, .int (iZ Mst), .long Mtp, .long Mbt, .ref Ms, .ref My, .ref Mt, .ref Mp, .ref Mx, .int (iZ Mtd), .int (iZ Msz), .int (iZ Mtk), .int (iZ Mfr), .int (iZ Men), .int (iZ Mva), .int (iZ Mfk), .int (iZ Mfp), .int (iZ Mfs), .int (iZ Mse), .int (iZ Mlt), .ref Mo, .int (iZ Mdp), .int (iZ Mct), .ref Mk, .ref Ml, .ref Mb, .ref Mh, .ref Mc, .int (iZ Mdr), .int (iZ Mrs), .ref Mz, .ref Mr, .ref Mq, .int (iZ Mit), .int (iZ Mmk)])), (Ma, .inl (k 1, 5340, .inl Af))] (fun u => some (.int (iZ u.1.1))) (fun u => (((0 ≤ x1 ∧ x1 < (gz Af 0)) ∧ (0 ≤ x2 ∧ x2 ≤ 5)) ∧ (u.1.1 : Int) = gz Af ((10 + (6 * x1)) + x2)) ∨ (¬ ((0 ≤ x1 ∧ x1 < (gz Af 0)) ∧ (0 ≤ x2 ∧ x2 ≤ 5)) ∧ (u.1.1 : Int) = -1)) (fun u => [(hm, .inr (12, [.ref Ma, .ref Mn, .int (iZ u.1.2), .long Mtp, .long Mbt, .ref Ms, .ref My, .ref Mt, .ref Mp, .ref Mx, .int (iZ Mtd), .int (iZ Msz), .int (iZ Mtk), .int (iZ Mfr), .int (iZ Men), .int (iZ Mva), .int (iZ Mfk), .int (iZ Mfp), .int (iZ Mfs), .int (iZ Mse), .int (iZ Mlt), .ref Mo, .int (iZ Mdp), .int (iZ Mct), .ref Mk, .ref Ml, .ref Mb, .ref Mh, .ref Mc, .int (iZ Mdr), .int (iZ Mrs), .ref Mz, .ref Mr, .ref Mq, .int (iZ Mit), .int (iZ Mmk)])), (Ma, .inl (k 1, 5340, .inl Af))]) := by
  refine MW (by decide) (Nat.le_of_ble_eq_true rfl) (fun p e s m below meth c ls A hx hb hml hr hlocks hin hts hown hKK hP hD hS hA hl => ?_)
  have hK := hKK.1
  have hl : lv_has ls 3 [(0, .ref hm), (1, .int (iZ x1)), (2, .int (iZ x2))] := hl
  obtain ⟨m0, m1, m3, m4, m5, mF, mO, mS⟩ := id hM
  refine lv_aload_n hx hb dX12_rock_0 rfl (lv_at hl 0 rfl) ?_
  refine lv_iload_n hx hb dX12_rock_1 rfl (lv_at hl 1 rfl) ?_
  refine CPV (As := [.int (iZ x1)]) (rest := []) hx hb hml hown hts hKK hP (m_isRock l D k ([.ref Ma, .ref Mn, .int (iZ Mst), .long Mtp, .long Mbt, .ref Ms, .ref My, .ref Mt, .ref Mp, .ref Mx, .int (iZ Mtd), .int (iZ Msz), .int (iZ Mtk), .int (iZ Mfr), .int (iZ Men), .int (iZ Mva), .int (iZ Mfk), .int (iZ Mfp), .int (iZ Mfs), .int (iZ Mse), .int (iZ Mlt), .ref Mo, .int (iZ Mdp), .int (iZ Mct), .ref Mk, .ref Ml, .ref Mb, .ref Mh, .ref Mc, .int (iZ Mdr), .int (iZ Mrs), .ref Mz, .ref Mr, .ref Mq, .int (iZ Mit), .int (iZ Mmk)]) hm Ma Af x1 rfl hM ⟨by omega, by omega⟩) ci_X12_isRock qm_X12_243 ⟨Nat.le_of_ble_eq_true rfl, Nat.le_of_ble_eq_true rfl⟩ ⟨Nat.le_of_ble_eq_true rfl, Nat.le_of_ble_eq_true rfl⟩ 0 rfl rfl rfl hl.1 rfl (Nat.le_of_ble_eq_true rfl) dX12_rock_2 (fun z_1 hz_1 => ?_)
  rcases hz_1 with ⟨qz_1, hz_1⟩ | ⟨qz_1, hz_1⟩
  ·
    subst qz_1
    refine lv_if_eq (tgt := 35) hx hb dX12_rock_5 rfl (fun c => absurd c (by decide)) (fun _ => ?_)
    refine lv_iload_n hx hb dX12_rock_8 rfl (lv_at hl 2 rfl) ?_
    refine lv_if_lt (tgt := 35) hx hb dX12_rock_9 rfl (fun c_3 => ?_) (fun c_3 => ?_)
    ·
      have c_3 := (zlt (x := iZ x2) (y := iZ 0) rfl rfl ⟨by omega, by omega⟩ wn_0).mp c_3
      refine lv_aload_n hx hb dX12_rock_35 rfl (lv_at hl 0 rfl) ?_
      refine lv_iconst (v := iZ 1) hx hb dX12_rock_36 rfl ?_
      refine CWV (As := [.int (iZ 1)]) (rest := []) (wc := _) (wr := [(Ma, .inl (k 1, 5340, .inl Af))]) hx hb hml hown hts hKK hP hD hS hA (m_refuse l D k hm Ma Mn Ms My Mt Mp Mx Mo Mk Ml Mb Mh Mc Mz Mr Mq Mst Mtd Msz Mtk Mfr Men Mva Mfk Mfp Mfs Mse Mlt Mdp Mct Mdr Mrs Mit Mmk Mtp Mbt 1) ci_X12_refuse qm_X12_81 ⟨Nat.le_of_ble_eq_true rfl, Nat.le_of_ble_eq_true rfl⟩ ⟨Nat.le_of_ble_eq_true rfl, Nat.le_of_ble_eq_true rfl⟩ [0] [1] rfl rfl rfl rfl rfl (dj rfl) 0 rfl rfl rfl hl.1 rfl (Nat.le_of_ble_eq_true rfl) dX12_rock_37 (fun u_4 H locs hφ hP hD hS => ?_)
      refine W.eq (g2 := F0 m 40 ls [.int (iZ (-1))]) rfl ?_
      exact EWi hx hb hr hlocks hS (((-1), 1), 0, (), ()) rfl (show (((0 ≤ x1 ∧ x1 < (gz Af 0)) ∧ (0 ≤ x2 ∧ x2 ≤ 5)) ∧ ((-1) : Int) = gz Af ((10 + (6 * x1)) + x2)) ∨ (¬ ((0 ≤ x1 ∧ x1 < (gz Af 0)) ∧ (0 ≤ x2 ∧ x2 ≤ 5)) ∧ ((-1) : Int) = -1) from (by omega)) (hP.sub [1, 0] rfl) (hD.sub [1, 0] rfl rfl) dX12_rock_40
    ·
      have c_3 := mt (zlt (x := iZ x2) (y := iZ 0) rfl rfl ⟨by omega, by omega⟩ wn_0).mpr c_3
      refine lv_iload_n hx hb dX12_rock_12 rfl (lv_at hl 2 rfl) ?_
      refine lv_iconst (v := iZ 5) hx hb dX12_rock_13 rfl ?_
      refine lv_icmp_gt (tgt := 35) hx hb dX12_rock_14 rfl (fun c_5 => ?_) (fun c_5 => ?_)
      ·
        have c_5 := (zlt (x := iZ 5) (y := iZ x2) rfl rfl wn_5 ⟨by omega, by omega⟩).mp c_5
        refine lv_aload_n hx hb dX12_rock_35 rfl (lv_at hl 0 rfl) ?_
        refine lv_iconst (v := iZ 1) hx hb dX12_rock_36 rfl ?_
        refine CWV (As := [.int (iZ 1)]) (rest := []) (wc := _) (wr := [(Ma, .inl (k 1, 5340, .inl Af))]) hx hb hml hown hts hKK hP hD hS hA (m_refuse l D k hm Ma Mn Ms My Mt Mp Mx Mo Mk Ml Mb Mh Mc Mz Mr Mq Mst Mtd Msz Mtk Mfr Men Mva Mfk Mfp Mfs Mse Mlt Mdp Mct Mdr Mrs Mit Mmk Mtp Mbt 1) ci_X12_refuse qm_X12_81 ⟨Nat.le_of_ble_eq_true rfl, Nat.le_of_ble_eq_true rfl⟩ ⟨Nat.le_of_ble_eq_true rfl, Nat.le_of_ble_eq_true rfl⟩ [0] [1] rfl rfl rfl rfl rfl (dj rfl) 0 rfl rfl rfl hl.1 rfl (Nat.le_of_ble_eq_true rfl) dX12_rock_37 (fun u_6 H locs hφ hP hD hS => ?_)
        refine W.eq (g2 := F0 m 40 ls [.int (iZ (-1))]) rfl ?_
        exact EWi hx hb hr hlocks hS (((-1), 1), 0, (), ()) rfl (show (((0 ≤ x1 ∧ x1 < (gz Af 0)) ∧ (0 ≤ x2 ∧ x2 ≤ 5)) ∧ ((-1) : Int) = gz Af ((10 + (6 * x1)) + x2)) ∨ (¬ ((0 ≤ x1 ∧ x1 < (gz Af 0)) ∧ (0 ≤ x2 ∧ x2 ≤ 5)) ∧ ((-1) : Int) = -1) from (by omega)) (hP.sub [1, 0] rfl) (hD.sub [1, 0] rfl rfl) dX12_rock_40
      ·
        have c_5 := mt (zlt (x := iZ 5) (y := iZ x2) rfl rfl wn_5 ⟨by omega, by omega⟩).mpr c_5
        refine lv_aload_n hx hb dX12_rock_17 rfl (lv_at hl 0 rfl) ?_
        refine lv_aload_n hx hb dX12_rock_18 rfl (lv_at hl 0 rfl) ?_
        refine va_get (D := D) (ci := 12) (v := .ref Ma) (C := RX12) (T := TX12) (N := 36) hx hb hts iX12 hown hK hP 0 rfl rfl 0 (bl rfl) (hts _ qf_X12_7) (fun _ h => h) rfl dX12_rock_19 ?_
        refine lv_iload_n hx hb dX12_rock_22 rfl (lv_at hl 1 rfl) ?_
        refine CRS (As := [.int (iZ x1)]) (rest := [.ref Ma, .ref hm]) hx hb hml hown hts hKK (hP.sub (ws' := []) [] rfl) (m_rockRow l D k x1) ci_X12_rockRow qm_X12_246 ⟨Nat.le_of_ble_eq_true rfl, Nat.le_of_ble_eq_true rfl⟩ ⟨Nat.le_of_ble_eq_true rfl, Nat.le_of_ble_eq_true rfl⟩ rfl hl.1 rfl (Nat.le_of_ble_eq_true rfl) dX12_rock_23 ?_
        refine lv_iload_n hx hb dX12_rock_26 rfl (lv_at hl 2 rfl) ?_
        refine lv_iadd hx hb dX12_rock_27 ?_
        refine lv_topi (fun x_7 ex_7 => ?_)
        obtain rfl : x_7 = iZ ((10 + (6 * x1)) + x2) := ex_7.trans (iZ_add (10 + (6 * x1)) x2)
        refine va_iald hx hb hK hP 1 1 rfl rfl (zin (e := ((10 + (6 * x1)) + x2)) (n := 5340) ⟨by omega, by omega⟩ (bl rfl)) dX12_rock_28 ?_
        refine lv_topi (fun x_8 ex_8 => ?_)
        obtain rfl : x_8 = iZ (gz Af ((10 + (6 * x1)) + x2)) := ex_8.trans (gz_eq ⟨by omega, by omega⟩)
        have h_9 := gz_rg Af ((10 + (6 * x1)) + x2)
        refine CWV (As := [.int (iZ (gz Af ((10 + (6 * x1)) + x2)))]) (rest := []) (wc := _) (wr := [(Ma, .inl (k 1, 5340, .inl Af))]) hx hb hml hown hts hKK hP hD hS hA (m_gives l D k hm Ma Mn Ms My Mt Mp Mx Mo Mk Ml Mb Mh Mc Mz Mr Mq Mst Mtd Msz Mtk Mfr Men Mva Mfk Mfp Mfs Mse Mlt Mdp Mct Mdr Mrs Mit Mmk Mtp Mbt (gz Af ((10 + (6 * x1)) + x2))) ci_X12_gives qm_X12_85 ⟨Nat.le_of_ble_eq_true rfl, Nat.le_of_ble_eq_true rfl⟩ ⟨Nat.le_of_ble_eq_true rfl, Nat.le_of_ble_eq_true rfl⟩ [0] [1] rfl rfl rfl rfl rfl (dj rfl) 0 rfl rfl rfl hl.1 rfl (Nat.le_of_ble_eq_true rfl) dX12_rock_29 (fun u_10 H locs hφ hP hD hS => ?_)
        refine W.eq (g2 := F0 m 32 ls [.int (iZ (gz Af ((10 + (6 * x1)) + x2)))]) rfl ?_
        refine lv_goto (tgt := 40) hx hb dX12_rock_32 rfl ?_
        exact EWi hx hb hr hlocks hS (((gz Af ((10 + (6 * x1)) + x2)), 0), 0, (), ()) rfl (show (((0 ≤ x1 ∧ x1 < (gz Af 0)) ∧ (0 ≤ x2 ∧ x2 ≤ 5)) ∧ ((gz Af ((10 + (6 * x1)) + x2)) : Int) = gz Af ((10 + (6 * x1)) + x2)) ∨ (¬ ((0 ≤ x1 ∧ x1 < (gz Af 0)) ∧ (0 ≤ x2 ∧ x2 ≤ 5)) ∧ ((gz Af ((10 + (6 * x1)) + x2)) : Int) = -1) from (by omega)) (hP.sub [1, 0] rfl) (hD.sub [1, 0] rfl rfl) dX12_rock_40
  ·
    subst qz_1
    refine lv_if_eq (tgt := 35) hx hb dX12_rock_5 rfl (fun _ => ?_) (fun c => absurd (by decide) c)
    refine lv_aload_n hx hb dX12_rock_35 rfl (lv_at hl 0 rfl) ?_
    refine lv_iconst (v := iZ 1) hx hb dX12_rock_36 rfl ?_
    refine CWV (As := [.int (iZ 1)]) (rest := []) (wc := _) (wr := [(Ma, .inl (k 1, 5340, .inl Af))]) hx hb hml hown hts hKK hP hD hS hA (m_refuse l D k hm Ma Mn Ms My Mt Mp Mx Mo Mk Ml Mb Mh Mc Mz Mr Mq Mst Mtd Msz Mtk Mfr Men Mva Mfk Mfp Mfs Mse Mlt Mdp Mct Mdr Mrs Mit Mmk Mtp Mbt 1) ci_X12_refuse qm_X12_81 ⟨Nat.le_of_ble_eq_true rfl, Nat.le_of_ble_eq_true rfl⟩ ⟨Nat.le_of_ble_eq_true rfl, Nat.le_of_ble_eq_true rfl⟩ [0] [1] rfl rfl rfl rfl rfl (dj rfl) 0 rfl rfl rfl hl.1 rfl (Nat.le_of_ble_eq_true rfl) dX12_rock_37 (fun u_12 H locs hφ hP hD hS => ?_)
    refine W.eq (g2 := F0 m 40 ls [.int (iZ (-1))]) rfl ?_
    exact EWi hx hb hr hlocks hS (((-1), 1), 0, (), ()) rfl (show (((0 ≤ x1 ∧ x1 < (gz Af 0)) ∧ (0 ≤ x2 ∧ x2 ≤ 5)) ∧ ((-1) : Int) = gz Af ((10 + (6 * x1)) + x2)) ∨ (¬ ((0 ≤ x1 ∧ x1 < (gz Af 0)) ∧ (0 ≤ x2 ∧ x2 ≤ 5)) ∧ ((-1) : Int) = -1) from (by omega)) (hP.sub [1, 0] rfl) (hD.sub [1, 0] rfl rfl) dX12_rock_40
set_option maxHeartbeats 4000000 in
set_option maxRecDepth 100000 in
theorem q_ice (l : Launch) (D : va_G) (k : Nat → ClassId) (hm : Nat) (Ma : Nat) (Mn : Nat) (Ms : Nat) (My : Nat) (Mt : Nat) (Mp : Nat) (Mx : Nat) (Mo : Nat) (Mk : Nat) (Ml : Nat) (Mb : Nat) (Mh : Nat) (Mc : Nat) (Mz : Nat) (Mr : Nat) (Mq : Nat) (Mst : Int) (Mtd : Int) (Msz : Int) (Mtk : Int) (Mfr : Int) (Men : Int) (Mva : Int) (Mfk : Int) (Mfp : Int) (Mfs : Int) (Mse : Int) (Mlt : Int) (Mdp : Int) (Mct : Int) (Mdr : Int) (Mrs : Int) (Mit : Int) (Mmk : Int) (Mtp : Int64) (Mbt : Int64) (Af : Nat → Int32) (x1 : Int) (x2 : Int) (hM : M0 Af) (h9x1 : -2147483648 ≤ x1 ∧ x1 < 2147483648) (h9x2 : -2147483648 ≤ x2 ∧ x2 < 2147483648) : WD (σ := ((Int × Int) × (Int64) × (Unit) × (Unit))) l yX12_ice cX12_ice 3 (some .int) 1 0 0 D k [.ref hm, .int (iZ x1), .int (iZ x2)] [(hm, .inr (12, [.ref Ma, .ref Mn, .int (iZ Mst), .long Mtp, .long Mbt, .ref Ms, .ref My, .ref Mt, .ref Mp, .ref Mx, .int (iZ Mtd), .int (iZ Msz), .int (iZ Mtk), .int (iZ Mfr), .int (iZ Men), .int (iZ Mva), .int (iZ Mfk), .int (iZ Mfp), .int (iZ Mfs), .int (iZ Mse), .int (iZ Mlt), .ref Mo, .int (iZ Mdp), .int (iZ Mct), .ref Mk, .ref Ml, .ref Mb, .ref Mh, .ref Mc, .int (iZ Mdr), .int (iZ Mrs), .ref Mz, .ref Mr, .ref Mq, .int (iZ Mit), .int (iZ Mmk)])), (Ma, .inl (k 1, 5340, .inl Af))] (fun u => some (.int (iZ u.1.1))) (fun u => (((0 ≤ x1 ∧ x1 < (gz Af 1)) ∧ (0 ≤ x2 ∧ x2 ≤ 3)) ∧ (u.1.1 : Int) = gz Af ((46 + (4 * x1)) + x2)) ∨ (¬ ((0 ≤ x1 ∧ x1 < (gz Af 1)) ∧ (0 ≤ x2 ∧ x2 ≤ 3)) ∧ (u.1.1 : Int) = -1)) (fun u => [(hm, .inr (12, [.ref Ma, .ref Mn, .int (iZ u.1.2), .long Mtp, .long Mbt, .ref Ms, .ref My, .ref Mt, .ref Mp, .ref Mx, .int (iZ Mtd), .int (iZ Msz), .int (iZ Mtk), .int (iZ Mfr), .int (iZ Men), .int (iZ Mva), .int (iZ Mfk), .int (iZ Mfp), .int (iZ Mfs), .int (iZ Mse), .int (iZ Mlt), .ref Mo, .int (iZ Mdp), .int (iZ Mct), .ref Mk, .ref Ml, .ref Mb, .ref Mh, .ref Mc, .int (iZ Mdr), .int (iZ Mrs), .ref Mz, .ref Mr, .ref Mq, .int (iZ Mit), .int (iZ Mmk)])), (Ma, .inl (k 1, 5340, .inl Af))]) := by
  refine MW (by decide) (Nat.le_of_ble_eq_true rfl) (fun p e s m below meth c ls A hx hb hml hr hlocks hin hts hown hKK hP hD hS hA hl => ?_)
  have hK := hKK.1
  have hl : lv_has ls 3 [(0, .ref hm), (1, .int (iZ x1)), (2, .int (iZ x2))] := hl
  obtain ⟨m0, m1, m3, m4, m5, mF, mO, mS⟩ := id hM
  refine lv_iload_n hx hb dX12_ice_0 rfl (lv_at hl 1 rfl) ?_
  refine lv_if_lt (tgt := 43) hx hb dX12_ice_1 rfl (fun c_1 => ?_) (fun c_1 => ?_)
  ·
    have c_1 := (zlt (x := iZ x1) (y := iZ 0) rfl rfl ⟨by omega, by omega⟩ wn_0).mp c_1
    refine lv_aload_n hx hb dX12_ice_43 rfl (lv_at hl 0 rfl) ?_
    refine lv_iconst (v := iZ 1) hx hb dX12_ice_44 rfl ?_
    refine CWV (As := [.int (iZ 1)]) (rest := []) (wc := _) (wr := [(Ma, .inl (k 1, 5340, .inl Af))]) hx hb hml hown hts hKK hP hD hS hA (m_refuse l D k hm Ma Mn Ms My Mt Mp Mx Mo Mk Ml Mb Mh Mc Mz Mr Mq Mst Mtd Msz Mtk Mfr Men Mva Mfk Mfp Mfs Mse Mlt Mdp Mct Mdr Mrs Mit Mmk Mtp Mbt 1) ci_X12_refuse qm_X12_81 ⟨Nat.le_of_ble_eq_true rfl, Nat.le_of_ble_eq_true rfl⟩ ⟨Nat.le_of_ble_eq_true rfl, Nat.le_of_ble_eq_true rfl⟩ [0] [1] rfl rfl rfl rfl rfl (dj rfl) 0 rfl rfl rfl hl.1 rfl (Nat.le_of_ble_eq_true rfl) dX12_ice_45 (fun u_2 H locs hφ hP hD hS => ?_)
    refine W.eq (g2 := F0 m 48 ls [.int (iZ (-1))]) rfl ?_
    exact EWi hx hb hr hlocks hS (((-1), 1), 0, (), ()) rfl (show (((0 ≤ x1 ∧ x1 < (gz Af 1)) ∧ (0 ≤ x2 ∧ x2 ≤ 3)) ∧ ((-1) : Int) = gz Af ((46 + (4 * x1)) + x2)) ∨ (¬ ((0 ≤ x1 ∧ x1 < (gz Af 1)) ∧ (0 ≤ x2 ∧ x2 ≤ 3)) ∧ ((-1) : Int) = -1) from (by omega)) (hP.sub [1, 0] rfl) (hD.sub [1, 0] rfl rfl) dX12_ice_48
  ·
    have c_1 := mt (zlt (x := iZ x1) (y := iZ 0) rfl rfl ⟨by omega, by omega⟩ wn_0).mpr c_1
    refine lv_iload_n hx hb dX12_ice_4 rfl (lv_at hl 1 rfl) ?_
    refine lv_aload_n hx hb dX12_ice_5 rfl (lv_at hl 0 rfl) ?_
    refine va_get (D := D) (ci := 12) (v := .ref Ma) (C := RX12) (T := TX12) (N := 36) hx hb hts iX12 hown hK hP 0 rfl rfl 0 (bl rfl) (hts _ qf_X12_7) (fun _ h => h) rfl dX12_ice_6 ?_
    refine lv_iconst (v := iZ 1) hx hb dX12_ice_9 rfl ?_
    refine va_iald hx hb hK hP 1 1 rfl rfl (zin (e := 1) (n := 5340) ⟨by omega, by omega⟩ (bl rfl)) dX12_ice_10 ?_
    refine lv_topi (fun x_3 ex_3 => ?_)
    obtain rfl : x_3 = iZ (gz Af 1) := ex_3.trans (gz_eq ⟨by omega, by omega⟩)
    have h_4 := gz_rg Af 1
    refine lv_icmp_ge (tgt := 43) hx hb dX12_ice_11 rfl (fun c_5 => ?_) (fun c_5 => ?_)
    ·
      have c_5 := (zle (x := iZ (gz Af 1)) (y := iZ x1) rfl rfl (gz_rg Af 1) ⟨by omega, by omega⟩).mp c_5
      refine lv_aload_n hx hb dX12_ice_43 rfl (lv_at hl 0 rfl) ?_
      refine lv_iconst (v := iZ 1) hx hb dX12_ice_44 rfl ?_
      refine CWV (As := [.int (iZ 1)]) (rest := []) (wc := _) (wr := [(Ma, .inl (k 1, 5340, .inl Af))]) hx hb hml hown hts hKK hP hD hS hA (m_refuse l D k hm Ma Mn Ms My Mt Mp Mx Mo Mk Ml Mb Mh Mc Mz Mr Mq Mst Mtd Msz Mtk Mfr Men Mva Mfk Mfp Mfs Mse Mlt Mdp Mct Mdr Mrs Mit Mmk Mtp Mbt 1) ci_X12_refuse qm_X12_81 ⟨Nat.le_of_ble_eq_true rfl, Nat.le_of_ble_eq_true rfl⟩ ⟨Nat.le_of_ble_eq_true rfl, Nat.le_of_ble_eq_true rfl⟩ [0] [1] rfl rfl rfl rfl rfl (dj rfl) 0 rfl rfl rfl hl.1 rfl (Nat.le_of_ble_eq_true rfl) dX12_ice_45 (fun u_6 H locs hφ hP hD hS => ?_)
      refine W.eq (g2 := F0 m 48 ls [.int (iZ (-1))]) rfl ?_
      exact EWi hx hb hr hlocks hS (((-1), 1), 0, (), ()) rfl (show (((0 ≤ x1 ∧ x1 < (gz Af 1)) ∧ (0 ≤ x2 ∧ x2 ≤ 3)) ∧ ((-1) : Int) = gz Af ((46 + (4 * x1)) + x2)) ∨ (¬ ((0 ≤ x1 ∧ x1 < (gz Af 1)) ∧ (0 ≤ x2 ∧ x2 ≤ 3)) ∧ ((-1) : Int) = -1) from (by omega)) (hP.sub [1, 0] rfl) (hD.sub [1, 0] rfl rfl) dX12_ice_48
    ·
      have c_5 := mt (zle (x := iZ (gz Af 1)) (y := iZ x1) rfl rfl (gz_rg Af 1) ⟨by omega, by omega⟩).mpr c_5
      refine lv_iload_n hx hb dX12_ice_14 rfl (lv_at hl 2 rfl) ?_
      refine lv_if_lt (tgt := 43) hx hb dX12_ice_15 rfl (fun c_7 => ?_) (fun c_7 => ?_)
      ·
        have c_7 := (zlt (x := iZ x2) (y := iZ 0) rfl rfl ⟨by omega, by omega⟩ wn_0).mp c_7
        refine lv_aload_n hx hb dX12_ice_43 rfl (lv_at hl 0 rfl) ?_
        refine lv_iconst (v := iZ 1) hx hb dX12_ice_44 rfl ?_
        refine CWV (As := [.int (iZ 1)]) (rest := []) (wc := _) (wr := [(Ma, .inl (k 1, 5340, .inl Af))]) hx hb hml hown hts hKK hP hD hS hA (m_refuse l D k hm Ma Mn Ms My Mt Mp Mx Mo Mk Ml Mb Mh Mc Mz Mr Mq Mst Mtd Msz Mtk Mfr Men Mva Mfk Mfp Mfs Mse Mlt Mdp Mct Mdr Mrs Mit Mmk Mtp Mbt 1) ci_X12_refuse qm_X12_81 ⟨Nat.le_of_ble_eq_true rfl, Nat.le_of_ble_eq_true rfl⟩ ⟨Nat.le_of_ble_eq_true rfl, Nat.le_of_ble_eq_true rfl⟩ [0] [1] rfl rfl rfl rfl rfl (dj rfl) 0 rfl rfl rfl hl.1 rfl (Nat.le_of_ble_eq_true rfl) dX12_ice_45 (fun u_8 H locs hφ hP hD hS => ?_)
        refine W.eq (g2 := F0 m 48 ls [.int (iZ (-1))]) rfl ?_
        exact EWi hx hb hr hlocks hS (((-1), 1), 0, (), ()) rfl (show (((0 ≤ x1 ∧ x1 < (gz Af 1)) ∧ (0 ≤ x2 ∧ x2 ≤ 3)) ∧ ((-1) : Int) = gz Af ((46 + (4 * x1)) + x2)) ∨ (¬ ((0 ≤ x1 ∧ x1 < (gz Af 1)) ∧ (0 ≤ x2 ∧ x2 ≤ 3)) ∧ ((-1) : Int) = -1) from (by omega)) (hP.sub [1, 0] rfl) (hD.sub [1, 0] rfl rfl) dX12_ice_48
      ·
        have c_7 := mt (zlt (x := iZ x2) (y := iZ 0) rfl rfl ⟨by omega, by omega⟩ wn_0).mpr c_7
        refine lv_iload_n hx hb dX12_ice_18 rfl (lv_at hl 2 rfl) ?_
        refine lv_iconst (v := iZ 3) hx hb dX12_ice_19 rfl ?_
        refine lv_icmp_gt (tgt := 43) hx hb dX12_ice_20 rfl (fun c_9 => ?_) (fun c_9 => ?_)
        ·
          have c_9 := (zlt (x := iZ 3) (y := iZ x2) rfl rfl wn_3 ⟨by omega, by omega⟩).mp c_9
          refine lv_aload_n hx hb dX12_ice_43 rfl (lv_at hl 0 rfl) ?_
          refine lv_iconst (v := iZ 1) hx hb dX12_ice_44 rfl ?_
          refine CWV (As := [.int (iZ 1)]) (rest := []) (wc := _) (wr := [(Ma, .inl (k 1, 5340, .inl Af))]) hx hb hml hown hts hKK hP hD hS hA (m_refuse l D k hm Ma Mn Ms My Mt Mp Mx Mo Mk Ml Mb Mh Mc Mz Mr Mq Mst Mtd Msz Mtk Mfr Men Mva Mfk Mfp Mfs Mse Mlt Mdp Mct Mdr Mrs Mit Mmk Mtp Mbt 1) ci_X12_refuse qm_X12_81 ⟨Nat.le_of_ble_eq_true rfl, Nat.le_of_ble_eq_true rfl⟩ ⟨Nat.le_of_ble_eq_true rfl, Nat.le_of_ble_eq_true rfl⟩ [0] [1] rfl rfl rfl rfl rfl (dj rfl) 0 rfl rfl rfl hl.1 rfl (Nat.le_of_ble_eq_true rfl) dX12_ice_45 (fun u_10 H locs hφ hP hD hS => ?_)
          refine W.eq (g2 := F0 m 48 ls [.int (iZ (-1))]) rfl ?_
          exact EWi hx hb hr hlocks hS (((-1), 1), 0, (), ()) rfl (show (((0 ≤ x1 ∧ x1 < (gz Af 1)) ∧ (0 ≤ x2 ∧ x2 ≤ 3)) ∧ ((-1) : Int) = gz Af ((46 + (4 * x1)) + x2)) ∨ (¬ ((0 ≤ x1 ∧ x1 < (gz Af 1)) ∧ (0 ≤ x2 ∧ x2 ≤ 3)) ∧ ((-1) : Int) = -1) from (by omega)) (hP.sub [1, 0] rfl) (hD.sub [1, 0] rfl rfl) dX12_ice_48
        ·
          have c_9 := mt (zlt (x := iZ 3) (y := iZ x2) rfl rfl wn_3 ⟨by omega, by omega⟩).mpr c_9
          refine lv_aload_n hx hb dX12_ice_23 rfl (lv_at hl 0 rfl) ?_
          refine lv_aload_n hx hb dX12_ice_24 rfl (lv_at hl 0 rfl) ?_
          refine va_get (D := D) (ci := 12) (v := .ref Ma) (C := RX12) (T := TX12) (N := 36) hx hb hts iX12 hown hK hP 0 rfl rfl 0 (bl rfl) (hts _ qf_X12_7) (fun _ h => h) rfl dX12_ice_25 ?_
          refine lv_bipush (v := iZ 46) hx hb dX12_ice_28 bip_46 ?_
          refine lv_iconst (v := iZ 4) hx hb dX12_ice_30 rfl ?_
          refine lv_iload_n hx hb dX12_ice_31 rfl (lv_at hl 1 rfl) ?_
          refine lv_imul hx hb dX12_ice_32 ?_
          refine lv_topi (fun x_11 ex_11 => ?_)
          obtain rfl : x_11 = iZ (4 * x1) := ex_11.trans (iZ_mul 4 x1)
          refine lv_iadd hx hb dX12_ice_33 ?_
          refine lv_topi (fun x_12 ex_12 => ?_)
          obtain rfl : x_12 = iZ (46 + (4 * x1)) := ex_12.trans (iZ_add 46 (4 * x1))
          refine lv_iload_n hx hb dX12_ice_34 rfl (lv_at hl 2 rfl) ?_
          refine lv_iadd hx hb dX12_ice_35 ?_
          refine lv_topi (fun x_13 ex_13 => ?_)
          obtain rfl : x_13 = iZ ((46 + (4 * x1)) + x2) := ex_13.trans (iZ_add (46 + (4 * x1)) x2)
          refine va_iald hx hb hK hP 1 1 rfl rfl (zin (e := ((46 + (4 * x1)) + x2)) (n := 5340) ⟨by omega, by omega⟩ (bl rfl)) dX12_ice_36 ?_
          refine lv_topi (fun x_14 ex_14 => ?_)
          obtain rfl : x_14 = iZ (gz Af ((46 + (4 * x1)) + x2)) := ex_14.trans (gz_eq ⟨by omega, by omega⟩)
          have h_15 := gz_rg Af ((46 + (4 * x1)) + x2)
          refine CWV (As := [.int (iZ (gz Af ((46 + (4 * x1)) + x2)))]) (rest := []) (wc := _) (wr := [(Ma, .inl (k 1, 5340, .inl Af))]) hx hb hml hown hts hKK hP hD hS hA (m_gives l D k hm Ma Mn Ms My Mt Mp Mx Mo Mk Ml Mb Mh Mc Mz Mr Mq Mst Mtd Msz Mtk Mfr Men Mva Mfk Mfp Mfs Mse Mlt Mdp Mct Mdr Mrs Mit Mmk Mtp Mbt (gz Af ((46 + (4 * x1)) + x2))) ci_X12_gives qm_X12_85 ⟨Nat.le_of_ble_eq_true rfl, Nat.le_of_ble_eq_true rfl⟩ ⟨Nat.le_of_ble_eq_true rfl, Nat.le_of_ble_eq_true rfl⟩ [0] [1] rfl rfl rfl rfl rfl (dj rfl) 0 rfl rfl rfl hl.1 rfl (Nat.le_of_ble_eq_true rfl) dX12_ice_37 (fun u_16 H locs hφ hP hD hS => ?_)
          refine W.eq (g2 := F0 m 40 ls [.int (iZ (gz Af ((46 + (4 * x1)) + x2)))]) rfl ?_
          refine lv_goto (tgt := 48) hx hb dX12_ice_40 rfl ?_
          exact EWi hx hb hr hlocks hS (((gz Af ((46 + (4 * x1)) + x2)), 0), 0, (), ()) rfl (show (((0 ≤ x1 ∧ x1 < (gz Af 1)) ∧ (0 ≤ x2 ∧ x2 ≤ 3)) ∧ ((gz Af ((46 + (4 * x1)) + x2)) : Int) = gz Af ((46 + (4 * x1)) + x2)) ∨ (¬ ((0 ≤ x1 ∧ x1 < (gz Af 1)) ∧ (0 ≤ x2 ∧ x2 ≤ 3)) ∧ ((gz Af ((46 + (4 * x1)) + x2)) : Int) = -1) from (by omega)) (hP.sub [1, 0] rfl) (hD.sub [1, 0] rfl rfl) dX12_ice_48
set_option maxHeartbeats 4000000 in
set_option maxRecDepth 100000 in
theorem q_direction (l : Launch) (D : va_G) (k : Nat → ClassId) (hm : Nat) (Ma : Nat) (Mn : Nat) (Ms : Nat) (My : Nat) (Mt : Nat) (Mp : Nat) (Mx : Nat) (Mo : Nat) (Mk : Nat) (Ml : Nat) (Mb : Nat) (Mh : Nat) (Mc : Nat) (Mz : Nat) (Mr : Nat) (Mq : Nat) (Mst : Int) (Mtd : Int) (Msz : Int) (Mtk : Int) (Mfr : Int) (Men : Int) (Mva : Int) (Mfk : Int) (Mfp : Int) (Mfs : Int) (Mse : Int) (Mlt : Int) (Mdp : Int) (Mct : Int) (Mdr : Int) (Mrs : Int) (Mit : Int) (Mmk : Int) (Mtp : Int64) (Mbt : Int64) (Af : Nat → Int32) (x1 : Int) (x2 : Int) (hM : M0 Af) (h9x1 : -2147483648 ≤ x1 ∧ x1 < 2147483648) (h9x2 : -2147483648 ≤ x2 ∧ x2 < 2147483648) : WD (σ := ((Int × Int) × (Int64) × (Unit) × (Unit))) l yX12_direction cX12_direction 3 (some .int) 2 0 0 D k [.ref hm, .int (iZ x1), .int (iZ x2)] [(hm, .inr (12, [.ref Ma, .ref Mn, .int (iZ Mst), .long Mtp, .long Mbt, .ref Ms, .ref My, .ref Mt, .ref Mp, .ref Mx, .int (iZ Mtd), .int (iZ Msz), .int (iZ Mtk), .int (iZ Mfr), .int (iZ Men), .int (iZ Mva), .int (iZ Mfk), .int (iZ Mfp), .int (iZ Mfs), .int (iZ Mse), .int (iZ Mlt), .ref Mo, .int (iZ Mdp), .int (iZ Mct), .ref Mk, .ref Ml, .ref Mb, .ref Mh, .ref Mc, .int (iZ Mdr), .int (iZ Mrs), .ref Mz, .ref Mr, .ref Mq, .int (iZ Mit), .int (iZ Mmk)])), (Ma, .inl (k 1, 5340, .inl Af))] (fun u => some (.int (iZ u.1.1))) (fun u => (((0 ≤ x1 ∧ x1 < (gz Af 0)) ∧ (0 ≤ x2 ∧ x2 ≤ 500)) ∧ (u.1.1 : Int) = hd (sh Af 10) x1 x2) ∨ (¬ ((0 ≤ x1 ∧ x1 < (gz Af 0)) ∧ (0 ≤ x2 ∧ x2 ≤ 500)) ∧ (u.1.1 : Int) = -1)) (fun u => [(hm, .inr (12, [.ref Ma, .ref Mn, .int (iZ u.1.2), .long Mtp, .long Mbt, .ref Ms, .ref My, .ref Mt, .ref Mp, .ref Mx, .int (iZ Mtd), .int (iZ Msz), .int (iZ Mtk), .int (iZ Mfr), .int (iZ Men), .int (iZ Mva), .int (iZ Mfk), .int (iZ Mfp), .int (iZ Mfs), .int (iZ Mse), .int (iZ Mlt), .ref Mo, .int (iZ Mdp), .int (iZ Mct), .ref Mk, .ref Ml, .ref Mb, .ref Mh, .ref Mc, .int (iZ Mdr), .int (iZ Mrs), .ref Mz, .ref Mr, .ref Mq, .int (iZ Mit), .int (iZ Mmk)])), (Ma, .inl (k 1, 5340, .inl Af))]) := by
  refine MW (by decide) (Nat.le_of_ble_eq_true rfl) (fun p e s m below meth c ls A hx hb hml hr hlocks hin hts hown hKK hP hD hS hA hl => ?_)
  have hK := hKK.1
  have hl : lv_has ls 3 [(0, .ref hm), (1, .int (iZ x1)), (2, .int (iZ x2))] := hl
  obtain ⟨m0, m1, m3, m4, m5, mF, mO, mS⟩ := id hM
  refine lv_aload_n hx hb dX12_direction_0 rfl (lv_at hl 0 rfl) ?_
  refine lv_iload_n hx hb dX12_direction_1 rfl (lv_at hl 1 rfl) ?_
  refine CPV (As := [.int (iZ x1)]) (rest := []) hx hb hml hown hts hKK hP (m_isRock l D k ([.ref Ma, .ref Mn, .int (iZ Mst), .long Mtp, .long Mbt, .ref Ms, .ref My, .ref Mt, .ref Mp, .ref Mx, .int (iZ Mtd), .int (iZ Msz), .int (iZ Mtk), .int (iZ Mfr), .int (iZ Men), .int (iZ Mva), .int (iZ Mfk), .int (iZ Mfp), .int (iZ Mfs), .int (iZ Mse), .int (iZ Mlt), .ref Mo, .int (iZ Mdp), .int (iZ Mct), .ref Mk, .ref Ml, .ref Mb, .ref Mh, .ref Mc, .int (iZ Mdr), .int (iZ Mrs), .ref Mz, .ref Mr, .ref Mq, .int (iZ Mit), .int (iZ Mmk)]) hm Ma Af x1 rfl hM ⟨by omega, by omega⟩) ci_X12_isRock qm_X12_243 ⟨Nat.le_of_ble_eq_true rfl, Nat.le_of_ble_eq_true rfl⟩ ⟨Nat.le_of_ble_eq_true rfl, Nat.le_of_ble_eq_true rfl⟩ 0 rfl rfl rfl hl.1 rfl (Nat.le_of_ble_eq_true rfl) dX12_direction_2 (fun z_1 hz_1 => ?_)
  rcases hz_1 with ⟨qz_1, hz_1⟩ | ⟨qz_1, hz_1⟩
  ·
    subst qz_1
    refine lv_if_eq (tgt := 28) hx hb dX12_direction_5 rfl (fun c => absurd c (by decide)) (fun _ => ?_)
    refine lv_iload_n hx hb dX12_direction_8 rfl (lv_at hl 2 rfl) ?_
    refine CPS (As := [.int (iZ x2)]) (rest := []) hx hb hml hown hts hKK (hP.sub (ws' := []) [] rfl) (m_isAsked l D k x2 ⟨by omega, by omega⟩) ci_X12_isAsked qm_X12_258 ⟨Nat.le_of_ble_eq_true rfl, Nat.le_of_ble_eq_true rfl⟩ ⟨Nat.le_of_ble_eq_true rfl, Nat.le_of_ble_eq_true rfl⟩ rfl hl.1 rfl (Nat.le_of_ble_eq_true rfl) dX12_direction_9 (fun z_3 hz_3 => ?_)
    rcases hz_3 with ⟨qz_3, hz_3⟩ | ⟨qz_3, hz_3⟩
    ·
      subst qz_3
      refine lv_if_eq (tgt := 28) hx hb dX12_direction_12 rfl (fun c => absurd c (by decide)) (fun _ => ?_)
      refine lv_aload_n hx hb dX12_direction_15 rfl (lv_at hl 0 rfl) ?_
      refine lv_aload_n hx hb dX12_direction_16 rfl (lv_at hl 0 rfl) ?_
      refine lv_iload_n hx hb dX12_direction_17 rfl (lv_at hl 1 rfl) ?_
      refine lv_iload_n hx hb dX12_direction_18 rfl (lv_at hl 2 rfl) ?_
      refine CRV (As := [.int (iZ x1), .int (iZ x2)]) (rest := [.ref hm]) hx hb hml hown hts hKK hP (m_dir l D k ([.ref Ma, .ref Mn, .int (iZ Mst), .long Mtp, .long Mbt, .ref Ms, .ref My, .ref Mt, .ref Mp, .ref Mx, .int (iZ Mtd), .int (iZ Msz), .int (iZ Mtk), .int (iZ Mfr), .int (iZ Men), .int (iZ Mva), .int (iZ Mfk), .int (iZ Mfp), .int (iZ Mfs), .int (iZ Mse), .int (iZ Mlt), .ref Mo, .int (iZ Mdp), .int (iZ Mct), .ref Mk, .ref Ml, .ref Mb, .ref Mh, .ref Mc, .int (iZ Mdr), .int (iZ Mrs), .ref Mz, .ref Mr, .ref Mq, .int (iZ Mit), .int (iZ Mmk)]) hm Ma Af x1 x2 rfl hM ⟨by omega, by omega⟩ ⟨by omega, by omega⟩) ci_X12_directionOf qm_X12_249 ⟨Nat.le_of_ble_eq_true rfl, Nat.le_of_ble_eq_true rfl⟩ ⟨Nat.le_of_ble_eq_true rfl, Nat.le_of_ble_eq_true rfl⟩ 0 rfl rfl rfl hl.1 rfl (Nat.le_of_ble_eq_true rfl) dX12_direction_19 ?_
      have hh_h_5 := hd_rg (sh Af 10) x1 x2
      refine CWV (As := [.int (iZ (hd (sh Af 10) x1 x2))]) (rest := []) (wc := _) (wr := [(Ma, .inl (k 1, 5340, .inl Af))]) hx hb hml hown hts hKK hP hD hS hA (m_gives l D k hm Ma Mn Ms My Mt Mp Mx Mo Mk Ml Mb Mh Mc Mz Mr Mq Mst Mtd Msz Mtk Mfr Men Mva Mfk Mfp Mfs Mse Mlt Mdp Mct Mdr Mrs Mit Mmk Mtp Mbt (hd (sh Af 10) x1 x2)) ci_X12_gives qm_X12_85 ⟨Nat.le_of_ble_eq_true rfl, Nat.le_of_ble_eq_true rfl⟩ ⟨Nat.le_of_ble_eq_true rfl, Nat.le_of_ble_eq_true rfl⟩ [0] [1] rfl rfl rfl rfl rfl (dj rfl) 0 rfl rfl rfl hl.1 rfl (Nat.le_of_ble_eq_true rfl) dX12_direction_22 (fun u_6 H locs hφ hP hD hS => ?_)
      refine W.eq (g2 := F0 m 25 ls [.int (iZ (hd (sh Af 10) x1 x2))]) rfl ?_
      refine lv_goto (tgt := 33) hx hb dX12_direction_25 rfl ?_
      exact EWi hx hb hr hlocks hS (((hd (sh Af 10) x1 x2), 0), 0, (), ()) rfl (show (((0 ≤ x1 ∧ x1 < (gz Af 0)) ∧ (0 ≤ x2 ∧ x2 ≤ 500)) ∧ ((hd (sh Af 10) x1 x2) : Int) = hd (sh Af 10) x1 x2) ∨ (¬ ((0 ≤ x1 ∧ x1 < (gz Af 0)) ∧ (0 ≤ x2 ∧ x2 ≤ 500)) ∧ ((hd (sh Af 10) x1 x2) : Int) = -1) from (by omega)) (hP.sub [1, 0] rfl) (hD.sub [1, 0] rfl rfl) dX12_direction_33
    ·
      subst qz_3
      refine lv_if_eq (tgt := 28) hx hb dX12_direction_12 rfl (fun _ => ?_) (fun c => absurd (by decide) c)
      refine lv_aload_n hx hb dX12_direction_28 rfl (lv_at hl 0 rfl) ?_
      refine lv_iconst (v := iZ 1) hx hb dX12_direction_29 rfl ?_
      refine CWV (As := [.int (iZ 1)]) (rest := []) (wc := _) (wr := [(Ma, .inl (k 1, 5340, .inl Af))]) hx hb hml hown hts hKK hP hD hS hA (m_refuse l D k hm Ma Mn Ms My Mt Mp Mx Mo Mk Ml Mb Mh Mc Mz Mr Mq Mst Mtd Msz Mtk Mfr Men Mva Mfk Mfp Mfs Mse Mlt Mdp Mct Mdr Mrs Mit Mmk Mtp Mbt 1) ci_X12_refuse qm_X12_81 ⟨Nat.le_of_ble_eq_true rfl, Nat.le_of_ble_eq_true rfl⟩ ⟨Nat.le_of_ble_eq_true rfl, Nat.le_of_ble_eq_true rfl⟩ [0] [1] rfl rfl rfl rfl rfl (dj rfl) 0 rfl rfl rfl hl.1 rfl (Nat.le_of_ble_eq_true rfl) dX12_direction_30 (fun u_8 H locs hφ hP hD hS => ?_)
      refine W.eq (g2 := F0 m 33 ls [.int (iZ (-1))]) rfl ?_
      exact EWi hx hb hr hlocks hS (((-1), 1), 0, (), ()) rfl (show (((0 ≤ x1 ∧ x1 < (gz Af 0)) ∧ (0 ≤ x2 ∧ x2 ≤ 500)) ∧ ((-1) : Int) = hd (sh Af 10) x1 x2) ∨ (¬ ((0 ≤ x1 ∧ x1 < (gz Af 0)) ∧ (0 ≤ x2 ∧ x2 ≤ 500)) ∧ ((-1) : Int) = -1) from (by omega)) (hP.sub [1, 0] rfl) (hD.sub [1, 0] rfl rfl) dX12_direction_33
  ·
    subst qz_1
    refine lv_if_eq (tgt := 28) hx hb dX12_direction_5 rfl (fun _ => ?_) (fun c => absurd (by decide) c)
    refine lv_aload_n hx hb dX12_direction_28 rfl (lv_at hl 0 rfl) ?_
    refine lv_iconst (v := iZ 1) hx hb dX12_direction_29 rfl ?_
    refine CWV (As := [.int (iZ 1)]) (rest := []) (wc := _) (wr := [(Ma, .inl (k 1, 5340, .inl Af))]) hx hb hml hown hts hKK hP hD hS hA (m_refuse l D k hm Ma Mn Ms My Mt Mp Mx Mo Mk Ml Mb Mh Mc Mz Mr Mq Mst Mtd Msz Mtk Mfr Men Mva Mfk Mfp Mfs Mse Mlt Mdp Mct Mdr Mrs Mit Mmk Mtp Mbt 1) ci_X12_refuse qm_X12_81 ⟨Nat.le_of_ble_eq_true rfl, Nat.le_of_ble_eq_true rfl⟩ ⟨Nat.le_of_ble_eq_true rfl, Nat.le_of_ble_eq_true rfl⟩ [0] [1] rfl rfl rfl rfl rfl (dj rfl) 0 rfl rfl rfl hl.1 rfl (Nat.le_of_ble_eq_true rfl) dX12_direction_30 (fun u_10 H locs hφ hP hD hS => ?_)
    refine W.eq (g2 := F0 m 33 ls [.int (iZ (-1))]) rfl ?_
    exact EWi hx hb hr hlocks hS (((-1), 1), 0, (), ()) rfl (show (((0 ≤ x1 ∧ x1 < (gz Af 0)) ∧ (0 ≤ x2 ∧ x2 ≤ 500)) ∧ ((-1) : Int) = hd (sh Af 10) x1 x2) ∨ (¬ ((0 ≤ x1 ∧ x1 < (gz Af 0)) ∧ (0 ≤ x2 ∧ x2 ≤ 500)) ∧ ((-1) : Int) = -1) from (by omega)) (hP.sub [1, 0] rfl) (hD.sub [1, 0] rfl rfl) dX12_direction_33
set_option maxHeartbeats 4000000 in
set_option maxRecDepth 100000 in
theorem q_light (l : Launch) (D : va_G) (k : Nat → ClassId) (hm : Nat) (Ma : Nat) (Mn : Nat) (Ms : Nat) (My : Nat) (Mt : Nat) (Mp : Nat) (Mx : Nat) (Mo : Nat) (Mk : Nat) (Ml : Nat) (Mb : Nat) (Mh : Nat) (Mc : Nat) (Mz : Nat) (Mr : Nat) (Mq : Nat) (Mst : Int) (Mtd : Int) (Msz : Int) (Mtk : Int) (Mfr : Int) (Men : Int) (Mva : Int) (Mfk : Int) (Mfp : Int) (Mfs : Int) (Mse : Int) (Mlt : Int) (Mdp : Int) (Mct : Int) (Mdr : Int) (Mrs : Int) (Mit : Int) (Mmk : Int) (Mtp : Int64) (Mbt : Int64) (Af : Nat → Int32) (x1 : Int) (x2 : Int) (x3 : Int) (x4 : Int) (hM : M0 Af) (h9x1 : -2147483648 ≤ x1 ∧ x1 < 2147483648) (h9x2 : -2147483648 ≤ x2 ∧ x2 < 2147483648) (h9x3 : -2147483648 ≤ x3 ∧ x3 < 2147483648) (h9x4 : -2147483648 ≤ x4 ∧ x4 < 2147483648) : WD (σ := ((Int × Int) × (Int64) × (Unit) × (Unit))) l yX12_light cX12_light 5 (some .int) 3 0 0 D k [.ref hm, .int (iZ x1), .int (iZ x2), .int (iZ x3), .int (iZ x4)] [(hm, .inr (12, [.ref Ma, .ref Mn, .int (iZ Mst), .long Mtp, .long Mbt, .ref Ms, .ref My, .ref Mt, .ref Mp, .ref Mx, .int (iZ Mtd), .int (iZ Msz), .int (iZ Mtk), .int (iZ Mfr), .int (iZ Men), .int (iZ Mva), .int (iZ Mfk), .int (iZ Mfp), .int (iZ Mfs), .int (iZ Mse), .int (iZ Mlt), .ref Mo, .int (iZ Mdp), .int (iZ Mct), .ref Mk, .ref Ml, .ref Mb, .ref Mh, .ref Mc, .int (iZ Mdr), .int (iZ Mrs), .ref Mz, .ref Mr, .ref Mq, .int (iZ Mit), .int (iZ Mmk)])), (Ma, .inl (k 1, 5340, .inl Af))] (fun u => some (.int (iZ u.1.1))) (fun u => (((0 ≤ x1 ∧ x1 < (gz Af 0)) ∧ (0 ≤ x3 ∧ x3 < (gz Af 0)) ∧ (0 ≤ x2 ∧ x2 ≤ 500) ∧ (0 ≤ x4 ∧ x4 ≤ 500)) ∧ (u.1.1 : Int) = lt (sh Af 10) x1 x2 x3 x4) ∨ (¬ ((0 ≤ x1 ∧ x1 < (gz Af 0)) ∧ (0 ≤ x3 ∧ x3 < (gz Af 0)) ∧ (0 ≤ x2 ∧ x2 ≤ 500) ∧ (0 ≤ x4 ∧ x4 ≤ 500)) ∧ (u.1.1 : Int) = -1)) (fun u => [(hm, .inr (12, [.ref Ma, .ref Mn, .int (iZ u.1.2), .long Mtp, .long Mbt, .ref Ms, .ref My, .ref Mt, .ref Mp, .ref Mx, .int (iZ Mtd), .int (iZ Msz), .int (iZ Mtk), .int (iZ Mfr), .int (iZ Men), .int (iZ Mva), .int (iZ Mfk), .int (iZ Mfp), .int (iZ Mfs), .int (iZ Mse), .int (iZ Mlt), .ref Mo, .int (iZ Mdp), .int (iZ Mct), .ref Mk, .ref Ml, .ref Mb, .ref Mh, .ref Mc, .int (iZ Mdr), .int (iZ Mrs), .ref Mz, .ref Mr, .ref Mq, .int (iZ Mit), .int (iZ Mmk)])), (Ma, .inl (k 1, 5340, .inl Af))]) := by
  refine MW (by decide) (Nat.le_of_ble_eq_true rfl) (fun p e s m below meth c ls A hx hb hml hr hlocks hin hts hown hKK hP hD hS hA hl => ?_)
  have hK := hKK.1
  have hl : lv_has ls 5 [(0, .ref hm), (1, .int (iZ x1)), (2, .int (iZ x2)), (3, .int (iZ x3)), (4, .int (iZ x4))] := hl
  obtain ⟨m0, m1, m3, m4, m5, mF, mO, mS⟩ := id hM
  refine lv_aload_n hx hb dX12_light_0 rfl (lv_at hl 0 rfl) ?_
  refine lv_iload_n hx hb dX12_light_1 rfl (lv_at hl 1 rfl) ?_
  refine CPV (As := [.int (iZ x1)]) (rest := []) hx hb hml hown hts hKK hP (m_isRock l D k ([.ref Ma, .ref Mn, .int (iZ Mst), .long Mtp, .long Mbt, .ref Ms, .ref My, .ref Mt, .ref Mp, .ref Mx, .int (iZ Mtd), .int (iZ Msz), .int (iZ Mtk), .int (iZ Mfr), .int (iZ Men), .int (iZ Mva), .int (iZ Mfk), .int (iZ Mfp), .int (iZ Mfs), .int (iZ Mse), .int (iZ Mlt), .ref Mo, .int (iZ Mdp), .int (iZ Mct), .ref Mk, .ref Ml, .ref Mb, .ref Mh, .ref Mc, .int (iZ Mdr), .int (iZ Mrs), .ref Mz, .ref Mr, .ref Mq, .int (iZ Mit), .int (iZ Mmk)]) hm Ma Af x1 rfl hM ⟨by omega, by omega⟩) ci_X12_isRock qm_X12_243 ⟨Nat.le_of_ble_eq_true rfl, Nat.le_of_ble_eq_true rfl⟩ ⟨Nat.le_of_ble_eq_true rfl, Nat.le_of_ble_eq_true rfl⟩ 0 rfl rfl rfl hl.1 rfl (Nat.le_of_ble_eq_true rfl) dX12_light_2 (fun z_1 hz_1 => ?_)
  rcases hz_1 with ⟨qz_1, hz_1⟩ | ⟨qz_1, hz_1⟩
  ·
    subst qz_1
    refine lv_if_eq (tgt := 47) hx hb dX12_light_5 rfl (fun c => absurd c (by decide)) (fun _ => ?_)
    refine lv_aload_n hx hb dX12_light_8 rfl (lv_at hl 0 rfl) ?_
    refine lv_iload_n hx hb dX12_light_9 rfl (lv_at hl 3 rfl) ?_
    refine CPV (As := [.int (iZ x3)]) (rest := []) hx hb hml hown hts hKK hP (m_isRock l D k ([.ref Ma, .ref Mn, .int (iZ Mst), .long Mtp, .long Mbt, .ref Ms, .ref My, .ref Mt, .ref Mp, .ref Mx, .int (iZ Mtd), .int (iZ Msz), .int (iZ Mtk), .int (iZ Mfr), .int (iZ Men), .int (iZ Mva), .int (iZ Mfk), .int (iZ Mfp), .int (iZ Mfs), .int (iZ Mse), .int (iZ Mlt), .ref Mo, .int (iZ Mdp), .int (iZ Mct), .ref Mk, .ref Ml, .ref Mb, .ref Mh, .ref Mc, .int (iZ Mdr), .int (iZ Mrs), .ref Mz, .ref Mr, .ref Mq, .int (iZ Mit), .int (iZ Mmk)]) hm Ma Af x3 rfl hM ⟨by omega, by omega⟩) ci_X12_isRock qm_X12_243 ⟨Nat.le_of_ble_eq_true rfl, Nat.le_of_ble_eq_true rfl⟩ ⟨Nat.le_of_ble_eq_true rfl, Nat.le_of_ble_eq_true rfl⟩ 0 rfl rfl rfl hl.1 rfl (Nat.le_of_ble_eq_true rfl) dX12_light_10 (fun z_3 hz_3 => ?_)
    rcases hz_3 with ⟨qz_3, hz_3⟩ | ⟨qz_3, hz_3⟩
    ·
      subst qz_3
      refine lv_if_eq (tgt := 47) hx hb dX12_light_13 rfl (fun c => absurd c (by decide)) (fun _ => ?_)
      refine lv_iload_n hx hb dX12_light_16 rfl (lv_at hl 2 rfl) ?_
      refine CPS (As := [.int (iZ x2)]) (rest := []) hx hb hml hown hts hKK (hP.sub (ws' := []) [] rfl) (m_isAsked l D k x2 ⟨by omega, by omega⟩) ci_X12_isAsked qm_X12_258 ⟨Nat.le_of_ble_eq_true rfl, Nat.le_of_ble_eq_true rfl⟩ ⟨Nat.le_of_ble_eq_true rfl, Nat.le_of_ble_eq_true rfl⟩ rfl hl.1 rfl (Nat.le_of_ble_eq_true rfl) dX12_light_17 (fun z_5 hz_5 => ?_)
      rcases hz_5 with ⟨qz_5, hz_5⟩ | ⟨qz_5, hz_5⟩
      ·
        subst qz_5
        refine lv_if_eq (tgt := 47) hx hb dX12_light_20 rfl (fun c => absurd c (by decide)) (fun _ => ?_)
        refine lv_iload hx hb dX12_light_23 (lv_at hl 4 rfl) ?_
        refine CPS (As := [.int (iZ x4)]) (rest := []) hx hb hml hown hts hKK (hP.sub (ws' := []) [] rfl) (m_isAsked l D k x4 ⟨by omega, by omega⟩) ci_X12_isAsked qm_X12_258 ⟨Nat.le_of_ble_eq_true rfl, Nat.le_of_ble_eq_true rfl⟩ ⟨Nat.le_of_ble_eq_true rfl, Nat.le_of_ble_eq_true rfl⟩ rfl hl.1 rfl (Nat.le_of_ble_eq_true rfl) dX12_light_25 (fun z_7 hz_7 => ?_)
        rcases hz_7 with ⟨qz_7, hz_7⟩ | ⟨qz_7, hz_7⟩
        ·
          subst qz_7
          refine lv_if_eq (tgt := 47) hx hb dX12_light_28 rfl (fun c => absurd c (by decide)) (fun _ => ?_)
          refine lv_aload_n hx hb dX12_light_31 rfl (lv_at hl 0 rfl) ?_
          refine lv_aload_n hx hb dX12_light_32 rfl (lv_at hl 0 rfl) ?_
          refine lv_iload_n hx hb dX12_light_33 rfl (lv_at hl 1 rfl) ?_
          refine lv_iload_n hx hb dX12_light_34 rfl (lv_at hl 2 rfl) ?_
          refine lv_iload_n hx hb dX12_light_35 rfl (lv_at hl 3 rfl) ?_
          refine lv_iload hx hb dX12_light_36 (lv_at hl 4 rfl) ?_
          refine CRV (As := [.int (iZ x1), .int (iZ x2), .int (iZ x3), .int (iZ x4)]) (rest := [.ref hm]) hx hb hml hown hts hKK hP (m_light l D k ([.ref Ma, .ref Mn, .int (iZ Mst), .long Mtp, .long Mbt, .ref Ms, .ref My, .ref Mt, .ref Mp, .ref Mx, .int (iZ Mtd), .int (iZ Msz), .int (iZ Mtk), .int (iZ Mfr), .int (iZ Men), .int (iZ Mva), .int (iZ Mfk), .int (iZ Mfp), .int (iZ Mfs), .int (iZ Mse), .int (iZ Mlt), .ref Mo, .int (iZ Mdp), .int (iZ Mct), .ref Mk, .ref Ml, .ref Mb, .ref Mh, .ref Mc, .int (iZ Mdr), .int (iZ Mrs), .ref Mz, .ref Mr, .ref Mq, .int (iZ Mit), .int (iZ Mmk)]) hm Ma Af x1 x2 x3 x4 rfl hM ⟨by omega, by omega⟩ ⟨by omega, by omega⟩ ⟨by omega, by omega⟩ ⟨by omega, by omega⟩) ci_X12_lightOf qm_X12_261 ⟨Nat.le_of_ble_eq_true rfl, Nat.le_of_ble_eq_true rfl⟩ ⟨Nat.le_of_ble_eq_true rfl, Nat.le_of_ble_eq_true rfl⟩ 0 rfl rfl rfl hl.1 rfl (Nat.le_of_ble_eq_true rfl) dX12_light_38 ?_
          have hl_h_9 := lt_rg (f := (sh Af 10)) (a := x1) (w := x2) (b := x3) (t := x4) hM.2.2.2.2.2.1 ⟨by omega, by omega⟩ ⟨by omega, by omega⟩
          refine CWV (As := [.int (iZ (lt (sh Af 10) x1 x2 x3 x4))]) (rest := []) (wc := _) (wr := [(Ma, .inl (k 1, 5340, .inl Af))]) hx hb hml hown hts hKK hP hD hS hA (m_gives l D k hm Ma Mn Ms My Mt Mp Mx Mo Mk Ml Mb Mh Mc Mz Mr Mq Mst Mtd Msz Mtk Mfr Men Mva Mfk Mfp Mfs Mse Mlt Mdp Mct Mdr Mrs Mit Mmk Mtp Mbt (lt (sh Af 10) x1 x2 x3 x4)) ci_X12_gives qm_X12_85 ⟨Nat.le_of_ble_eq_true rfl, Nat.le_of_ble_eq_true rfl⟩ ⟨Nat.le_of_ble_eq_true rfl, Nat.le_of_ble_eq_true rfl⟩ [0] [1] rfl rfl rfl rfl rfl (dj rfl) 0 rfl rfl rfl hl.1 rfl (Nat.le_of_ble_eq_true rfl) dX12_light_41 (fun u_10 H locs hφ hP hD hS => ?_)
          refine W.eq (g2 := F0 m 44 ls [.int (iZ (lt (sh Af 10) x1 x2 x3 x4))]) rfl ?_
          refine lv_goto (tgt := 52) hx hb dX12_light_44 rfl ?_
          exact EWi hx hb hr hlocks hS (((lt (sh Af 10) x1 x2 x3 x4), 0), 0, (), ()) rfl (show (((0 ≤ x1 ∧ x1 < (gz Af 0)) ∧ (0 ≤ x3 ∧ x3 < (gz Af 0)) ∧ (0 ≤ x2 ∧ x2 ≤ 500) ∧ (0 ≤ x4 ∧ x4 ≤ 500)) ∧ ((lt (sh Af 10) x1 x2 x3 x4) : Int) = lt (sh Af 10) x1 x2 x3 x4) ∨ (¬ ((0 ≤ x1 ∧ x1 < (gz Af 0)) ∧ (0 ≤ x3 ∧ x3 < (gz Af 0)) ∧ (0 ≤ x2 ∧ x2 ≤ 500) ∧ (0 ≤ x4 ∧ x4 ≤ 500)) ∧ ((lt (sh Af 10) x1 x2 x3 x4) : Int) = -1) from (by omega)) (hP.sub [1, 0] rfl) (hD.sub [1, 0] rfl rfl) dX12_light_52
        ·
          subst qz_7
          refine lv_if_eq (tgt := 47) hx hb dX12_light_28 rfl (fun _ => ?_) (fun c => absurd (by decide) c)
          refine lv_aload_n hx hb dX12_light_47 rfl (lv_at hl 0 rfl) ?_
          refine lv_iconst (v := iZ 1) hx hb dX12_light_48 rfl ?_
          refine CWV (As := [.int (iZ 1)]) (rest := []) (wc := _) (wr := [(Ma, .inl (k 1, 5340, .inl Af))]) hx hb hml hown hts hKK hP hD hS hA (m_refuse l D k hm Ma Mn Ms My Mt Mp Mx Mo Mk Ml Mb Mh Mc Mz Mr Mq Mst Mtd Msz Mtk Mfr Men Mva Mfk Mfp Mfs Mse Mlt Mdp Mct Mdr Mrs Mit Mmk Mtp Mbt 1) ci_X12_refuse qm_X12_81 ⟨Nat.le_of_ble_eq_true rfl, Nat.le_of_ble_eq_true rfl⟩ ⟨Nat.le_of_ble_eq_true rfl, Nat.le_of_ble_eq_true rfl⟩ [0] [1] rfl rfl rfl rfl rfl (dj rfl) 0 rfl rfl rfl hl.1 rfl (Nat.le_of_ble_eq_true rfl) dX12_light_49 (fun u_12 H locs hφ hP hD hS => ?_)
          refine W.eq (g2 := F0 m 52 ls [.int (iZ (-1))]) rfl ?_
          exact EWi hx hb hr hlocks hS (((-1), 1), 0, (), ()) rfl (show (((0 ≤ x1 ∧ x1 < (gz Af 0)) ∧ (0 ≤ x3 ∧ x3 < (gz Af 0)) ∧ (0 ≤ x2 ∧ x2 ≤ 500) ∧ (0 ≤ x4 ∧ x4 ≤ 500)) ∧ ((-1) : Int) = lt (sh Af 10) x1 x2 x3 x4) ∨ (¬ ((0 ≤ x1 ∧ x1 < (gz Af 0)) ∧ (0 ≤ x3 ∧ x3 < (gz Af 0)) ∧ (0 ≤ x2 ∧ x2 ≤ 500) ∧ (0 ≤ x4 ∧ x4 ≤ 500)) ∧ ((-1) : Int) = -1) from (by omega)) (hP.sub [1, 0] rfl) (hD.sub [1, 0] rfl rfl) dX12_light_52
      ·
        subst qz_5
        refine lv_if_eq (tgt := 47) hx hb dX12_light_20 rfl (fun _ => ?_) (fun c => absurd (by decide) c)
        refine lv_aload_n hx hb dX12_light_47 rfl (lv_at hl 0 rfl) ?_
        refine lv_iconst (v := iZ 1) hx hb dX12_light_48 rfl ?_
        refine CWV (As := [.int (iZ 1)]) (rest := []) (wc := _) (wr := [(Ma, .inl (k 1, 5340, .inl Af))]) hx hb hml hown hts hKK hP hD hS hA (m_refuse l D k hm Ma Mn Ms My Mt Mp Mx Mo Mk Ml Mb Mh Mc Mz Mr Mq Mst Mtd Msz Mtk Mfr Men Mva Mfk Mfp Mfs Mse Mlt Mdp Mct Mdr Mrs Mit Mmk Mtp Mbt 1) ci_X12_refuse qm_X12_81 ⟨Nat.le_of_ble_eq_true rfl, Nat.le_of_ble_eq_true rfl⟩ ⟨Nat.le_of_ble_eq_true rfl, Nat.le_of_ble_eq_true rfl⟩ [0] [1] rfl rfl rfl rfl rfl (dj rfl) 0 rfl rfl rfl hl.1 rfl (Nat.le_of_ble_eq_true rfl) dX12_light_49 (fun u_14 H locs hφ hP hD hS => ?_)
        refine W.eq (g2 := F0 m 52 ls [.int (iZ (-1))]) rfl ?_
        exact EWi hx hb hr hlocks hS (((-1), 1), 0, (), ()) rfl (show (((0 ≤ x1 ∧ x1 < (gz Af 0)) ∧ (0 ≤ x3 ∧ x3 < (gz Af 0)) ∧ (0 ≤ x2 ∧ x2 ≤ 500) ∧ (0 ≤ x4 ∧ x4 ≤ 500)) ∧ ((-1) : Int) = lt (sh Af 10) x1 x2 x3 x4) ∨ (¬ ((0 ≤ x1 ∧ x1 < (gz Af 0)) ∧ (0 ≤ x3 ∧ x3 < (gz Af 0)) ∧ (0 ≤ x2 ∧ x2 ≤ 500) ∧ (0 ≤ x4 ∧ x4 ≤ 500)) ∧ ((-1) : Int) = -1) from (by omega)) (hP.sub [1, 0] rfl) (hD.sub [1, 0] rfl rfl) dX12_light_52
    ·
      subst qz_3
      refine lv_if_eq (tgt := 47) hx hb dX12_light_13 rfl (fun _ => ?_) (fun c => absurd (by decide) c)
      refine lv_aload_n hx hb dX12_light_47 rfl (lv_at hl 0 rfl) ?_
      refine lv_iconst (v := iZ 1) hx hb dX12_light_48 rfl ?_
      refine CWV (As := [.int (iZ 1)]) (rest := []) (wc := _) (wr := [(Ma, .inl (k 1, 5340, .inl Af))]) hx hb hml hown hts hKK hP hD hS hA (m_refuse l D k hm Ma Mn Ms My Mt Mp Mx Mo Mk Ml Mb Mh Mc Mz Mr Mq Mst Mtd Msz Mtk Mfr Men Mva Mfk Mfp Mfs Mse Mlt Mdp Mct Mdr Mrs Mit Mmk Mtp Mbt 1) ci_X12_refuse qm_X12_81 ⟨Nat.le_of_ble_eq_true rfl, Nat.le_of_ble_eq_true rfl⟩ ⟨Nat.le_of_ble_eq_true rfl, Nat.le_of_ble_eq_true rfl⟩ [0] [1] rfl rfl rfl rfl rfl (dj rfl) 0 rfl rfl rfl hl.1 rfl (Nat.le_of_ble_eq_true rfl) dX12_light_49 (fun u_16 H locs hφ hP hD hS => ?_)
      refine W.eq (g2 := F0 m 52 ls [.int (iZ (-1))]) rfl ?_
      exact EWi hx hb hr hlocks hS (((-1), 1), 0, (), ()) rfl (show (((0 ≤ x1 ∧ x1 < (gz Af 0)) ∧ (0 ≤ x3 ∧ x3 < (gz Af 0)) ∧ (0 ≤ x2 ∧ x2 ≤ 500) ∧ (0 ≤ x4 ∧ x4 ≤ 500)) ∧ ((-1) : Int) = lt (sh Af 10) x1 x2 x3 x4) ∨ (¬ ((0 ≤ x1 ∧ x1 < (gz Af 0)) ∧ (0 ≤ x3 ∧ x3 < (gz Af 0)) ∧ (0 ≤ x2 ∧ x2 ≤ 500) ∧ (0 ≤ x4 ∧ x4 ≤ 500)) ∧ ((-1) : Int) = -1) from (by omega)) (hP.sub [1, 0] rfl) (hD.sub [1, 0] rfl rfl) dX12_light_52
  ·
    subst qz_1
    refine lv_if_eq (tgt := 47) hx hb dX12_light_5 rfl (fun _ => ?_) (fun c => absurd (by decide) c)
    refine lv_aload_n hx hb dX12_light_47 rfl (lv_at hl 0 rfl) ?_
    refine lv_iconst (v := iZ 1) hx hb dX12_light_48 rfl ?_
    refine CWV (As := [.int (iZ 1)]) (rest := []) (wc := _) (wr := [(Ma, .inl (k 1, 5340, .inl Af))]) hx hb hml hown hts hKK hP hD hS hA (m_refuse l D k hm Ma Mn Ms My Mt Mp Mx Mo Mk Ml Mb Mh Mc Mz Mr Mq Mst Mtd Msz Mtk Mfr Men Mva Mfk Mfp Mfs Mse Mlt Mdp Mct Mdr Mrs Mit Mmk Mtp Mbt 1) ci_X12_refuse qm_X12_81 ⟨Nat.le_of_ble_eq_true rfl, Nat.le_of_ble_eq_true rfl⟩ ⟨Nat.le_of_ble_eq_true rfl, Nat.le_of_ble_eq_true rfl⟩ [0] [1] rfl rfl rfl rfl rfl (dj rfl) 0 rfl rfl rfl hl.1 rfl (Nat.le_of_ble_eq_true rfl) dX12_light_49 (fun u_18 H locs hφ hP hD hS => ?_)
    refine W.eq (g2 := F0 m 52 ls [.int (iZ (-1))]) rfl ?_
    exact EWi hx hb hr hlocks hS (((-1), 1), 0, (), ()) rfl (show (((0 ≤ x1 ∧ x1 < (gz Af 0)) ∧ (0 ≤ x3 ∧ x3 < (gz Af 0)) ∧ (0 ≤ x2 ∧ x2 ≤ 500) ∧ (0 ≤ x4 ∧ x4 ≤ 500)) ∧ ((-1) : Int) = lt (sh Af 10) x1 x2 x3 x4) ∨ (¬ ((0 ≤ x1 ∧ x1 < (gz Af 0)) ∧ (0 ≤ x3 ∧ x3 < (gz Af 0)) ∧ (0 ≤ x2 ∧ x2 ≤ 500) ∧ (0 ≤ x4 ∧ x4 ≤ 500)) ∧ ((-1) : Int) = -1) from (by omega)) (hP.sub [1, 0] rfl) (hD.sub [1, 0] rfl rfl) dX12_light_52
set_option maxHeartbeats 4000000 in
set_option maxRecDepth 100000 in
theorem q_iced (l : Launch) (D : va_G) (k : Nat → ClassId) (hm : Nat) (Ma : Nat) (Mn : Nat) (Ms : Nat) (My : Nat) (Mt : Nat) (Mp : Nat) (Mx : Nat) (Mo : Nat) (Mk : Nat) (Ml : Nat) (Mb : Nat) (Mh : Nat) (Mc : Nat) (Mz : Nat) (Mr : Nat) (Mq : Nat) (Mst : Int) (Mtd : Int) (Msz : Int) (Mtk : Int) (Mfr : Int) (Men : Int) (Mva : Int) (Mfk : Int) (Mfp : Int) (Mfs : Int) (Mse : Int) (Mlt : Int) (Mdp : Int) (Mct : Int) (Mdr : Int) (Mrs : Int) (Mit : Int) (Mmk : Int) (Mtp : Int64) (Mbt : Int64) (Af : Nat → Int32) (x1 : Int) (x2 : Int) (x3 : Int) (hM : M0 Af) (h9x1 : -2147483648 ≤ x1 ∧ x1 < 2147483648) (h9x2 : -2147483648 ≤ x2 ∧ x2 < 2147483648) (h9x3 : -2147483648 ≤ x3 ∧ x3 < 2147483648) : WD (σ := ((Int × Int) × (Int64) × (Unit) × (Unit))) l yX12_iced cX12_iced 4 (some .int) 2 0 0 D k [.ref hm, .int (iZ x1), .int (iZ x2), .int (iZ x3)] [(hm, .inr (12, [.ref Ma, .ref Mn, .int (iZ Mst), .long Mtp, .long Mbt, .ref Ms, .ref My, .ref Mt, .ref Mp, .ref Mx, .int (iZ Mtd), .int (iZ Msz), .int (iZ Mtk), .int (iZ Mfr), .int (iZ Men), .int (iZ Mva), .int (iZ Mfk), .int (iZ Mfp), .int (iZ Mfs), .int (iZ Mse), .int (iZ Mlt), .ref Mo, .int (iZ Mdp), .int (iZ Mct), .ref Mk, .ref Ml, .ref Mb, .ref Mh, .ref Mc, .int (iZ Mdr), .int (iZ Mrs), .ref Mz, .ref Mr, .ref Mq, .int (iZ Mit), .int (iZ Mmk)])), (Ma, .inl (k 1, 5340, .inl Af))] (fun u => some (.int (iZ u.1.1))) (fun u => (((0 ≤ x1 ∧ x1 < (gz Af 0)) ∧ (0 ≤ x2 ∧ x2 < (gz Af 0)) ∧ ¬ x1 = x2 ∧ (0 ≤ x3 ∧ x3 ≤ 400)) ∧ (u.1.1 : Int) = bz (isIc (sh Af 46) (gz Af 1) x1 x2 x3)) ∨ (¬ ((0 ≤ x1 ∧ x1 < (gz Af 0)) ∧ (0 ≤ x2 ∧ x2 < (gz Af 0)) ∧ ¬ x1 = x2 ∧ (0 ≤ x3 ∧ x3 ≤ 400)) ∧ (u.1.1 : Int) = -1)) (fun u => [(hm, .inr (12, [.ref Ma, .ref Mn, .int (iZ u.1.2), .long Mtp, .long Mbt, .ref Ms, .ref My, .ref Mt, .ref Mp, .ref Mx, .int (iZ Mtd), .int (iZ Msz), .int (iZ Mtk), .int (iZ Mfr), .int (iZ Men), .int (iZ Mva), .int (iZ Mfk), .int (iZ Mfp), .int (iZ Mfs), .int (iZ Mse), .int (iZ Mlt), .ref Mo, .int (iZ Mdp), .int (iZ Mct), .ref Mk, .ref Ml, .ref Mb, .ref Mh, .ref Mc, .int (iZ Mdr), .int (iZ Mrs), .ref Mz, .ref Mr, .ref Mq, .int (iZ Mit), .int (iZ Mmk)])), (Ma, .inl (k 1, 5340, .inl Af))]) := by
  refine MW (by decide) (Nat.le_of_ble_eq_true rfl) (fun p e s m below meth c ls A hx hb hml hr hlocks hin hts hown hKK hP hD hS hA hl => ?_)
  have hK := hKK.1
  have hl : lv_has ls 4 [(0, .ref hm), (1, .int (iZ x1)), (2, .int (iZ x2)), (3, .int (iZ x3))] := hl
  obtain ⟨m0, m1, m3, m4, m5, mF, mO, mS⟩ := id hM
  refine lv_aload_n hx hb dX12_iced_0 rfl (lv_at hl 0 rfl) ?_
  refine lv_iload_n hx hb dX12_iced_1 rfl (lv_at hl 1 rfl) ?_
  refine lv_iload_n hx hb dX12_iced_2 rfl (lv_at hl 2 rfl) ?_
  refine CPV (As := [.int (iZ x1), .int (iZ x2)]) (rest := []) hx hb hml hown hts hKK hP (m_areTwo l D k ([.ref Ma, .ref Mn, .int (iZ Mst), .long Mtp, .long Mbt, .ref Ms, .ref My, .ref Mt, .ref Mp, .ref Mx, .int (iZ Mtd), .int (iZ Msz), .int (iZ Mtk), .int (iZ Mfr), .int (iZ Men), .int (iZ Mva), .int (iZ Mfk), .int (iZ Mfp), .int (iZ Mfs), .int (iZ Mse), .int (iZ Mlt), .ref Mo, .int (iZ Mdp), .int (iZ Mct), .ref Mk, .ref Ml, .ref Mb, .ref Mh, .ref Mc, .int (iZ Mdr), .int (iZ Mrs), .ref Mz, .ref Mr, .ref Mq, .int (iZ Mit), .int (iZ Mmk)]) hm Ma Af x1 x2 rfl hM ⟨by omega, by omega⟩ ⟨by omega, by omega⟩) ci_X12_areTwo qm_X12_265 ⟨Nat.le_of_ble_eq_true rfl, Nat.le_of_ble_eq_true rfl⟩ ⟨Nat.le_of_ble_eq_true rfl, Nat.le_of_ble_eq_true rfl⟩ 0 rfl rfl rfl hl.1 rfl (Nat.le_of_ble_eq_true rfl) dX12_iced_3 (fun z_1 hz_1 => ?_)
  rcases hz_1 with ⟨qz_1, hz_1⟩ | ⟨qz_1, hz_1⟩
  ·
    subst qz_1
    refine lv_if_eq (tgt := 38) hx hb dX12_iced_6 rfl (fun c => absurd c (by decide)) (fun _ => ?_)
    refine lv_iload_n hx hb dX12_iced_9 rfl (lv_at hl 3 rfl) ?_
    refine CPS (As := [.int (iZ x3)]) (rest := []) hx hb hml hown hts hKK (hP.sub (ws' := []) [] rfl) (m_isWeek l D k x3 ⟨by omega, by omega⟩) ci_X12_isWeek qm_X12_268 ⟨Nat.le_of_ble_eq_true rfl, Nat.le_of_ble_eq_true rfl⟩ ⟨Nat.le_of_ble_eq_true rfl, Nat.le_of_ble_eq_true rfl⟩ rfl hl.1 rfl (Nat.le_of_ble_eq_true rfl) dX12_iced_10 (fun z_3 hz_3 => ?_)
    rcases hz_3 with ⟨qz_3, hz_3⟩ | ⟨qz_3, hz_3⟩
    ·
      subst qz_3
      refine lv_if_eq (tgt := 38) hx hb dX12_iced_13 rfl (fun c => absurd c (by decide)) (fun _ => ?_)
      refine lv_aload_n hx hb dX12_iced_16 rfl (lv_at hl 0 rfl) ?_
      refine lv_aload_n hx hb dX12_iced_17 rfl (lv_at hl 0 rfl) ?_
      refine lv_iload_n hx hb dX12_iced_18 rfl (lv_at hl 1 rfl) ?_
      refine lv_iload_n hx hb dX12_iced_19 rfl (lv_at hl 2 rfl) ?_
      refine lv_iload_n hx hb dX12_iced_20 rfl (lv_at hl 3 rfl) ?_
      refine CRV (As := [.int (iZ x1), .int (iZ x2), .int (iZ x3)]) (rest := [.ref hm]) hx hb hml hown hts hKK hP (m_iced l D k ([.ref Ma, .ref Mn, .int (iZ Mst), .long Mtp, .long Mbt, .ref Ms, .ref My, .ref Mt, .ref Mp, .ref Mx, .int (iZ Mtd), .int (iZ Msz), .int (iZ Mtk), .int (iZ Mfr), .int (iZ Men), .int (iZ Mva), .int (iZ Mfk), .int (iZ Mfp), .int (iZ Mfs), .int (iZ Mse), .int (iZ Mlt), .ref Mo, .int (iZ Mdp), .int (iZ Mct), .ref Mk, .ref Ml, .ref Mb, .ref Mh, .ref Mc, .int (iZ Mdr), .int (iZ Mrs), .ref Mz, .ref Mr, .ref Mq, .int (iZ Mit), .int (iZ Mmk)]) hm Ma Af x1 x2 x3 rfl hM ⟨by omega, by omega⟩ ⟨by omega, by omega⟩ ⟨by omega, by omega⟩) ci_X12_isIced qm_X12_271 ⟨Nat.le_of_ble_eq_true rfl, Nat.le_of_ble_eq_true rfl⟩ ⟨Nat.le_of_ble_eq_true rfl, Nat.le_of_ble_eq_true rfl⟩ 0 rfl rfl rfl hl.1 rfl (Nat.le_of_ble_eq_true rfl) dX12_iced_21 ?_
      have hz_h_5 := bz_rg (isIc (sh Af 46) (gz Af 1) x1 x2 x3)
      refine lv_if_eq (tgt := 31) hx hb dX12_iced_24 rfl (fun c_6 => ?_) (fun c_6 => ?_)
      ·
        have c_6 := (zeq (x := iZ (bz (isIc (sh Af 46) (gz Af 1) x1 x2 x3))) (y := iZ 0) rfl rfl ⟨by omega, by omega⟩ wn_0).mp c_6
        refine lv_iconst (v := iZ 0) hx hb dX12_iced_31 rfl ?_
        refine CWV (As := [.int (iZ 0)]) (rest := []) (wc := _) (wr := [(Ma, .inl (k 1, 5340, .inl Af))]) hx hb hml hown hts hKK hP hD hS hA (m_gives l D k hm Ma Mn Ms My Mt Mp Mx Mo Mk Ml Mb Mh Mc Mz Mr Mq Mst Mtd Msz Mtk Mfr Men Mva Mfk Mfp Mfs Mse Mlt Mdp Mct Mdr Mrs Mit Mmk Mtp Mbt 0) ci_X12_gives qm_X12_85 ⟨Nat.le_of_ble_eq_true rfl, Nat.le_of_ble_eq_true rfl⟩ ⟨Nat.le_of_ble_eq_true rfl, Nat.le_of_ble_eq_true rfl⟩ [0] [1] rfl rfl rfl rfl rfl (dj rfl) 0 rfl rfl rfl hl.1 rfl (Nat.le_of_ble_eq_true rfl) dX12_iced_32 (fun u_7 H locs hφ hP hD hS => ?_)
        refine W.eq (g2 := F0 m 35 ls [.int (iZ 0)]) rfl ?_
        refine lv_goto (tgt := 43) hx hb dX12_iced_35 rfl ?_
        exact EWi hx hb hr hlocks hS ((0, 0), 0, (), ()) rfl (show (((0 ≤ x1 ∧ x1 < (gz Af 0)) ∧ (0 ≤ x2 ∧ x2 < (gz Af 0)) ∧ ¬ x1 = x2 ∧ (0 ≤ x3 ∧ x3 ≤ 400)) ∧ (0 : Int) = bz (isIc (sh Af 46) (gz Af 1) x1 x2 x3)) ∨ (¬ ((0 ≤ x1 ∧ x1 < (gz Af 0)) ∧ (0 ≤ x2 ∧ x2 < (gz Af 0)) ∧ ¬ x1 = x2 ∧ (0 ≤ x3 ∧ x3 ≤ 400)) ∧ (0 : Int) = -1) from (by omega)) (hP.sub [1, 0] rfl) (hD.sub [1, 0] rfl rfl) dX12_iced_43
      ·
        have c_6 := mt (zeq (x := iZ (bz (isIc (sh Af 46) (gz Af 1) x1 x2 x3))) (y := iZ 0) rfl rfl ⟨by omega, by omega⟩ wn_0).mpr c_6
        refine lv_iconst (v := iZ 1) hx hb dX12_iced_27 rfl ?_
        refine lv_goto (tgt := 32) hx hb dX12_iced_28 rfl ?_
        refine CWV (As := [.int (iZ 1)]) (rest := []) (wc := _) (wr := [(Ma, .inl (k 1, 5340, .inl Af))]) hx hb hml hown hts hKK hP hD hS hA (m_gives l D k hm Ma Mn Ms My Mt Mp Mx Mo Mk Ml Mb Mh Mc Mz Mr Mq Mst Mtd Msz Mtk Mfr Men Mva Mfk Mfp Mfs Mse Mlt Mdp Mct Mdr Mrs Mit Mmk Mtp Mbt 1) ci_X12_gives qm_X12_85 ⟨Nat.le_of_ble_eq_true rfl, Nat.le_of_ble_eq_true rfl⟩ ⟨Nat.le_of_ble_eq_true rfl, Nat.le_of_ble_eq_true rfl⟩ [0] [1] rfl rfl rfl rfl rfl (dj rfl) 0 rfl rfl rfl hl.1 rfl (Nat.le_of_ble_eq_true rfl) dX12_iced_32 (fun u_8 H locs hφ hP hD hS => ?_)
        refine W.eq (g2 := F0 m 35 ls [.int (iZ 1)]) rfl ?_
        refine lv_goto (tgt := 43) hx hb dX12_iced_35 rfl ?_
        exact EWi hx hb hr hlocks hS ((1, 0), 0, (), ()) rfl (show (((0 ≤ x1 ∧ x1 < (gz Af 0)) ∧ (0 ≤ x2 ∧ x2 < (gz Af 0)) ∧ ¬ x1 = x2 ∧ (0 ≤ x3 ∧ x3 ≤ 400)) ∧ (1 : Int) = bz (isIc (sh Af 46) (gz Af 1) x1 x2 x3)) ∨ (¬ ((0 ≤ x1 ∧ x1 < (gz Af 0)) ∧ (0 ≤ x2 ∧ x2 < (gz Af 0)) ∧ ¬ x1 = x2 ∧ (0 ≤ x3 ∧ x3 ≤ 400)) ∧ (1 : Int) = -1) from (by omega)) (hP.sub [1, 0] rfl) (hD.sub [1, 0] rfl rfl) dX12_iced_43
    ·
      subst qz_3
      refine lv_if_eq (tgt := 38) hx hb dX12_iced_13 rfl (fun _ => ?_) (fun c => absurd (by decide) c)
      refine lv_aload_n hx hb dX12_iced_38 rfl (lv_at hl 0 rfl) ?_
      refine lv_iconst (v := iZ 1) hx hb dX12_iced_39 rfl ?_
      refine CWV (As := [.int (iZ 1)]) (rest := []) (wc := _) (wr := [(Ma, .inl (k 1, 5340, .inl Af))]) hx hb hml hown hts hKK hP hD hS hA (m_refuse l D k hm Ma Mn Ms My Mt Mp Mx Mo Mk Ml Mb Mh Mc Mz Mr Mq Mst Mtd Msz Mtk Mfr Men Mva Mfk Mfp Mfs Mse Mlt Mdp Mct Mdr Mrs Mit Mmk Mtp Mbt 1) ci_X12_refuse qm_X12_81 ⟨Nat.le_of_ble_eq_true rfl, Nat.le_of_ble_eq_true rfl⟩ ⟨Nat.le_of_ble_eq_true rfl, Nat.le_of_ble_eq_true rfl⟩ [0] [1] rfl rfl rfl rfl rfl (dj rfl) 0 rfl rfl rfl hl.1 rfl (Nat.le_of_ble_eq_true rfl) dX12_iced_40 (fun u_10 H locs hφ hP hD hS => ?_)
      refine W.eq (g2 := F0 m 43 ls [.int (iZ (-1))]) rfl ?_
      exact EWi hx hb hr hlocks hS (((-1), 1), 0, (), ()) rfl (show (((0 ≤ x1 ∧ x1 < (gz Af 0)) ∧ (0 ≤ x2 ∧ x2 < (gz Af 0)) ∧ ¬ x1 = x2 ∧ (0 ≤ x3 ∧ x3 ≤ 400)) ∧ ((-1) : Int) = bz (isIc (sh Af 46) (gz Af 1) x1 x2 x3)) ∨ (¬ ((0 ≤ x1 ∧ x1 < (gz Af 0)) ∧ (0 ≤ x2 ∧ x2 < (gz Af 0)) ∧ ¬ x1 = x2 ∧ (0 ≤ x3 ∧ x3 ≤ 400)) ∧ ((-1) : Int) = -1) from (by omega)) (hP.sub [1, 0] rfl) (hD.sub [1, 0] rfl rfl) dX12_iced_43
  ·
    subst qz_1
    refine lv_if_eq (tgt := 38) hx hb dX12_iced_6 rfl (fun _ => ?_) (fun c => absurd (by decide) c)
    refine lv_aload_n hx hb dX12_iced_38 rfl (lv_at hl 0 rfl) ?_
    refine lv_iconst (v := iZ 1) hx hb dX12_iced_39 rfl ?_
    refine CWV (As := [.int (iZ 1)]) (rest := []) (wc := _) (wr := [(Ma, .inl (k 1, 5340, .inl Af))]) hx hb hml hown hts hKK hP hD hS hA (m_refuse l D k hm Ma Mn Ms My Mt Mp Mx Mo Mk Ml Mb Mh Mc Mz Mr Mq Mst Mtd Msz Mtk Mfr Men Mva Mfk Mfp Mfs Mse Mlt Mdp Mct Mdr Mrs Mit Mmk Mtp Mbt 1) ci_X12_refuse qm_X12_81 ⟨Nat.le_of_ble_eq_true rfl, Nat.le_of_ble_eq_true rfl⟩ ⟨Nat.le_of_ble_eq_true rfl, Nat.le_of_ble_eq_true rfl⟩ [0] [1] rfl rfl rfl rfl rfl (dj rfl) 0 rfl rfl rfl hl.1 rfl (Nat.le_of_ble_eq_true rfl) dX12_iced_40 (fun u_12 H locs hφ hP hD hS => ?_)
    refine W.eq (g2 := F0 m 43 ls [.int (iZ (-1))]) rfl ?_
    exact EWi hx hb hr hlocks hS (((-1), 1), 0, (), ()) rfl (show (((0 ≤ x1 ∧ x1 < (gz Af 0)) ∧ (0 ≤ x2 ∧ x2 < (gz Af 0)) ∧ ¬ x1 = x2 ∧ (0 ≤ x3 ∧ x3 ≤ 400)) ∧ ((-1) : Int) = bz (isIc (sh Af 46) (gz Af 1) x1 x2 x3)) ∨ (¬ ((0 ≤ x1 ∧ x1 < (gz Af 0)) ∧ (0 ≤ x2 ∧ x2 < (gz Af 0)) ∧ ¬ x1 = x2 ∧ (0 ≤ x3 ∧ x3 ≤ 400)) ∧ ((-1) : Int) = -1) from (by omega)) (hP.sub [1, 0] rfl) (hD.sub [1, 0] rfl rfl) dX12_iced_43
set_option maxHeartbeats 4000000 in
set_option maxRecDepth 100000 in
theorem q_arrives (l : Launch) (D : va_G) (k : Nat → ClassId) (hm : Nat) (Ma : Nat) (Mn : Nat) (Ms : Nat) (My : Nat) (Mt : Nat) (Mp : Nat) (Mx : Nat) (Mo : Nat) (Mk : Nat) (Ml : Nat) (Mb : Nat) (Mh : Nat) (Mc : Nat) (Mz : Nat) (Mr : Nat) (Mq : Nat) (Mst : Int) (Mtd : Int) (Msz : Int) (Mtk : Int) (Mfr : Int) (Men : Int) (Mva : Int) (Mfk : Int) (Mfp : Int) (Mfs : Int) (Mse : Int) (Mlt : Int) (Mdp : Int) (Mct : Int) (Mdr : Int) (Mrs : Int) (Mit : Int) (Mmk : Int) (Mtp : Int64) (Mbt : Int64) (Af : Nat → Int32) (x1 : Int) (x2 : Int) (x3 : Int) (hM : M0 Af) (h9x1 : -2147483648 ≤ x1 ∧ x1 < 2147483648) (h9x2 : -2147483648 ≤ x2 ∧ x2 < 2147483648) (h9x3 : -2147483648 ≤ x3 ∧ x3 < 2147483648) : WD (σ := ((Int × Int) × (Int64) × (Unit) × (Unit))) l yX12_arrives cX12_arrives 4 (some .int) 5 0 0 D k [.ref hm, .int (iZ x1), .int (iZ x2), .int (iZ x3)] [(hm, .inr (12, [.ref Ma, .ref Mn, .int (iZ Mst), .long Mtp, .long Mbt, .ref Ms, .ref My, .ref Mt, .ref Mp, .ref Mx, .int (iZ Mtd), .int (iZ Msz), .int (iZ Mtk), .int (iZ Mfr), .int (iZ Men), .int (iZ Mva), .int (iZ Mfk), .int (iZ Mfp), .int (iZ Mfs), .int (iZ Mse), .int (iZ Mlt), .ref Mo, .int (iZ Mdp), .int (iZ Mct), .ref Mk, .ref Ml, .ref Mb, .ref Mh, .ref Mc, .int (iZ Mdr), .int (iZ Mrs), .ref Mz, .ref Mr, .ref Mq, .int (iZ Mit), .int (iZ Mmk)])), (Ma, .inl (k 1, 5340, .inl Af))] (fun u => some (.int (iZ u.1.1))) (fun u => (((0 ≤ x1 ∧ x1 < (gz Af 0)) ∧ (0 ≤ x3 ∧ x3 < (gz Af 0)) ∧ (0 ≤ x2 ∧ x2 ≤ 400)) ∧ ((1000000 ≤ arF (sh Af 10) (sh Af 46) (gz Af 1) x1 x2 x3 ∧ (u.1.1 : Int) = -1) ∨ (arF (sh Af 10) (sh Af 46) (gz Af 1) x1 x2 x3 < 1000000 ∧ (u.1.1 : Int) = arF (sh Af 10) (sh Af 46) (gz Af 1) x1 x2 x3))) ∨ (¬ ((0 ≤ x1 ∧ x1 < (gz Af 0)) ∧ (0 ≤ x3 ∧ x3 < (gz Af 0)) ∧ (0 ≤ x2 ∧ x2 ≤ 400)) ∧ (u.1.1 : Int) = -1)) (fun u => [(hm, .inr (12, [.ref Ma, .ref Mn, .int (iZ u.1.2), .long Mtp, .long Mbt, .ref Ms, .ref My, .ref Mt, .ref Mp, .ref Mx, .int (iZ Mtd), .int (iZ Msz), .int (iZ Mtk), .int (iZ Mfr), .int (iZ Men), .int (iZ Mva), .int (iZ Mfk), .int (iZ Mfp), .int (iZ Mfs), .int (iZ Mse), .int (iZ Mlt), .ref Mo, .int (iZ Mdp), .int (iZ Mct), .ref Mk, .ref Ml, .ref Mb, .ref Mh, .ref Mc, .int (iZ Mdr), .int (iZ Mrs), .ref Mz, .ref Mr, .ref Mq, .int (iZ Mit), .int (iZ Mmk)])), (Ma, .inl (k 1, 5340, .inl Af))]) := by
  refine MW (by decide) (Nat.le_of_ble_eq_true rfl) (fun p e s m below meth c ls A hx hb hml hr hlocks hin hts hown hKK hP hD hS hA hl => ?_)
  have hK := hKK.1
  have hl : lv_has ls 4 [(0, .ref hm), (1, .int (iZ x1)), (2, .int (iZ x2)), (3, .int (iZ x3))] := hl
  obtain ⟨m0, m1, m3, m4, m5, mF, mO, mS⟩ := id hM
  refine lv_aload_n hx hb dX12_arrives_0 rfl (lv_at hl 0 rfl) ?_
  refine lv_iload_n hx hb dX12_arrives_1 rfl (lv_at hl 1 rfl) ?_
  refine lv_iload_n hx hb dX12_arrives_2 rfl (lv_at hl 2 rfl) ?_
  refine lv_iload_n hx hb dX12_arrives_3 rfl (lv_at hl 3 rfl) ?_
  refine CPV (As := [.int (iZ x1), .int (iZ x2), .int (iZ x3)]) (rest := []) hx hb hml hown hts hKK hP (m_isSent l D k ([.ref Ma, .ref Mn, .int (iZ Mst), .long Mtp, .long Mbt, .ref Ms, .ref My, .ref Mt, .ref Mp, .ref Mx, .int (iZ Mtd), .int (iZ Msz), .int (iZ Mtk), .int (iZ Mfr), .int (iZ Men), .int (iZ Mva), .int (iZ Mfk), .int (iZ Mfp), .int (iZ Mfs), .int (iZ Mse), .int (iZ Mlt), .ref Mo, .int (iZ Mdp), .int (iZ Mct), .ref Mk, .ref Ml, .ref Mb, .ref Mh, .ref Mc, .int (iZ Mdr), .int (iZ Mrs), .ref Mz, .ref Mr, .ref Mq, .int (iZ Mit), .int (iZ Mmk)]) hm Ma Af x1 x2 x3 rfl hM ⟨by omega, by omega⟩ ⟨by omega, by omega⟩ ⟨by omega, by omega⟩) ci_X12_isSent qm_X12_277 ⟨Nat.le_of_ble_eq_true rfl, Nat.le_of_ble_eq_true rfl⟩ ⟨Nat.le_of_ble_eq_true rfl, Nat.le_of_ble_eq_true rfl⟩ 0 rfl rfl rfl hl.1 rfl (Nat.le_of_ble_eq_true rfl) dX12_arrives_4 (fun z_1 hz_1 => ?_)
  rcases hz_1 with ⟨qz_1, hz_1⟩ | ⟨qz_1, hz_1⟩
  ·
    subst qz_1
    refine lv_if_eq (tgt := 24) hx hb dX12_arrives_7 rfl (fun c => absurd c (by decide)) (fun _ => ?_)
    refine lv_aload_n hx hb dX12_arrives_10 rfl (lv_at hl 0 rfl) ?_
    refine lv_aload_n hx hb dX12_arrives_11 rfl (lv_at hl 0 rfl) ?_
    refine lv_iload_n hx hb dX12_arrives_12 rfl (lv_at hl 1 rfl) ?_
    refine lv_iload_n hx hb dX12_arrives_13 rfl (lv_at hl 2 rfl) ?_
    refine lv_iload_n hx hb dX12_arrives_14 rfl (lv_at hl 3 rfl) ?_
    refine CPV (As := [.int (iZ x1), .int (iZ x2), .int (iZ x3)]) (rest := [.ref hm]) hx hb hml hown hts hKK hP (m_arrival l D k ([.ref Ma, .ref Mn, .int (iZ Mst), .long Mtp, .long Mbt, .ref Ms, .ref My, .ref Mt, .ref Mp, .ref Mx, .int (iZ Mtd), .int (iZ Msz), .int (iZ Mtk), .int (iZ Mfr), .int (iZ Men), .int (iZ Mva), .int (iZ Mfk), .int (iZ Mfp), .int (iZ Mfs), .int (iZ Mse), .int (iZ Mlt), .ref Mo, .int (iZ Mdp), .int (iZ Mct), .ref Mk, .ref Ml, .ref Mb, .ref Mh, .ref Mc, .int (iZ Mdr), .int (iZ Mrs), .ref Mz, .ref Mr, .ref Mq, .int (iZ Mit), .int (iZ Mmk)]) hm Ma Af x1 x2 x3 rfl hM ⟨by omega, by omega⟩ ⟨by omega, by omega⟩ ⟨by omega, by omega⟩) ci_X12_arrival qm_X12_280 ⟨Nat.le_of_ble_eq_true rfl, Nat.le_of_ble_eq_true rfl⟩ ⟨Nat.le_of_ble_eq_true rfl, Nat.le_of_ble_eq_true rfl⟩ 0 rfl rfl rfl hl.1 rfl (Nat.le_of_ble_eq_true rfl) dX12_arrives_15 (fun z_3 hz_3 => ?_)
    obtain ⟨ez_3, az_3⟩ := hz_3
    refine CWV (As := [.int (iZ z_3)]) (rest := []) (wc := _) (wr := [(Ma, .inl (k 1, 5340, .inl Af))]) hx hb hml hown hts hKK hP hD hS hA (m_orNever l D k hm Ma Mn Ms My Mt Mp Mx Mo Mk Ml Mb Mh Mc Mz Mr Mq Mst Mtd Msz Mtk Mfr Men Mva Mfk Mfp Mfs Mse Mlt Mdp Mct Mdr Mrs Mit Mmk Mtp Mbt z_3 ⟨by omega, by omega⟩) ci_X12_orNever qm_X12_284 ⟨Nat.le_of_ble_eq_true rfl, Nat.le_of_ble_eq_true rfl⟩ ⟨Nat.le_of_ble_eq_true rfl, Nat.le_of_ble_eq_true rfl⟩ [0] [1] rfl rfl rfl rfl rfl (dj rfl) 0 rfl rfl rfl hl.1 rfl (Nat.le_of_ble_eq_true rfl) dX12_arrives_18 (fun u_4 H locs hφ hP hD hS => ?_)
    have p_5 : ((z_3 : Int) ≥ 1000000 ∧ u_4.1.1 = -1 ∧ u_4.1.2 = 6) ∨ ((z_3 : Int) < 1000000 ∧ u_4.1.1 = z_3 ∧ u_4.1.2 = 0) := hφ
    refine W.eq (g2 := F0 m 21 ls [.int (iZ u_4.1.1)]) rfl ?_
    refine lv_goto (tgt := 29) hx hb dX12_arrives_21 rfl ?_
    exact EWi hx hb hr hlocks hS ((u_4.1.1, u_4.1.2), 0, (), ()) rfl (show (((0 ≤ x1 ∧ x1 < (gz Af 0)) ∧ (0 ≤ x3 ∧ x3 < (gz Af 0)) ∧ (0 ≤ x2 ∧ x2 ≤ 400)) ∧ ((1000000 ≤ arF (sh Af 10) (sh Af 46) (gz Af 1) x1 x2 x3 ∧ (u_4.1.1 : Int) = -1) ∨ (arF (sh Af 10) (sh Af 46) (gz Af 1) x1 x2 x3 < 1000000 ∧ (u_4.1.1 : Int) = arF (sh Af 10) (sh Af 46) (gz Af 1) x1 x2 x3))) ∨ (¬ ((0 ≤ x1 ∧ x1 < (gz Af 0)) ∧ (0 ≤ x3 ∧ x3 < (gz Af 0)) ∧ (0 ≤ x2 ∧ x2 ≤ 400)) ∧ (u_4.1.1 : Int) = -1) from (by omega)) (hP.sub [1, 0] rfl) (hD.sub [1, 0] rfl rfl) dX12_arrives_29
  ·
    subst qz_1
    refine lv_if_eq (tgt := 24) hx hb dX12_arrives_7 rfl (fun _ => ?_) (fun c => absurd (by decide) c)
    refine lv_aload_n hx hb dX12_arrives_24 rfl (lv_at hl 0 rfl) ?_
    refine lv_iconst (v := iZ 1) hx hb dX12_arrives_25 rfl ?_
    refine CWV (As := [.int (iZ 1)]) (rest := []) (wc := _) (wr := [(Ma, .inl (k 1, 5340, .inl Af))]) hx hb hml hown hts hKK hP hD hS hA (m_refuse l D k hm Ma Mn Ms My Mt Mp Mx Mo Mk Ml Mb Mh Mc Mz Mr Mq Mst Mtd Msz Mtk Mfr Men Mva Mfk Mfp Mfs Mse Mlt Mdp Mct Mdr Mrs Mit Mmk Mtp Mbt 1) ci_X12_refuse qm_X12_81 ⟨Nat.le_of_ble_eq_true rfl, Nat.le_of_ble_eq_true rfl⟩ ⟨Nat.le_of_ble_eq_true rfl, Nat.le_of_ble_eq_true rfl⟩ [0] [1] rfl rfl rfl rfl rfl (dj rfl) 0 rfl rfl rfl hl.1 rfl (Nat.le_of_ble_eq_true rfl) dX12_arrives_26 (fun u_7 H locs hφ hP hD hS => ?_)
    refine W.eq (g2 := F0 m 29 ls [.int (iZ (-1))]) rfl ?_
    exact EWi hx hb hr hlocks hS (((-1), 1), 0, (), ()) rfl (show (((0 ≤ x1 ∧ x1 < (gz Af 0)) ∧ (0 ≤ x3 ∧ x3 < (gz Af 0)) ∧ (0 ≤ x2 ∧ x2 ≤ 400)) ∧ ((1000000 ≤ arF (sh Af 10) (sh Af 46) (gz Af 1) x1 x2 x3 ∧ ((-1) : Int) = -1) ∨ (arF (sh Af 10) (sh Af 46) (gz Af 1) x1 x2 x3 < 1000000 ∧ ((-1) : Int) = arF (sh Af 10) (sh Af 46) (gz Af 1) x1 x2 x3))) ∨ (¬ ((0 ≤ x1 ∧ x1 < (gz Af 0)) ∧ (0 ≤ x3 ∧ x3 < (gz Af 0)) ∧ (0 ≤ x2 ∧ x2 ≤ 400)) ∧ ((-1) : Int) = -1) from (by omega)) (hP.sub [1, 0] rfl) (hD.sub [1, 0] rfl rfl) dX12_arrives_29
set_option maxHeartbeats 4000000 in
set_option maxRecDepth 100000 in
theorem q_ship (l : Launch) (D : va_G) (k : Nat → ClassId) (hm : Nat) (Ma : Nat) (Mn : Nat) (Ms : Nat) (My : Nat) (Mt : Nat) (Mp : Nat) (Mx : Nat) (Mo : Nat) (Mk : Nat) (Ml : Nat) (Mb : Nat) (Mh : Nat) (Mc : Nat) (Mz : Nat) (Mr : Nat) (Mq : Nat) (Mst : Int) (Mtd : Int) (Msz : Int) (Mtk : Int) (Mfr : Int) (Men : Int) (Mva : Int) (Mfk : Int) (Mfp : Int) (Mfs : Int) (Mse : Int) (Mlt : Int) (Mdp : Int) (Mct : Int) (Mdr : Int) (Mrs : Int) (Mit : Int) (Mmk : Int) (Mtp : Int64) (Mbt : Int64) (Af : Nat → Int32) (x1 : Int) (x2 : Int) (x3 : Int) (hM : M0 Af) (h9x1 : -2147483648 ≤ x1 ∧ x1 < 2147483648) (h9x2 : -2147483648 ≤ x2 ∧ x2 < 2147483648) (h9x3 : -2147483648 ≤ x3 ∧ x3 < 2147483648) : WD (σ := ((Int × Int) × (Int64) × (Unit) × (Unit))) l yX12_ship cX12_ship 4 (some .int) 4 0 0 D k [.ref hm, .int (iZ x1), .int (iZ x2), .int (iZ x3)] [(hm, .inr (12, [.ref Ma, .ref Mn, .int (iZ Mst), .long Mtp, .long Mbt, .ref Ms, .ref My, .ref Mt, .ref Mp, .ref Mx, .int (iZ Mtd), .int (iZ Msz), .int (iZ Mtk), .int (iZ Mfr), .int (iZ Men), .int (iZ Mva), .int (iZ Mfk), .int (iZ Mfp), .int (iZ Mfs), .int (iZ Mse), .int (iZ Mlt), .ref Mo, .int (iZ Mdp), .int (iZ Mct), .ref Mk, .ref Ml, .ref Mb, .ref Mh, .ref Mc, .int (iZ Mdr), .int (iZ Mrs), .ref Mz, .ref Mr, .ref Mq, .int (iZ Mit), .int (iZ Mmk)])), (Ma, .inl (k 1, 5340, .inl Af))] (fun u => some (.int (iZ u.1.1))) (fun u => (((0 ≤ x1 ∧ x1 < (gz Af 0)) ∧ (0 ≤ x3 ∧ x3 < (gz Af 0)) ∧ (0 ≤ x2 ∧ x2 ≤ 400)) ∧ (u.1.1 : Int) = cmF (sh Af 10) x1 x2 x3 10) ∨ (¬ ((0 ≤ x1 ∧ x1 < (gz Af 0)) ∧ (0 ≤ x3 ∧ x3 < (gz Af 0)) ∧ (0 ≤ x2 ∧ x2 ≤ 400)) ∧ (u.1.1 : Int) = -1)) (fun u => [(hm, .inr (12, [.ref Ma, .ref Mn, .int (iZ u.1.2), .long Mtp, .long Mbt, .ref Ms, .ref My, .ref Mt, .ref Mp, .ref Mx, .int (iZ Mtd), .int (iZ Msz), .int (iZ Mtk), .int (iZ Mfr), .int (iZ Men), .int (iZ Mva), .int (iZ Mfk), .int (iZ Mfp), .int (iZ Mfs), .int (iZ Mse), .int (iZ Mlt), .ref Mo, .int (iZ Mdp), .int (iZ Mct), .ref Mk, .ref Ml, .ref Mb, .ref Mh, .ref Mc, .int (iZ Mdr), .int (iZ Mrs), .ref Mz, .ref Mr, .ref Mq, .int (iZ Mit), .int (iZ Mmk)])), (Ma, .inl (k 1, 5340, .inl Af))]) := by
  refine MW (by decide) (Nat.le_of_ble_eq_true rfl) (fun p e s m below meth c ls A hx hb hml hr hlocks hin hts hown hKK hP hD hS hA hl => ?_)
  have hK := hKK.1
  have hl : lv_has ls 4 [(0, .ref hm), (1, .int (iZ x1)), (2, .int (iZ x2)), (3, .int (iZ x3))] := hl
  obtain ⟨m0, m1, m3, m4, m5, mF, mO, mS⟩ := id hM
  refine lv_aload_n hx hb dX12_ship_0 rfl (lv_at hl 0 rfl) ?_
  refine lv_iload_n hx hb dX12_ship_1 rfl (lv_at hl 1 rfl) ?_
  refine lv_iload_n hx hb dX12_ship_2 rfl (lv_at hl 2 rfl) ?_
  refine lv_iload_n hx hb dX12_ship_3 rfl (lv_at hl 3 rfl) ?_
  refine CPV (As := [.int (iZ x1), .int (iZ x2), .int (iZ x3)]) (rest := []) hx hb hml hown hts hKK hP (m_isSent l D k ([.ref Ma, .ref Mn, .int (iZ Mst), .long Mtp, .long Mbt, .ref Ms, .ref My, .ref Mt, .ref Mp, .ref Mx, .int (iZ Mtd), .int (iZ Msz), .int (iZ Mtk), .int (iZ Mfr), .int (iZ Men), .int (iZ Mva), .int (iZ Mfk), .int (iZ Mfp), .int (iZ Mfs), .int (iZ Mse), .int (iZ Mlt), .ref Mo, .int (iZ Mdp), .int (iZ Mct), .ref Mk, .ref Ml, .ref Mb, .ref Mh, .ref Mc, .int (iZ Mdr), .int (iZ Mrs), .ref Mz, .ref Mr, .ref Mq, .int (iZ Mit), .int (iZ Mmk)]) hm Ma Af x1 x2 x3 rfl hM ⟨by omega, by omega⟩ ⟨by omega, by omega⟩ ⟨by omega, by omega⟩) ci_X12_isSent qm_X12_277 ⟨Nat.le_of_ble_eq_true rfl, Nat.le_of_ble_eq_true rfl⟩ ⟨Nat.le_of_ble_eq_true rfl, Nat.le_of_ble_eq_true rfl⟩ 0 rfl rfl rfl hl.1 rfl (Nat.le_of_ble_eq_true rfl) dX12_ship_4 (fun z_1 hz_1 => ?_)
  rcases hz_1 with ⟨qz_1, hz_1⟩ | ⟨qz_1, hz_1⟩
  ·
    subst qz_1
    refine lv_if_eq (tgt := 26) hx hb dX12_ship_7 rfl (fun c => absurd c (by decide)) (fun _ => ?_)
    refine lv_aload_n hx hb dX12_ship_10 rfl (lv_at hl 0 rfl) ?_
    refine lv_aload_n hx hb dX12_ship_11 rfl (lv_at hl 0 rfl) ?_
    refine lv_iload_n hx hb dX12_ship_12 rfl (lv_at hl 1 rfl) ?_
    refine lv_iload_n hx hb dX12_ship_13 rfl (lv_at hl 2 rfl) ?_
    refine lv_iload_n hx hb dX12_ship_14 rfl (lv_at hl 3 rfl) ?_
    refine lv_bipush (v := iZ 10) hx hb dX12_ship_15 bip_10 ?_
    refine CPV (As := [.int (iZ x1), .int (iZ x2), .int (iZ x3), .int (iZ 10)]) (rest := [.ref hm]) hx hb hml hown hts hKK hP (m_comes l D k ([.ref Ma, .ref Mn, .int (iZ Mst), .long Mtp, .long Mbt, .ref Ms, .ref My, .ref Mt, .ref Mp, .ref Mx, .int (iZ Mtd), .int (iZ Msz), .int (iZ Mtk), .int (iZ Mfr), .int (iZ Men), .int (iZ Mva), .int (iZ Mfk), .int (iZ Mfp), .int (iZ Mfs), .int (iZ Mse), .int (iZ Mlt), .ref Mo, .int (iZ Mdp), .int (iZ Mct), .ref Mk, .ref Ml, .ref Mb, .ref Mh, .ref Mc, .int (iZ Mdr), .int (iZ Mrs), .ref Mz, .ref Mr, .ref Mq, .int (iZ Mit), .int (iZ Mmk)]) hm Ma Af x1 x2 x3 10 rfl hM ⟨by omega, by omega⟩ ⟨by omega, by omega⟩ ⟨by omega, by omega⟩ (by omega)) ci_X12_comes qm_X12_274 ⟨Nat.le_of_ble_eq_true rfl, Nat.le_of_ble_eq_true rfl⟩ ⟨Nat.le_of_ble_eq_true rfl, Nat.le_of_ble_eq_true rfl⟩ 0 rfl rfl rfl hl.1 rfl (Nat.le_of_ble_eq_true rfl) dX12_ship_17 (fun z_3 hz_3 => ?_)
    obtain ⟨ez_3, az_3⟩ := hz_3
    refine CWV (As := [.int (iZ z_3)]) (rest := []) (wc := _) (wr := [(Ma, .inl (k 1, 5340, .inl Af))]) hx hb hml hown hts hKK hP hD hS hA (m_gives l D k hm Ma Mn Ms My Mt Mp Mx Mo Mk Ml Mb Mh Mc Mz Mr Mq Mst Mtd Msz Mtk Mfr Men Mva Mfk Mfp Mfs Mse Mlt Mdp Mct Mdr Mrs Mit Mmk Mtp Mbt z_3) ci_X12_gives qm_X12_85 ⟨Nat.le_of_ble_eq_true rfl, Nat.le_of_ble_eq_true rfl⟩ ⟨Nat.le_of_ble_eq_true rfl, Nat.le_of_ble_eq_true rfl⟩ [0] [1] rfl rfl rfl rfl rfl (dj rfl) 0 rfl rfl rfl hl.1 rfl (Nat.le_of_ble_eq_true rfl) dX12_ship_20 (fun u_4 H locs hφ hP hD hS => ?_)
    refine W.eq (g2 := F0 m 23 ls [.int (iZ z_3)]) rfl ?_
    refine lv_goto (tgt := 31) hx hb dX12_ship_23 rfl ?_
    exact EWi hx hb hr hlocks hS ((z_3, 0), 0, (), ()) rfl (show (((0 ≤ x1 ∧ x1 < (gz Af 0)) ∧ (0 ≤ x3 ∧ x3 < (gz Af 0)) ∧ (0 ≤ x2 ∧ x2 ≤ 400)) ∧ (z_3 : Int) = cmF (sh Af 10) x1 x2 x3 10) ∨ (¬ ((0 ≤ x1 ∧ x1 < (gz Af 0)) ∧ (0 ≤ x3 ∧ x3 < (gz Af 0)) ∧ (0 ≤ x2 ∧ x2 ≤ 400)) ∧ (z_3 : Int) = -1) from (by omega)) (hP.sub [1, 0] rfl) (hD.sub [1, 0] rfl rfl) dX12_ship_31
  ·
    subst qz_1
    refine lv_if_eq (tgt := 26) hx hb dX12_ship_7 rfl (fun _ => ?_) (fun c => absurd (by decide) c)
    refine lv_aload_n hx hb dX12_ship_26 rfl (lv_at hl 0 rfl) ?_
    refine lv_iconst (v := iZ 1) hx hb dX12_ship_27 rfl ?_
    refine CWV (As := [.int (iZ 1)]) (rest := []) (wc := _) (wr := [(Ma, .inl (k 1, 5340, .inl Af))]) hx hb hml hown hts hKK hP hD hS hA (m_refuse l D k hm Ma Mn Ms My Mt Mp Mx Mo Mk Ml Mb Mh Mc Mz Mr Mq Mst Mtd Msz Mtk Mfr Men Mva Mfk Mfp Mfs Mse Mlt Mdp Mct Mdr Mrs Mit Mmk Mtp Mbt 1) ci_X12_refuse qm_X12_81 ⟨Nat.le_of_ble_eq_true rfl, Nat.le_of_ble_eq_true rfl⟩ ⟨Nat.le_of_ble_eq_true rfl, Nat.le_of_ble_eq_true rfl⟩ [0] [1] rfl rfl rfl rfl rfl (dj rfl) 0 rfl rfl rfl hl.1 rfl (Nat.le_of_ble_eq_true rfl) dX12_ship_28 (fun u_6 H locs hφ hP hD hS => ?_)
    refine W.eq (g2 := F0 m 31 ls [.int (iZ (-1))]) rfl ?_
    exact EWi hx hb hr hlocks hS (((-1), 1), 0, (), ()) rfl (show (((0 ≤ x1 ∧ x1 < (gz Af 0)) ∧ (0 ≤ x3 ∧ x3 < (gz Af 0)) ∧ (0 ≤ x2 ∧ x2 ≤ 400)) ∧ ((-1) : Int) = cmF (sh Af 10) x1 x2 x3 10) ∨ (¬ ((0 ≤ x1 ∧ x1 < (gz Af 0)) ∧ (0 ≤ x3 ∧ x3 < (gz Af 0)) ∧ (0 ≤ x2 ∧ x2 ≤ 400)) ∧ ((-1) : Int) = -1) from (by omega)) (hP.sub [1, 0] rfl) (hD.sub [1, 0] rfl rfl) dX12_ship_31
set_option maxHeartbeats 4000000 in
set_option maxRecDepth 100000 in
theorem q_sees (l : Launch) (D : va_G) (k : Nat → ClassId) (hm : Nat) (Ma : Nat) (Mn : Nat) (Ms : Nat) (My : Nat) (Mt : Nat) (Mp : Nat) (Mx : Nat) (Mo : Nat) (Mk : Nat) (Ml : Nat) (Mb : Nat) (Mh : Nat) (Mc : Nat) (Mz : Nat) (Mr : Nat) (Mq : Nat) (Mst : Int) (Mtd : Int) (Msz : Int) (Mtk : Int) (Mfr : Int) (Men : Int) (Mva : Int) (Mfk : Int) (Mfp : Int) (Mfs : Int) (Mse : Int) (Mlt : Int) (Mdp : Int) (Mct : Int) (Mdr : Int) (Mrs : Int) (Mit : Int) (Mmk : Int) (Mtp : Int64) (Mbt : Int64) (Af : Nat → Int32) (x1 : Int) (x2 : Int) (x3 : Int) (hM : M0 Af) (h9x1 : -2147483648 ≤ x1 ∧ x1 < 2147483648) (h9x2 : -2147483648 ≤ x2 ∧ x2 < 2147483648) (h9x3 : -2147483648 ≤ x3 ∧ x3 < 2147483648) : WD (σ := ((Int × Int) × (Int64) × (Unit) × (Unit))) l yX12_sees cX12_sees 4 (some .int) 6 0 0 D k [.ref hm, .int (iZ x1), .int (iZ x2), .int (iZ x3)] [(hm, .inr (12, [.ref Ma, .ref Mn, .int (iZ Mst), .long Mtp, .long Mbt, .ref Ms, .ref My, .ref Mt, .ref Mp, .ref Mx, .int (iZ Mtd), .int (iZ Msz), .int (iZ Mtk), .int (iZ Mfr), .int (iZ Men), .int (iZ Mva), .int (iZ Mfk), .int (iZ Mfp), .int (iZ Mfs), .int (iZ Mse), .int (iZ Mlt), .ref Mo, .int (iZ Mdp), .int (iZ Mct), .ref Mk, .ref Ml, .ref Mb, .ref Mh, .ref Mc, .int (iZ Mdr), .int (iZ Mrs), .ref Mz, .ref Mr, .ref Mq, .int (iZ Mit), .int (iZ Mmk)])), (Ma, .inl (k 1, 5340, .inl Af))] (fun u => some (.int (iZ u.1.1))) (fun u => (((0 ≤ x1 ∧ x1 < (gz Af 0)) ∧ (0 ≤ x2 ∧ x2 < (gz Af 0)) ∧ (0 ≤ x3 ∧ x3 ≤ 400)) ∧ (u.1.1 : Int) = snF (sh Af 10) (sh Af 46) (gz Af 1) x1 x2 x3) ∨ (¬ ((0 ≤ x1 ∧ x1 < (gz Af 0)) ∧ (0 ≤ x2 ∧ x2 < (gz Af 0)) ∧ (0 ≤ x3 ∧ x3 ≤ 400)) ∧ (u.1.1 : Int) = -1)) (fun u => [(hm, .inr (12, [.ref Ma, .ref Mn, .int (iZ u.1.2), .long Mtp, .long Mbt, .ref Ms, .ref My, .ref Mt, .ref Mp, .ref Mx, .int (iZ Mtd), .int (iZ Msz), .int (iZ Mtk), .int (iZ Mfr), .int (iZ Men), .int (iZ Mva), .int (iZ Mfk), .int (iZ Mfp), .int (iZ Mfs), .int (iZ Mse), .int (iZ Mlt), .ref Mo, .int (iZ Mdp), .int (iZ Mct), .ref Mk, .ref Ml, .ref Mb, .ref Mh, .ref Mc, .int (iZ Mdr), .int (iZ Mrs), .ref Mz, .ref Mr, .ref Mq, .int (iZ Mit), .int (iZ Mmk)])), (Ma, .inl (k 1, 5340, .inl Af))]) := by
  refine MW (by decide) (Nat.le_of_ble_eq_true rfl) (fun p e s m below meth c ls A hx hb hml hr hlocks hin hts hown hKK hP hD hS hA hl => ?_)
  have hK := hKK.1
  have hl : lv_has ls 4 [(0, .ref hm), (1, .int (iZ x1)), (2, .int (iZ x2)), (3, .int (iZ x3))] := hl
  obtain ⟨m0, m1, m3, m4, m5, mF, mO, mS⟩ := id hM
  refine lv_aload_n hx hb dX12_sees_0 rfl (lv_at hl 0 rfl) ?_
  refine lv_iload_n hx hb dX12_sees_1 rfl (lv_at hl 1 rfl) ?_
  refine lv_iload_n hx hb dX12_sees_2 rfl (lv_at hl 3 rfl) ?_
  refine lv_iload_n hx hb dX12_sees_3 rfl (lv_at hl 2 rfl) ?_
  refine CPV (As := [.int (iZ x1), .int (iZ x3), .int (iZ x2)]) (rest := []) hx hb hml hown hts hKK hP (m_isSent l D k ([.ref Ma, .ref Mn, .int (iZ Mst), .long Mtp, .long Mbt, .ref Ms, .ref My, .ref Mt, .ref Mp, .ref Mx, .int (iZ Mtd), .int (iZ Msz), .int (iZ Mtk), .int (iZ Mfr), .int (iZ Men), .int (iZ Mva), .int (iZ Mfk), .int (iZ Mfp), .int (iZ Mfs), .int (iZ Mse), .int (iZ Mlt), .ref Mo, .int (iZ Mdp), .int (iZ Mct), .ref Mk, .ref Ml, .ref Mb, .ref Mh, .ref Mc, .int (iZ Mdr), .int (iZ Mrs), .ref Mz, .ref Mr, .ref Mq, .int (iZ Mit), .int (iZ Mmk)]) hm Ma Af x1 x3 x2 rfl hM ⟨by omega, by omega⟩ ⟨by omega, by omega⟩ ⟨by omega, by omega⟩) ci_X12_isSent qm_X12_277 ⟨Nat.le_of_ble_eq_true rfl, Nat.le_of_ble_eq_true rfl⟩ ⟨Nat.le_of_ble_eq_true rfl, Nat.le_of_ble_eq_true rfl⟩ 0 rfl rfl rfl hl.1 rfl (Nat.le_of_ble_eq_true rfl) dX12_sees_4 (fun z_1 hz_1 => ?_)
  rcases hz_1 with ⟨qz_1, hz_1⟩ | ⟨qz_1, hz_1⟩
  ·
    subst qz_1
    refine lv_if_eq (tgt := 24) hx hb dX12_sees_7 rfl (fun c => absurd c (by decide)) (fun _ => ?_)
    refine lv_aload_n hx hb dX12_sees_10 rfl (lv_at hl 0 rfl) ?_
    refine lv_aload_n hx hb dX12_sees_11 rfl (lv_at hl 0 rfl) ?_
    refine lv_iload_n hx hb dX12_sees_12 rfl (lv_at hl 1 rfl) ?_
    refine lv_iload_n hx hb dX12_sees_13 rfl (lv_at hl 2 rfl) ?_
    refine lv_iload_n hx hb dX12_sees_14 rfl (lv_at hl 3 rfl) ?_
    refine CPV (As := [.int (iZ x1), .int (iZ x2), .int (iZ x3)]) (rest := [.ref hm]) hx hb hml hown hts hKK hP (m_seen l D k ([.ref Ma, .ref Mn, .int (iZ Mst), .long Mtp, .long Mbt, .ref Ms, .ref My, .ref Mt, .ref Mp, .ref Mx, .int (iZ Mtd), .int (iZ Msz), .int (iZ Mtk), .int (iZ Mfr), .int (iZ Men), .int (iZ Mva), .int (iZ Mfk), .int (iZ Mfp), .int (iZ Mfs), .int (iZ Mse), .int (iZ Mlt), .ref Mo, .int (iZ Mdp), .int (iZ Mct), .ref Mk, .ref Ml, .ref Mb, .ref Mh, .ref Mc, .int (iZ Mdr), .int (iZ Mrs), .ref Mz, .ref Mr, .ref Mq, .int (iZ Mit), .int (iZ Mmk)]) hm Ma Af x1 x2 x3 rfl hM ⟨by omega, by omega⟩ ⟨by omega, by omega⟩ ⟨by omega, by omega⟩) ci_X12_seenBy qm_X12_287 ⟨Nat.le_of_ble_eq_true rfl, Nat.le_of_ble_eq_true rfl⟩ ⟨Nat.le_of_ble_eq_true rfl, Nat.le_of_ble_eq_true rfl⟩ 0 rfl rfl rfl hl.1 rfl (Nat.le_of_ble_eq_true rfl) dX12_sees_15 (fun z_3 hz_3 => ?_)
    obtain ⟨ez_3, az_3⟩ := hz_3
    refine CWV (As := [.int (iZ z_3)]) (rest := []) (wc := _) (wr := [(Ma, .inl (k 1, 5340, .inl Af))]) hx hb hml hown hts hKK hP hD hS hA (m_orNone l D k hm Ma Mn Ms My Mt Mp Mx Mo Mk Ml Mb Mh Mc Mz Mr Mq Mst Mtd Msz Mtk Mfr Men Mva Mfk Mfp Mfs Mse Mlt Mdp Mct Mdr Mrs Mit Mmk Mtp Mbt z_3 ⟨by omega, by omega⟩) ci_X12_orNone qm_X12_290 ⟨Nat.le_of_ble_eq_true rfl, Nat.le_of_ble_eq_true rfl⟩ ⟨Nat.le_of_ble_eq_true rfl, Nat.le_of_ble_eq_true rfl⟩ [0] [1] rfl rfl rfl rfl rfl (dj rfl) 0 rfl rfl rfl hl.1 rfl (Nat.le_of_ble_eq_true rfl) dX12_sees_18 (fun u_4 H locs hφ hP hD hS => ?_)
    have p_5 : ((z_3 : Int) = -1 ∧ u_4.1.2 = 6) ∨ (¬ (z_3 : Int) = -1 ∧ u_4.1.2 = 0) := hφ
    refine W.eq (g2 := F0 m 21 ls [.int (iZ z_3)]) rfl ?_
    refine lv_goto (tgt := 29) hx hb dX12_sees_21 rfl ?_
    exact EWi hx hb hr hlocks hS ((z_3, u_4.1.2), 0, (), ()) rfl (show (((0 ≤ x1 ∧ x1 < (gz Af 0)) ∧ (0 ≤ x2 ∧ x2 < (gz Af 0)) ∧ (0 ≤ x3 ∧ x3 ≤ 400)) ∧ (z_3 : Int) = snF (sh Af 10) (sh Af 46) (gz Af 1) x1 x2 x3) ∨ (¬ ((0 ≤ x1 ∧ x1 < (gz Af 0)) ∧ (0 ≤ x2 ∧ x2 < (gz Af 0)) ∧ (0 ≤ x3 ∧ x3 ≤ 400)) ∧ (z_3 : Int) = -1) from (by omega)) (hP.sub [1, 0] rfl) (hD.sub [1, 0] rfl rfl) dX12_sees_29
  ·
    subst qz_1
    refine lv_if_eq (tgt := 24) hx hb dX12_sees_7 rfl (fun _ => ?_) (fun c => absurd (by decide) c)
    refine lv_aload_n hx hb dX12_sees_24 rfl (lv_at hl 0 rfl) ?_
    refine lv_iconst (v := iZ 1) hx hb dX12_sees_25 rfl ?_
    refine CWV (As := [.int (iZ 1)]) (rest := []) (wc := _) (wr := [(Ma, .inl (k 1, 5340, .inl Af))]) hx hb hml hown hts hKK hP hD hS hA (m_refuse l D k hm Ma Mn Ms My Mt Mp Mx Mo Mk Ml Mb Mh Mc Mz Mr Mq Mst Mtd Msz Mtk Mfr Men Mva Mfk Mfp Mfs Mse Mlt Mdp Mct Mdr Mrs Mit Mmk Mtp Mbt 1) ci_X12_refuse qm_X12_81 ⟨Nat.le_of_ble_eq_true rfl, Nat.le_of_ble_eq_true rfl⟩ ⟨Nat.le_of_ble_eq_true rfl, Nat.le_of_ble_eq_true rfl⟩ [0] [1] rfl rfl rfl rfl rfl (dj rfl) 0 rfl rfl rfl hl.1 rfl (Nat.le_of_ble_eq_true rfl) dX12_sees_26 (fun u_7 H locs hφ hP hD hS => ?_)
    refine W.eq (g2 := F0 m 29 ls [.int (iZ (-1))]) rfl ?_
    exact EWi hx hb hr hlocks hS (((-1), 1), 0, (), ()) rfl (show (((0 ≤ x1 ∧ x1 < (gz Af 0)) ∧ (0 ≤ x2 ∧ x2 < (gz Af 0)) ∧ (0 ≤ x3 ∧ x3 ≤ 400)) ∧ ((-1) : Int) = snF (sh Af 10) (sh Af 46) (gz Af 1) x1 x2 x3) ∨ (¬ ((0 ≤ x1 ∧ x1 < (gz Af 0)) ∧ (0 ≤ x2 ∧ x2 < (gz Af 0)) ∧ (0 ≤ x3 ∧ x3 ≤ 400)) ∧ ((-1) : Int) = -1) from (by omega)) (hP.sub [1, 0] rfl) (hD.sub [1, 0] rfl rfl) dX12_sees_29
set_option maxHeartbeats 4000000 in
set_option maxRecDepth 100000 in
theorem q_nearest (l : Launch) (D : va_G) (k : Nat → ClassId) (hm : Nat) (Ma : Nat) (Mn : Nat) (Ms : Nat) (My : Nat) (Mt : Nat) (Mp : Nat) (Mx : Nat) (Mo : Nat) (Mk : Nat) (Ml : Nat) (Mb : Nat) (Mh : Nat) (Mc : Nat) (Mz : Nat) (Mr : Nat) (Mq : Nat) (Mst : Int) (Mtd : Int) (Msz : Int) (Mtk : Int) (Mfr : Int) (Men : Int) (Mva : Int) (Mfk : Int) (Mfp : Int) (Mfs : Int) (Mse : Int) (Mlt : Int) (Mdp : Int) (Mct : Int) (Mdr : Int) (Mrs : Int) (Mit : Int) (Mmk : Int) (Mtp : Int64) (Mbt : Int64) (Af : Nat → Int32) (x1 : Int) (x2 : Int) (hM : M0 Af) (h9x1 : -2147483648 ≤ x1 ∧ x1 < 2147483648) (h9x2 : -2147483648 ≤ x2 ∧ x2 < 2147483648) : WD (σ := ((Int × Int) × (Int64) × (Unit) × (Unit))) l yX12_nearest cX12_nearest 5 (some .int) 3 0 0 D k [.ref hm, .int (iZ x1), .int (iZ x2)] [(hm, .inr (12, [.ref Ma, .ref Mn, .int (iZ Mst), .long Mtp, .long Mbt, .ref Ms, .ref My, .ref Mt, .ref Mp, .ref Mx, .int (iZ Mtd), .int (iZ Msz), .int (iZ Mtk), .int (iZ Mfr), .int (iZ Men), .int (iZ Mva), .int (iZ Mfk), .int (iZ Mfp), .int (iZ Mfs), .int (iZ Mse), .int (iZ Mlt), .ref Mo, .int (iZ Mdp), .int (iZ Mct), .ref Mk, .ref Ml, .ref Mb, .ref Mh, .ref Mc, .int (iZ Mdr), .int (iZ Mrs), .ref Mz, .ref Mr, .ref Mq, .int (iZ Mit), .int (iZ Mmk)])), (Ma, .inl (k 1, 5340, .inl Af))] (fun u => some (.int (iZ u.1.1))) (fun u => (((0 ≤ x1 ∧ x1 < (gz Af 0)) ∧ (0 ≤ x2 ∧ x2 ≤ 400)) ∧ isFB (fun j => lt (sh Af 10) x1 x2 j x2) x1 (gz Af 0) u.1.1) ∨ (¬ ((0 ≤ x1 ∧ x1 < (gz Af 0)) ∧ (0 ≤ x2 ∧ x2 ≤ 400)) ∧ (u.1.1 : Int) = -1)) (fun u => [(hm, .inr (12, [.ref Ma, .ref Mn, .int (iZ u.1.2), .long Mtp, .long Mbt, .ref Ms, .ref My, .ref Mt, .ref Mp, .ref Mx, .int (iZ Mtd), .int (iZ Msz), .int (iZ Mtk), .int (iZ Mfr), .int (iZ Men), .int (iZ Mva), .int (iZ Mfk), .int (iZ Mfp), .int (iZ Mfs), .int (iZ Mse), .int (iZ Mlt), .ref Mo, .int (iZ Mdp), .int (iZ Mct), .ref Mk, .ref Ml, .ref Mb, .ref Mh, .ref Mc, .int (iZ Mdr), .int (iZ Mrs), .ref Mz, .ref Mr, .ref Mq, .int (iZ Mit), .int (iZ Mmk)])), (Ma, .inl (k 1, 5340, .inl Af))]) := by
  refine MW (by decide) (Nat.le_of_ble_eq_true rfl) (fun p e s m below meth c ls A hx hb hml hr hlocks hin hts hown hKK hP hD hS hA hl => ?_)
  have hK := hKK.1
  have hl : lv_has ls 5 [(0, .ref hm), (1, .int (iZ x1)), (2, .int (iZ x2))] := hl
  obtain ⟨m0, m1, m3, m4, m5, mF, mO, mS⟩ := id hM
  refine lv_aload_n hx hb dX12_nearest_0 rfl (lv_at hl 0 rfl) ?_
  refine lv_iload_n hx hb dX12_nearest_1 rfl (lv_at hl 1 rfl) ?_
  refine CPV (As := [.int (iZ x1)]) (rest := []) hx hb hml hown hts hKK hP (m_isRock l D k ([.ref Ma, .ref Mn, .int (iZ Mst), .long Mtp, .long Mbt, .ref Ms, .ref My, .ref Mt, .ref Mp, .ref Mx, .int (iZ Mtd), .int (iZ Msz), .int (iZ Mtk), .int (iZ Mfr), .int (iZ Men), .int (iZ Mva), .int (iZ Mfk), .int (iZ Mfp), .int (iZ Mfs), .int (iZ Mse), .int (iZ Mlt), .ref Mo, .int (iZ Mdp), .int (iZ Mct), .ref Mk, .ref Ml, .ref Mb, .ref Mh, .ref Mc, .int (iZ Mdr), .int (iZ Mrs), .ref Mz, .ref Mr, .ref Mq, .int (iZ Mit), .int (iZ Mmk)]) hm Ma Af x1 rfl hM ⟨by omega, by omega⟩) ci_X12_isRock qm_X12_243 ⟨Nat.le_of_ble_eq_true rfl, Nat.le_of_ble_eq_true rfl⟩ ⟨Nat.le_of_ble_eq_true rfl, Nat.le_of_ble_eq_true rfl⟩ 0 rfl rfl rfl hl.1 rfl (Nat.le_of_ble_eq_true rfl) dX12_nearest_2 (fun z_1 hz_1 => ?_)
  rcases hz_1 with ⟨qz_1, hz_1⟩ | ⟨qz_1, hz_1⟩
  ·
    subst qz_1
    refine lv_if_eq (tgt := 15) hx hb dX12_nearest_5 rfl (fun c => absurd c (by decide)) (fun _ => ?_)
    refine lv_iload_n hx hb dX12_nearest_8 rfl (lv_at hl 2 rfl) ?_
    refine CPS (As := [.int (iZ x2)]) (rest := []) hx hb hml hown hts hKK (hP.sub (ws' := []) [] rfl) (m_isWeek l D k x2 ⟨by omega, by omega⟩) ci_X12_isWeek qm_X12_268 ⟨Nat.le_of_ble_eq_true rfl, Nat.le_of_ble_eq_true rfl⟩ ⟨Nat.le_of_ble_eq_true rfl, Nat.le_of_ble_eq_true rfl⟩ rfl hl.1 rfl (Nat.le_of_ble_eq_true rfl) dX12_nearest_9 (fun z_3 hz_3 => ?_)
    rcases hz_3 with ⟨qz_3, hz_3⟩ | ⟨qz_3, hz_3⟩
    ·
      subst qz_3
      refine lv_if_ne (tgt := 21) hx hb dX12_nearest_12 rfl (fun _ => ?_) (fun c => absurd c (by decide))
      refine lv_iconst (v := iZ (-1)) hx hb dX12_nearest_21 rfl ?_
      refine lv_istore_n (lv' := [(3, .int (iZ (-1))), (0, .ref hm), (1, .int (iZ x1)), (2, .int (iZ x2))]) hx hb dX12_nearest_22 rfl hl (bl rfl) rfl (fun ls hl => ?_)
      refine lv_iconst (v := iZ 0) hx hb dX12_nearest_23 rfl ?_
      refine lv_istore (lv' := [(4, .int (iZ 0)), (3, .int (iZ (-1))), (0, .ref hm), (1, .int (iZ x1)), (2, .int (iZ x2))]) hx hb dX12_nearest_24 hl (bl rfl) rfl (fun ls hl => ?_)
      have HL26 : ∀ (fu : Nat) (v3_26 : Int) (v4_26 : Int) (H : Heap) (locs : List Loc) (ls : Array Slot), ((gz Af 0) + 2 - v4_26) < (fu : Int) → ((0 ≤ v4_26 ∧ v4_26 ≤ (gz Af 0) + 1)) → (-1 ≤ v3_26 ∧ v3_26 < gz Af 0) → (isFB (fun j => lt (sh Af 10) x1 x2 j x2) x1 v4_26 v3_26) → (v4_26 ≤ gz Af 0) → va_P D vwCl [(hm, .inr (12, [.ref Ma, .ref Mn, .int (iZ Mst), .long Mtp, .long Mbt, .ref Ms, .ref My, .ref Mt, .ref Mp, .ref Mx, .int (iZ Mtd), .int (iZ Msz), .int (iZ Mtk), .int (iZ Mfr), .int (iZ Men), .int (iZ Mva), .int (iZ Mfk), .int (iZ Mfp), .int (iZ Mfs), .int (iZ Mse), .int (iZ Mlt), .ref Mo, .int (iZ Mdp), .int (iZ Mct), .ref Mk, .ref Ml, .ref Mb, .ref Mh, .ref Mc, .int (iZ Mdr), .int (iZ Mrs), .ref Mz, .ref Mr, .ref Mq, .int (iZ Mit), .int (iZ Mmk)])), (Ma, .inl (k 1, 5340, .inl Af))] H → va_D A [(hm, .inr (12, [.ref Ma, .ref Mn, .int (iZ Mst), .long Mtp, .long Mbt, .ref Ms, .ref My, .ref Mt, .ref Mp, .ref Mx, .int (iZ Mtd), .int (iZ Msz), .int (iZ Mtk), .int (iZ Mfr), .int (iZ Men), .int (iZ Mva), .int (iZ Mfk), .int (iZ Mfp), .int (iZ Mfs), .int (iZ Mse), .int (iZ Mlt), .ref Mo, .int (iZ Mdp), .int (iZ Mct), .ref Mk, .ref Ml, .ref Mb, .ref Mh, .ref Mc, .int (iZ Mdr), .int (iZ Mrs), .ref Mz, .ref Mr, .ref Mq, .int (iZ Mit), .int (iZ Mmk)])), (Ma, .inl (k 1, 5340, .inl Af))] → va_S A s.heap H locs → lv_has ls 5 [(4, .int (iZ v4_26)), (3, .int (iZ v3_26)), (0, .ref hm), (1, .int (iZ x1)), (2, .int (iZ x2))] → W p l e (rj 3 0 0) s m [.ref hm, .int (iZ x1), .int (iZ x2)].toArray below meth c H locs 0 0 (MQ below (QW (σ := ((Int × Int) × (Int64) × (Unit) × (Unit))) (fun u => some (.int (iZ u.1.1))) (fun u => (((0 ≤ x1 ∧ x1 < (gz Af 0)) ∧ (0 ≤ x2 ∧ x2 ≤ 400)) ∧ isFB (fun j => lt (sh Af 10) x1 x2 j x2) x1 (gz Af 0) u.1.1) ∨ (¬ ((0 ≤ x1 ∧ x1 < (gz Af 0)) ∧ (0 ≤ x2 ∧ x2 ≤ 400)) ∧ (u.1.1 : Int) = -1)) (fun u => [(hm, .inr (12, [.ref Ma, .ref Mn, .int (iZ u.1.2), .long Mtp, .long Mbt, .ref Ms, .ref My, .ref Mt, .ref Mp, .ref Mx, .int (iZ Mtd), .int (iZ Msz), .int (iZ Mtk), .int (iZ Mfr), .int (iZ Men), .int (iZ Mva), .int (iZ Mfk), .int (iZ Mfp), .int (iZ Mfs), .int (iZ Mse), .int (iZ Mlt), .ref Mo, .int (iZ Mdp), .int (iZ Mct), .ref Mk, .ref Ml, .ref Mb, .ref Mh, .ref Mc, .int (iZ Mdr), .int (iZ Mrs), .ref Mz, .ref Mr, .ref Mq, .int (iZ Mit), .int (iZ Mmk)])), (Ma, .inl (k 1, 5340, .inl Af))]) D A) [.ref hm, .int (iZ x1), .int (iZ x2)].toArray s 0 0 A) (F0 m 26 ls []) := by
        intro fu
        induction fu with
        | zero => intro v3_26 v4_26 H locs ls hμ26 hi26 hf0_26 hfb hbn hP hD hS hl; exact absurd hμ26 (by omega)
        | succ fu ih26 =>
          intro v3_26 v4_26 H locs ls hμ26 hi26 hf0_26 hfb hbn hP hD hS hl
          refine lv_iload hx hb dX12_nearest_26 (lv_at hl 0 rfl) ?_
          refine lv_aload_n hx hb dX12_nearest_28 rfl (lv_at hl 2 rfl) ?_
          refine va_get (D := D) (ci := 12) (v := .ref Ma) (C := RX12) (T := TX12) (N := 36) hx hb hts iX12 hown hK hP 0 rfl rfl 0 (bl rfl) (hts _ qf_X12_7) (fun _ h => h) rfl dX12_nearest_29 ?_
          refine lv_iconst (v := iZ 0) hx hb dX12_nearest_32 rfl ?_
          refine va_iald hx hb hK hP 1 1 rfl rfl (zin (e := 0) (n := 5340) ⟨by omega, by omega⟩ (bl rfl)) dX12_nearest_33 ?_
          refine lv_topi (fun x_5 ex_5 => ?_)
          obtain rfl : x_5 = iZ (gz Af 0) := ex_5.trans (gz_eq ⟨by omega, by omega⟩)
          have h_6 := gz_rg Af 0
          refine lv_icmp_ge (tgt := 77) hx hb dX12_nearest_34 rfl (fun c_7 => ?_) (fun c_7 => ?_)
          ·
            have c_7 := (zle (x := iZ (gz Af 0)) (y := iZ v4_26) rfl rfl (gz_rg Af 0) ⟨by omega, by omega⟩).mp c_7
            refine lv_aload_n hx hb dX12_nearest_77 rfl (lv_at hl 2 rfl) ?_
            refine lv_iload_n hx hb dX12_nearest_78 rfl (lv_at hl 1 rfl) ?_
            refine CWV (As := [.int (iZ v3_26)]) (rest := []) (wc := _) (wr := [(Ma, .inl (k 1, 5340, .inl Af))]) hx hb hml hown hts hKK hP hD hS hA (m_orNone l D k hm Ma Mn Ms My Mt Mp Mx Mo Mk Ml Mb Mh Mc Mz Mr Mq Mst Mtd Msz Mtk Mfr Men Mva Mfk Mfp Mfs Mse Mlt Mdp Mct Mdr Mrs Mit Mmk Mtp Mbt v3_26 ⟨by omega, by omega⟩) ci_X12_orNone qm_X12_290 ⟨Nat.le_of_ble_eq_true rfl, Nat.le_of_ble_eq_true rfl⟩ ⟨Nat.le_of_ble_eq_true rfl, Nat.le_of_ble_eq_true rfl⟩ [0] [1] rfl rfl rfl rfl rfl (dj rfl) 0 rfl rfl rfl hl.1 rfl (Nat.le_of_ble_eq_true rfl) dX12_nearest_79 (fun u_8 H locs hφ hP hD hS => ?_)
            have p_9 : ((v3_26 : Int) = -1 ∧ u_8.1.2 = 6) ∨ (¬ (v3_26 : Int) = -1 ∧ u_8.1.2 = 0) := hφ
            refine W.eq (g2 := F0 m 82 ls [.int (iZ v3_26)]) rfl ?_
            exact EWi hx hb hr hlocks hS ((v3_26, u_8.1.2), 0, (), ()) rfl (show (((0 ≤ x1 ∧ x1 < (gz Af 0)) ∧ (0 ≤ x2 ∧ x2 ≤ 400)) ∧ isFB (fun j => lt (sh Af 10) x1 x2 j x2) x1 (gz Af 0) v3_26) ∨ (¬ ((0 ≤ x1 ∧ x1 < (gz Af 0)) ∧ (0 ≤ x2 ∧ x2 ≤ 400)) ∧ (v3_26 : Int) = -1) from (Or.inl ⟨by omega, isFB_n hfb (by omega)⟩)) (hP.sub [1, 0] rfl) (hD.sub [1, 0] rfl rfl) dX12_nearest_82
          ·
            have c_7 := mt (zle (x := iZ (gz Af 0)) (y := iZ v4_26) rfl rfl (gz_rg Af 0) ⟨by omega, by omega⟩).mpr c_7
            refine lv_iload hx hb dX12_nearest_37 (lv_at hl 0 rfl) ?_
            refine lv_iload_n hx hb dX12_nearest_39 rfl (lv_at hl 3 rfl) ?_
            refine lv_icmp_eq (tgt := 71) hx hb dX12_nearest_40 rfl (fun c_10 => ?_) (fun c_10 => ?_)
            ·
              have c_10 := (zeq (x := iZ v4_26) (y := iZ x1) rfl rfl ⟨by omega, by omega⟩ ⟨by omega, by omega⟩).mp c_10
              refine lv_iinc (v := iZ (v4_26 + 1)) (lv' := [(4, .int (iZ (v4_26 + 1))), (3, .int (iZ v3_26)), (0, .ref hm), (1, .int (iZ x1)), (2, .int (iZ x2))]) hx hb dX12_nearest_71 hl (k := 0) rfl (iZ_add v4_26 1) (by decide) rfl (fun ls hl => ?_)
              refine lv_goto (tgt := 26) hx hb dX12_nearest_74 rfl ?_
              exact ih26  v3_26 (v4_26 + 1) _ _ _ (by omega) (show (0 ≤ (v4_26 + 1) ∧ (v4_26 + 1) ≤ (gz Af 0) + 1) from ⟨by omega, by omega⟩) (show -1 ≤ v3_26 ∧ v3_26 < gz Af 0 from (by omega)) (show isFB (fun j => lt (sh Af 10) x1 x2 j x2) x1 (v4_26 + 1) v3_26 from (by first | exact isFB_1 hfb (by omega) | exact isFB_3 hfb (by omega) (by omega))) (show (v4_26 + 1) ≤ gz Af 0 from (by omega)) (hP.sub [0, 1] rfl) (hD.sub [0, 1] rfl rfl) hS (lv_sub hl [0, 1, 2, 3, 4] rfl)
            ·
              have c_10 := mt (zeq (x := iZ v4_26) (y := iZ x1) rfl rfl ⟨by omega, by omega⟩ ⟨by omega, by omega⟩).mpr c_10
              refine lv_iload_n hx hb dX12_nearest_43 rfl (lv_at hl 1 rfl) ?_
              refine lv_iconst (v := iZ (-1)) hx hb dX12_nearest_44 rfl ?_
              refine lv_icmp_eq (tgt := 68) hx hb dX12_nearest_45 rfl (fun c_11 => ?_) (fun c_11 => ?_)
              ·
                have c_11 := (zeq (x := iZ v3_26) (y := iZ (-1)) rfl rfl ⟨by omega, by omega⟩ wn_m1).mp c_11
                refine lv_iload hx hb dX12_nearest_68 (lv_at hl 0 rfl) ?_
                refine lv_istore_n (lv' := [(3, .int (iZ v4_26)), (4, .int (iZ v4_26)), (0, .ref hm), (1, .int (iZ x1)), (2, .int (iZ x2))]) hx hb dX12_nearest_70 rfl hl (bl rfl) rfl (fun ls hl => ?_)
                refine lv_iinc (v := iZ (v4_26 + 1)) (lv' := [(4, .int (iZ (v4_26 + 1))), (3, .int (iZ v4_26)), (0, .ref hm), (1, .int (iZ x1)), (2, .int (iZ x2))]) hx hb dX12_nearest_71 hl (k := 1) rfl (iZ_add v4_26 1) (by decide) rfl (fun ls hl => ?_)
                refine lv_goto (tgt := 26) hx hb dX12_nearest_74 rfl ?_
                exact ih26  v4_26 (v4_26 + 1) _ _ _ (by omega) (show (0 ≤ (v4_26 + 1) ∧ (v4_26 + 1) ≤ (gz Af 0) + 1) from ⟨by omega, by omega⟩) (show -1 ≤ v4_26 ∧ v4_26 < gz Af 0 from (by omega)) (show isFB (fun j => lt (sh Af 10) x1 x2 j x2) x1 (v4_26 + 1) v4_26 from (isFB_2 hfb (by omega) (by omega) (by omega))) (show (v4_26 + 1) ≤ gz Af 0 from (by omega)) (hP.sub [0, 1] rfl) (hD.sub [0, 1] rfl rfl) hS (lv_sub hl [0, 1, 2, 3, 4] rfl)
              ·
                have c_11 := mt (zeq (x := iZ v3_26) (y := iZ (-1)) rfl rfl ⟨by omega, by omega⟩ wn_m1).mpr c_11
                refine lv_aload_n hx hb dX12_nearest_48 rfl (lv_at hl 2 rfl) ?_
                refine lv_iload_n hx hb dX12_nearest_49 rfl (lv_at hl 3 rfl) ?_
                refine lv_iload_n hx hb dX12_nearest_50 rfl (lv_at hl 4 rfl) ?_
                refine lv_iload hx hb dX12_nearest_51 (lv_at hl 0 rfl) ?_
                refine lv_iload_n hx hb dX12_nearest_53 rfl (lv_at hl 4 rfl) ?_
                refine CRV (As := [.int (iZ x1), .int (iZ x2), .int (iZ v4_26), .int (iZ x2)]) (rest := []) hx hb hml hown hts hKK hP (m_light l D k ([.ref Ma, .ref Mn, .int (iZ Mst), .long Mtp, .long Mbt, .ref Ms, .ref My, .ref Mt, .ref Mp, .ref Mx, .int (iZ Mtd), .int (iZ Msz), .int (iZ Mtk), .int (iZ Mfr), .int (iZ Men), .int (iZ Mva), .int (iZ Mfk), .int (iZ Mfp), .int (iZ Mfs), .int (iZ Mse), .int (iZ Mlt), .ref Mo, .int (iZ Mdp), .int (iZ Mct), .ref Mk, .ref Ml, .ref Mb, .ref Mh, .ref Mc, .int (iZ Mdr), .int (iZ Mrs), .ref Mz, .ref Mr, .ref Mq, .int (iZ Mit), .int (iZ Mmk)]) hm Ma Af x1 x2 v4_26 x2 rfl hM ⟨by omega, by omega⟩ ⟨by omega, by omega⟩ ⟨by omega, by omega⟩ ⟨by omega, by omega⟩) ci_X12_lightOf qm_X12_261 ⟨Nat.le_of_ble_eq_true rfl, Nat.le_of_ble_eq_true rfl⟩ ⟨Nat.le_of_ble_eq_true rfl, Nat.le_of_ble_eq_true rfl⟩ 0 rfl rfl rfl hl.1 rfl (Nat.le_of_ble_eq_true rfl) dX12_nearest_54 ?_
                have hl_h_12 := lt_rg (f := (sh Af 10)) (a := x1) (w := x2) (b := v4_26) (t := x2) hM.2.2.2.2.2.1 ⟨by omega, by omega⟩ ⟨by omega, by omega⟩
                refine lv_aload_n hx hb dX12_nearest_57 rfl (lv_at hl 2 rfl) ?_
                refine lv_iload_n hx hb dX12_nearest_58 rfl (lv_at hl 3 rfl) ?_
                refine lv_iload_n hx hb dX12_nearest_59 rfl (lv_at hl 4 rfl) ?_
                refine lv_iload_n hx hb dX12_nearest_60 rfl (lv_at hl 1 rfl) ?_
                refine lv_iload_n hx hb dX12_nearest_61 rfl (lv_at hl 4 rfl) ?_
                refine CRV (As := [.int (iZ x1), .int (iZ x2), .int (iZ v3_26), .int (iZ x2)]) (rest := [.int (iZ (lt (sh Af 10) x1 x2 v4_26 x2))]) hx hb hml hown hts hKK hP (m_light l D k ([.ref Ma, .ref Mn, .int (iZ Mst), .long Mtp, .long Mbt, .ref Ms, .ref My, .ref Mt, .ref Mp, .ref Mx, .int (iZ Mtd), .int (iZ Msz), .int (iZ Mtk), .int (iZ Mfr), .int (iZ Men), .int (iZ Mva), .int (iZ Mfk), .int (iZ Mfp), .int (iZ Mfs), .int (iZ Mse), .int (iZ Mlt), .ref Mo, .int (iZ Mdp), .int (iZ Mct), .ref Mk, .ref Ml, .ref Mb, .ref Mh, .ref Mc, .int (iZ Mdr), .int (iZ Mrs), .ref Mz, .ref Mr, .ref Mq, .int (iZ Mit), .int (iZ Mmk)]) hm Ma Af x1 x2 v3_26 x2 rfl hM ⟨by omega, by omega⟩ ⟨by omega, by omega⟩ ⟨by omega, by omega⟩ ⟨by omega, by omega⟩) ci_X12_lightOf qm_X12_261 ⟨Nat.le_of_ble_eq_true rfl, Nat.le_of_ble_eq_true rfl⟩ ⟨Nat.le_of_ble_eq_true rfl, Nat.le_of_ble_eq_true rfl⟩ 0 rfl rfl rfl hl.1 rfl (Nat.le_of_ble_eq_true rfl) dX12_nearest_62 ?_
                have hl_h_13 := lt_rg (f := (sh Af 10)) (a := x1) (w := x2) (b := v3_26) (t := x2) hM.2.2.2.2.2.1 ⟨by omega, by omega⟩ ⟨by omega, by omega⟩
                refine lv_icmp_ge (tgt := 71) hx hb dX12_nearest_65 rfl (fun c_14 => ?_) (fun c_14 => ?_)
                ·
                  have c_14 := (zle (x := iZ (lt (sh Af 10) x1 x2 v3_26 x2)) (y := iZ (lt (sh Af 10) x1 x2 v4_26 x2)) rfl rfl ⟨by omega, by omega⟩ ⟨by omega, by omega⟩).mp c_14
                  refine lv_iinc (v := iZ (v4_26 + 1)) (lv' := [(4, .int (iZ (v4_26 + 1))), (3, .int (iZ v3_26)), (0, .ref hm), (1, .int (iZ x1)), (2, .int (iZ x2))]) hx hb dX12_nearest_71 hl (k := 0) rfl (iZ_add v4_26 1) (by decide) rfl (fun ls hl => ?_)
                  refine lv_goto (tgt := 26) hx hb dX12_nearest_74 rfl ?_
                  exact ih26  v3_26 (v4_26 + 1) _ _ _ (by omega) (show (0 ≤ (v4_26 + 1) ∧ (v4_26 + 1) ≤ (gz Af 0) + 1) from ⟨by omega, by omega⟩) (show -1 ≤ v3_26 ∧ v3_26 < gz Af 0 from (by omega)) (show isFB (fun j => lt (sh Af 10) x1 x2 j x2) x1 (v4_26 + 1) v3_26 from (by first | exact isFB_1 hfb (by omega) | exact isFB_3 hfb (by omega) (by omega))) (show (v4_26 + 1) ≤ gz Af 0 from (by omega)) (hP.sub [0, 1] rfl) (hD.sub [0, 1] rfl rfl) hS (lv_sub hl [0, 1, 2, 3, 4] rfl)
                ·
                  have c_14 := mt (zle (x := iZ (lt (sh Af 10) x1 x2 v3_26 x2)) (y := iZ (lt (sh Af 10) x1 x2 v4_26 x2)) rfl rfl ⟨by omega, by omega⟩ ⟨by omega, by omega⟩).mpr c_14
                  refine lv_iload hx hb dX12_nearest_68 (lv_at hl 0 rfl) ?_
                  refine lv_istore_n (lv' := [(3, .int (iZ v4_26)), (4, .int (iZ v4_26)), (0, .ref hm), (1, .int (iZ x1)), (2, .int (iZ x2))]) hx hb dX12_nearest_70 rfl hl (bl rfl) rfl (fun ls hl => ?_)
                  refine lv_iinc (v := iZ (v4_26 + 1)) (lv' := [(4, .int (iZ (v4_26 + 1))), (3, .int (iZ v4_26)), (0, .ref hm), (1, .int (iZ x1)), (2, .int (iZ x2))]) hx hb dX12_nearest_71 hl (k := 1) rfl (iZ_add v4_26 1) (by decide) rfl (fun ls hl => ?_)
                  refine lv_goto (tgt := 26) hx hb dX12_nearest_74 rfl ?_
                  exact ih26  v4_26 (v4_26 + 1) _ _ _ (by omega) (show (0 ≤ (v4_26 + 1) ∧ (v4_26 + 1) ≤ (gz Af 0) + 1) from ⟨by omega, by omega⟩) (show -1 ≤ v4_26 ∧ v4_26 < gz Af 0 from (by omega)) (show isFB (fun j => lt (sh Af 10) x1 x2 j x2) x1 (v4_26 + 1) v4_26 from (isFB_2 hfb (by omega) (by omega) (by omega))) (show (v4_26 + 1) ≤ gz Af 0 from (by omega)) (hP.sub [0, 1] rfl) (hD.sub [0, 1] rfl rfl) hS (lv_sub hl [0, 1, 2, 3, 4] rfl)
      exact HL26 9 (-1) 0 _ _ _ (by omega) (show (0 ≤ 0 ∧ 0 ≤ (gz Af 0) + 1) from ⟨by omega, by omega⟩) (show -1 ≤ (-1) ∧ (-1) < gz Af 0 from (by omega)) (show isFB (fun j => lt (sh Af 10) x1 x2 j x2) x1 0 (-1) from isFB_0) (show 0 ≤ gz Af 0 from (by omega)) (hP.sub [0, 1] rfl) (hD.sub [0, 1] rfl rfl) hS (lv_sub hl [0, 1, 2, 3, 4] rfl)
    ·
      subst qz_3
      refine lv_if_ne (tgt := 21) hx hb dX12_nearest_12 rfl (fun c => absurd (by decide) c) (fun _ => ?_)
      refine lv_aload_n hx hb dX12_nearest_15 rfl (lv_at hl 0 rfl) ?_
      refine lv_iconst (v := iZ 1) hx hb dX12_nearest_16 rfl ?_
      refine CWV (As := [.int (iZ 1)]) (rest := []) (wc := _) (wr := [(Ma, .inl (k 1, 5340, .inl Af))]) hx hb hml hown hts hKK hP hD hS hA (m_refuse l D k hm Ma Mn Ms My Mt Mp Mx Mo Mk Ml Mb Mh Mc Mz Mr Mq Mst Mtd Msz Mtk Mfr Men Mva Mfk Mfp Mfs Mse Mlt Mdp Mct Mdr Mrs Mit Mmk Mtp Mbt 1) ci_X12_refuse qm_X12_81 ⟨Nat.le_of_ble_eq_true rfl, Nat.le_of_ble_eq_true rfl⟩ ⟨Nat.le_of_ble_eq_true rfl, Nat.le_of_ble_eq_true rfl⟩ [0] [1] rfl rfl rfl rfl rfl (dj rfl) 0 rfl rfl rfl hl.1 rfl (Nat.le_of_ble_eq_true rfl) dX12_nearest_17 (fun u_16 H locs hφ hP hD hS => ?_)
      refine W.eq (g2 := F0 m 20 ls [.int (iZ (-1))]) rfl ?_
      exact EWi hx hb hr hlocks hS (((-1), 1), 0, (), ()) rfl (show (((0 ≤ x1 ∧ x1 < (gz Af 0)) ∧ (0 ≤ x2 ∧ x2 ≤ 400)) ∧ isFB (fun j => lt (sh Af 10) x1 x2 j x2) x1 (gz Af 0) (-1)) ∨ (¬ ((0 ≤ x1 ∧ x1 < (gz Af 0)) ∧ (0 ≤ x2 ∧ x2 ≤ 400)) ∧ ((-1) : Int) = -1) from (Or.inr ⟨by omega, rfl⟩)) (hP.sub [1, 0] rfl) (hD.sub [1, 0] rfl rfl) dX12_nearest_20
  ·
    subst qz_1
    refine lv_if_eq (tgt := 15) hx hb dX12_nearest_5 rfl (fun _ => ?_) (fun c => absurd (by decide) c)
    refine lv_aload_n hx hb dX12_nearest_15 rfl (lv_at hl 0 rfl) ?_
    refine lv_iconst (v := iZ 1) hx hb dX12_nearest_16 rfl ?_
    refine CWV (As := [.int (iZ 1)]) (rest := []) (wc := _) (wr := [(Ma, .inl (k 1, 5340, .inl Af))]) hx hb hml hown hts hKK hP hD hS hA (m_refuse l D k hm Ma Mn Ms My Mt Mp Mx Mo Mk Ml Mb Mh Mc Mz Mr Mq Mst Mtd Msz Mtk Mfr Men Mva Mfk Mfp Mfs Mse Mlt Mdp Mct Mdr Mrs Mit Mmk Mtp Mbt 1) ci_X12_refuse qm_X12_81 ⟨Nat.le_of_ble_eq_true rfl, Nat.le_of_ble_eq_true rfl⟩ ⟨Nat.le_of_ble_eq_true rfl, Nat.le_of_ble_eq_true rfl⟩ [0] [1] rfl rfl rfl rfl rfl (dj rfl) 0 rfl rfl rfl hl.1 rfl (Nat.le_of_ble_eq_true rfl) dX12_nearest_17 (fun u_18 H locs hφ hP hD hS => ?_)
    refine W.eq (g2 := F0 m 20 ls [.int (iZ (-1))]) rfl ?_
    exact EWi hx hb hr hlocks hS (((-1), 1), 0, (), ()) rfl (show (((0 ≤ x1 ∧ x1 < (gz Af 0)) ∧ (0 ≤ x2 ∧ x2 ≤ 400)) ∧ isFB (fun j => lt (sh Af 10) x1 x2 j x2) x1 (gz Af 0) (-1)) ∨ (¬ ((0 ≤ x1 ∧ x1 < (gz Af 0)) ∧ (0 ≤ x2 ∧ x2 ≤ 400)) ∧ ((-1) : Int) = -1) from (Or.inr ⟨by omega, rfl⟩)) (hP.sub [1, 0] rfl) (hD.sub [1, 0] rfl rfl) dX12_nearest_20
set_option maxHeartbeats 4000000 in
set_option maxRecDepth 100000 in
theorem q_meetings (l : Launch) (D : va_G) (k : Nat → ClassId) (hm : Nat) (Ma : Nat) (Mn : Nat) (Ms : Nat) (My : Nat) (Mt : Nat) (Mp : Nat) (Mx : Nat) (Mo : Nat) (Mk : Nat) (Ml : Nat) (Mb : Nat) (Mh : Nat) (Mc : Nat) (Mz : Nat) (Mr : Nat) (Mq : Nat) (Mst : Int) (Mtd : Int) (Msz : Int) (Mtk : Int) (Mfr : Int) (Men : Int) (Mva : Int) (Mfk : Int) (Mfp : Int) (Mfs : Int) (Mse : Int) (Mlt : Int) (Mdp : Int) (Mct : Int) (Mdr : Int) (Mrs : Int) (Mit : Int) (Mmk : Int) (Mtp : Int64) (Mbt : Int64) (Af : Nat → Int32) (x1 : Int) (x2 : Int) (x3 : Int) (x4 : Int) (hM : M0 Af) (h9x1 : -2147483648 ≤ x1 ∧ x1 < 2147483648) (h9x2 : -2147483648 ≤ x2 ∧ x2 < 2147483648) (h9x3 : -2147483648 ≤ x3 ∧ x3 < 2147483648) (h9x4 : -2147483648 ≤ x4 ∧ x4 < 2147483648) : WD (σ := ((Int × Int) × (Int64) × (Unit) × (Unit))) l yX12_meetings cX12_meetings 7 (some .int) 2 0 0 D k [.ref hm, .int (iZ x1), .int (iZ x2), .int (iZ x3), .int (iZ x4)] [(hm, .inr (12, [.ref Ma, .ref Mn, .int (iZ Mst), .long Mtp, .long Mbt, .ref Ms, .ref My, .ref Mt, .ref Mp, .ref Mx, .int (iZ Mtd), .int (iZ Msz), .int (iZ Mtk), .int (iZ Mfr), .int (iZ Men), .int (iZ Mva), .int (iZ Mfk), .int (iZ Mfp), .int (iZ Mfs), .int (iZ Mse), .int (iZ Mlt), .ref Mo, .int (iZ Mdp), .int (iZ Mct), .ref Mk, .ref Ml, .ref Mb, .ref Mh, .ref Mc, .int (iZ Mdr), .int (iZ Mrs), .ref Mz, .ref Mr, .ref Mq, .int (iZ Mit), .int (iZ Mmk)])), (Ma, .inl (k 1, 5340, .inl Af))] (fun u => some (.int (iZ u.1.1))) (fun u => (((0 ≤ x1 ∧ x1 < (gz Af 0)) ∧ (0 ≤ x2 ∧ x2 < (gz Af 0)) ∧ ¬ x1 = x2 ∧ (0 ≤ x3 ∧ x3 ≤ 400) ∧ (0 ≤ x4 ∧ x4 ≤ 400) ∧ x3 ≤ x4) ∧ (u.1.1 : Int) = mtC (sh Af 10) x1 x2 x3 (x4 + 1 - x3).toNat) ∨ (¬ ((0 ≤ x1 ∧ x1 < (gz Af 0)) ∧ (0 ≤ x2 ∧ x2 < (gz Af 0)) ∧ ¬ x1 = x2 ∧ (0 ≤ x3 ∧ x3 ≤ 400) ∧ (0 ≤ x4 ∧ x4 ≤ 400) ∧ x3 ≤ x4) ∧ (u.1.1 : Int) = -1)) (fun u => [(hm, .inr (12, [.ref Ma, .ref Mn, .int (iZ u.1.2), .long Mtp, .long Mbt, .ref Ms, .ref My, .ref Mt, .ref Mp, .ref Mx, .int (iZ Mtd), .int (iZ Msz), .int (iZ Mtk), .int (iZ Mfr), .int (iZ Men), .int (iZ Mva), .int (iZ Mfk), .int (iZ Mfp), .int (iZ Mfs), .int (iZ Mse), .int (iZ Mlt), .ref Mo, .int (iZ Mdp), .int (iZ Mct), .ref Mk, .ref Ml, .ref Mb, .ref Mh, .ref Mc, .int (iZ Mdr), .int (iZ Mrs), .ref Mz, .ref Mr, .ref Mq, .int (iZ Mit), .int (iZ Mmk)])), (Ma, .inl (k 1, 5340, .inl Af))]) := by
  refine MW (by decide) (Nat.le_of_ble_eq_true rfl) (fun p e s m below meth c ls A hx hb hml hr hlocks hin hts hown hKK hP hD hS hA hl => ?_)
  have hK := hKK.1
  have hl : lv_has ls 7 [(0, .ref hm), (1, .int (iZ x1)), (2, .int (iZ x2)), (3, .int (iZ x3)), (4, .int (iZ x4))] := hl
  obtain ⟨m0, m1, m3, m4, m5, mF, mO, mS⟩ := id hM
  refine lv_aload_n hx hb dX12_meetings_0 rfl (lv_at hl 0 rfl) ?_
  refine lv_iload_n hx hb dX12_meetings_1 rfl (lv_at hl 1 rfl) ?_
  refine lv_iload_n hx hb dX12_meetings_2 rfl (lv_at hl 2 rfl) ?_
  refine CPV (As := [.int (iZ x1), .int (iZ x2)]) (rest := []) hx hb hml hown hts hKK hP (m_areTwo l D k ([.ref Ma, .ref Mn, .int (iZ Mst), .long Mtp, .long Mbt, .ref Ms, .ref My, .ref Mt, .ref Mp, .ref Mx, .int (iZ Mtd), .int (iZ Msz), .int (iZ Mtk), .int (iZ Mfr), .int (iZ Men), .int (iZ Mva), .int (iZ Mfk), .int (iZ Mfp), .int (iZ Mfs), .int (iZ Mse), .int (iZ Mlt), .ref Mo, .int (iZ Mdp), .int (iZ Mct), .ref Mk, .ref Ml, .ref Mb, .ref Mh, .ref Mc, .int (iZ Mdr), .int (iZ Mrs), .ref Mz, .ref Mr, .ref Mq, .int (iZ Mit), .int (iZ Mmk)]) hm Ma Af x1 x2 rfl hM ⟨by omega, by omega⟩ ⟨by omega, by omega⟩) ci_X12_areTwo qm_X12_265 ⟨Nat.le_of_ble_eq_true rfl, Nat.le_of_ble_eq_true rfl⟩ ⟨Nat.le_of_ble_eq_true rfl, Nat.le_of_ble_eq_true rfl⟩ 0 rfl rfl rfl hl.1 rfl (Nat.le_of_ble_eq_true rfl) dX12_meetings_3 (fun z_1 hz_1 => ?_)
  rcases hz_1 with ⟨qz_1, hz_1⟩ | ⟨qz_1, hz_1⟩
  ·
    subst qz_1
    refine lv_if_eq (tgt := 30) hx hb dX12_meetings_6 rfl (fun c => absurd c (by decide)) (fun _ => ?_)
    refine lv_iload_n hx hb dX12_meetings_9 rfl (lv_at hl 3 rfl) ?_
    refine CPS (As := [.int (iZ x3)]) (rest := []) hx hb hml hown hts hKK (hP.sub (ws' := []) [] rfl) (m_isWeek l D k x3 ⟨by omega, by omega⟩) ci_X12_isWeek qm_X12_268 ⟨Nat.le_of_ble_eq_true rfl, Nat.le_of_ble_eq_true rfl⟩ ⟨Nat.le_of_ble_eq_true rfl, Nat.le_of_ble_eq_true rfl⟩ rfl hl.1 rfl (Nat.le_of_ble_eq_true rfl) dX12_meetings_10 (fun z_3 hz_3 => ?_)
    rcases hz_3 with ⟨qz_3, hz_3⟩ | ⟨qz_3, hz_3⟩
    ·
      subst qz_3
      refine lv_if_eq (tgt := 30) hx hb dX12_meetings_13 rfl (fun c => absurd c (by decide)) (fun _ => ?_)
      refine lv_iload hx hb dX12_meetings_16 (lv_at hl 4 rfl) ?_
      refine CPS (As := [.int (iZ x4)]) (rest := []) hx hb hml hown hts hKK (hP.sub (ws' := []) [] rfl) (m_isWeek l D k x4 ⟨by omega, by omega⟩) ci_X12_isWeek qm_X12_268 ⟨Nat.le_of_ble_eq_true rfl, Nat.le_of_ble_eq_true rfl⟩ ⟨Nat.le_of_ble_eq_true rfl, Nat.le_of_ble_eq_true rfl⟩ rfl hl.1 rfl (Nat.le_of_ble_eq_true rfl) dX12_meetings_18 (fun z_5 hz_5 => ?_)
      rcases hz_5 with ⟨qz_5, hz_5⟩ | ⟨qz_5, hz_5⟩
      ·
        subst qz_5
        refine lv_if_eq (tgt := 30) hx hb dX12_meetings_21 rfl (fun c => absurd c (by decide)) (fun _ => ?_)
        refine lv_iload hx hb dX12_meetings_24 (lv_at hl 4 rfl) ?_
        refine lv_iload_n hx hb dX12_meetings_26 rfl (lv_at hl 3 rfl) ?_
        refine lv_icmp_ge (tgt := 36) hx hb dX12_meetings_27 rfl (fun c_7 => ?_) (fun c_7 => ?_)
        ·
          have c_7 := (zle (x := iZ x3) (y := iZ x4) rfl rfl ⟨by omega, by omega⟩ ⟨by omega, by omega⟩).mp c_7
          refine lv_iconst (v := iZ 0) hx hb dX12_meetings_36 rfl ?_
          refine lv_istore (lv' := [(5, .int (iZ 0)), (0, .ref hm), (1, .int (iZ x1)), (2, .int (iZ x2)), (3, .int (iZ x3)), (4, .int (iZ x4))]) hx hb dX12_meetings_37 hl (bl rfl) rfl (fun ls hl => ?_)
          refine lv_iload_n hx hb dX12_meetings_39 rfl (lv_at hl 4 rfl) ?_
          refine lv_istore (lv' := [(6, .int (iZ x3)), (5, .int (iZ 0)), (0, .ref hm), (1, .int (iZ x1)), (2, .int (iZ x2)), (3, .int (iZ x3)), (4, .int (iZ x4))]) hx hb dX12_meetings_40 hl (bl rfl) rfl (fun ls hl => ?_)
          have HL42 : ∀ (fu : Nat) (v5_42 : Int) (v6_42 : Int) (H : Heap) (locs : List Loc) (ls : Array Slot), ((x4) + 2 - v6_42) < (fu : Int) → ((x3 ≤ v6_42 ∧ v6_42 ≤ (x4) + 1)) → ((v5_42 : Int) = mtC (sh Af 10) x1 x2 x3 (v6_42 - x3).toNat) → va_P D vwCl [(hm, .inr (12, [.ref Ma, .ref Mn, .int (iZ Mst), .long Mtp, .long Mbt, .ref Ms, .ref My, .ref Mt, .ref Mp, .ref Mx, .int (iZ Mtd), .int (iZ Msz), .int (iZ Mtk), .int (iZ Mfr), .int (iZ Men), .int (iZ Mva), .int (iZ Mfk), .int (iZ Mfp), .int (iZ Mfs), .int (iZ Mse), .int (iZ Mlt), .ref Mo, .int (iZ Mdp), .int (iZ Mct), .ref Mk, .ref Ml, .ref Mb, .ref Mh, .ref Mc, .int (iZ Mdr), .int (iZ Mrs), .ref Mz, .ref Mr, .ref Mq, .int (iZ Mit), .int (iZ Mmk)])), (Ma, .inl (k 1, 5340, .inl Af))] H → va_D A [(hm, .inr (12, [.ref Ma, .ref Mn, .int (iZ Mst), .long Mtp, .long Mbt, .ref Ms, .ref My, .ref Mt, .ref Mp, .ref Mx, .int (iZ Mtd), .int (iZ Msz), .int (iZ Mtk), .int (iZ Mfr), .int (iZ Men), .int (iZ Mva), .int (iZ Mfk), .int (iZ Mfp), .int (iZ Mfs), .int (iZ Mse), .int (iZ Mlt), .ref Mo, .int (iZ Mdp), .int (iZ Mct), .ref Mk, .ref Ml, .ref Mb, .ref Mh, .ref Mc, .int (iZ Mdr), .int (iZ Mrs), .ref Mz, .ref Mr, .ref Mq, .int (iZ Mit), .int (iZ Mmk)])), (Ma, .inl (k 1, 5340, .inl Af))] → va_S A s.heap H locs → lv_has ls 7 [(6, .int (iZ v6_42)), (5, .int (iZ v5_42)), (0, .ref hm), (1, .int (iZ x1)), (2, .int (iZ x2)), (3, .int (iZ x3)), (4, .int (iZ x4))] → W p l e (rj 2 0 0) s m [.ref hm, .int (iZ x1), .int (iZ x2), .int (iZ x3), .int (iZ x4)].toArray below meth c H locs 0 0 (MQ below (QW (σ := ((Int × Int) × (Int64) × (Unit) × (Unit))) (fun u => some (.int (iZ u.1.1))) (fun u => (((0 ≤ x1 ∧ x1 < (gz Af 0)) ∧ (0 ≤ x2 ∧ x2 < (gz Af 0)) ∧ ¬ x1 = x2 ∧ (0 ≤ x3 ∧ x3 ≤ 400) ∧ (0 ≤ x4 ∧ x4 ≤ 400) ∧ x3 ≤ x4) ∧ (u.1.1 : Int) = mtC (sh Af 10) x1 x2 x3 (x4 + 1 - x3).toNat) ∨ (¬ ((0 ≤ x1 ∧ x1 < (gz Af 0)) ∧ (0 ≤ x2 ∧ x2 < (gz Af 0)) ∧ ¬ x1 = x2 ∧ (0 ≤ x3 ∧ x3 ≤ 400) ∧ (0 ≤ x4 ∧ x4 ≤ 400) ∧ x3 ≤ x4) ∧ (u.1.1 : Int) = -1)) (fun u => [(hm, .inr (12, [.ref Ma, .ref Mn, .int (iZ u.1.2), .long Mtp, .long Mbt, .ref Ms, .ref My, .ref Mt, .ref Mp, .ref Mx, .int (iZ Mtd), .int (iZ Msz), .int (iZ Mtk), .int (iZ Mfr), .int (iZ Men), .int (iZ Mva), .int (iZ Mfk), .int (iZ Mfp), .int (iZ Mfs), .int (iZ Mse), .int (iZ Mlt), .ref Mo, .int (iZ Mdp), .int (iZ Mct), .ref Mk, .ref Ml, .ref Mb, .ref Mh, .ref Mc, .int (iZ Mdr), .int (iZ Mrs), .ref Mz, .ref Mr, .ref Mq, .int (iZ Mit), .int (iZ Mmk)])), (Ma, .inl (k 1, 5340, .inl Af))]) D A) [.ref hm, .int (iZ x1), .int (iZ x2), .int (iZ x3), .int (iZ x4)].toArray s 0 0 A) (F0 m 42 ls []) := by
            intro fu
            induction fu with
            | zero => intro v5_42 v6_42 H locs ls hμ42 hi42 hmt hP hD hS hl; exact absurd hμ42 (by omega)
            | succ fu ih42 =>
              intro v5_42 v6_42 H locs ls hμ42 hi42 hmt hP hD hS hl
              refine lv_iload hx hb dX12_meetings_42 (lv_at hl 0 rfl) ?_
              refine lv_iload hx hb dX12_meetings_44 (lv_at hl 6 rfl) ?_
              refine lv_icmp_gt (tgt := 82) hx hb dX12_meetings_46 rfl (fun c_8 => ?_) (fun c_8 => ?_)
              ·
                have c_8 := (zlt (x := iZ x4) (y := iZ v6_42) rfl rfl ⟨by omega, by omega⟩ ⟨by omega, by omega⟩).mp c_8
                refine lv_aload_n hx hb dX12_meetings_82 rfl (lv_at hl 2 rfl) ?_
                refine lv_iload hx hb dX12_meetings_83 (lv_at hl 1 rfl) ?_
                refine CWV (As := [.int (iZ v5_42)]) (rest := []) (wc := _) (wr := [(Ma, .inl (k 1, 5340, .inl Af))]) hx hb hml hown hts hKK hP hD hS hA (m_gives l D k hm Ma Mn Ms My Mt Mp Mx Mo Mk Ml Mb Mh Mc Mz Mr Mq Mst Mtd Msz Mtk Mfr Men Mva Mfk Mfp Mfs Mse Mlt Mdp Mct Mdr Mrs Mit Mmk Mtp Mbt v5_42) ci_X12_gives qm_X12_85 ⟨Nat.le_of_ble_eq_true rfl, Nat.le_of_ble_eq_true rfl⟩ ⟨Nat.le_of_ble_eq_true rfl, Nat.le_of_ble_eq_true rfl⟩ [0] [1] rfl rfl rfl rfl rfl (dj rfl) 0 rfl rfl rfl hl.1 rfl (Nat.le_of_ble_eq_true rfl) dX12_meetings_85 (fun u_9 H locs hφ hP hD hS => ?_)
                refine W.eq (g2 := F0 m 88 ls [.int (iZ v5_42)]) rfl ?_
                exact EWi hx hb hr hlocks hS ((v5_42, 0), 0, (), ()) rfl (show (((0 ≤ x1 ∧ x1 < (gz Af 0)) ∧ (0 ≤ x2 ∧ x2 < (gz Af 0)) ∧ ¬ x1 = x2 ∧ (0 ≤ x3 ∧ x3 ≤ 400) ∧ (0 ≤ x4 ∧ x4 ≤ 400) ∧ x3 ≤ x4) ∧ (v5_42 : Int) = mtC (sh Af 10) x1 x2 x3 (x4 + 1 - x3).toNat) ∨ (¬ ((0 ≤ x1 ∧ x1 < (gz Af 0)) ∧ (0 ≤ x2 ∧ x2 < (gz Af 0)) ∧ ¬ x1 = x2 ∧ (0 ≤ x3 ∧ x3 ≤ 400) ∧ (0 ≤ x4 ∧ x4 ≤ 400) ∧ x3 ≤ x4) ∧ (v5_42 : Int) = -1) from (Or.inl ⟨by omega, by rw [hmt, show v6_42 = x4 + 1 by omega]⟩)) (hP.sub [1, 0] rfl) (hD.sub [1, 0] rfl rfl) dX12_meetings_88
              ·
                have c_8 := mt (zlt (x := iZ x4) (y := iZ v6_42) rfl rfl ⟨by omega, by omega⟩ ⟨by omega, by omega⟩).mpr c_8
                refine lv_iload hx hb dX12_meetings_49 (lv_at hl 1 rfl) ?_
                refine lv_aload_n hx hb dX12_meetings_51 rfl (lv_at hl 2 rfl) ?_
                refine lv_iload_n hx hb dX12_meetings_52 rfl (lv_at hl 3 rfl) ?_
                refine lv_iload hx hb dX12_meetings_53 (lv_at hl 0 rfl) ?_
                refine CRV (As := [.int (iZ x1), .int (iZ v6_42)]) (rest := [.int (iZ v5_42)]) hx hb hml hown hts hKK hP (m_dir l D k ([.ref Ma, .ref Mn, .int (iZ Mst), .long Mtp, .long Mbt, .ref Ms, .ref My, .ref Mt, .ref Mp, .ref Mx, .int (iZ Mtd), .int (iZ Msz), .int (iZ Mtk), .int (iZ Mfr), .int (iZ Men), .int (iZ Mva), .int (iZ Mfk), .int (iZ Mfp), .int (iZ Mfs), .int (iZ Mse), .int (iZ Mlt), .ref Mo, .int (iZ Mdp), .int (iZ Mct), .ref Mk, .ref Ml, .ref Mb, .ref Mh, .ref Mc, .int (iZ Mdr), .int (iZ Mrs), .ref Mz, .ref Mr, .ref Mq, .int (iZ Mit), .int (iZ Mmk)]) hm Ma Af x1 v6_42 rfl hM ⟨by omega, by omega⟩ ⟨by omega, by omega⟩) ci_X12_directionOf qm_X12_249 ⟨Nat.le_of_ble_eq_true rfl, Nat.le_of_ble_eq_true rfl⟩ ⟨Nat.le_of_ble_eq_true rfl, Nat.le_of_ble_eq_true rfl⟩ 0 rfl rfl rfl hl.1 rfl (Nat.le_of_ble_eq_true rfl) dX12_meetings_55 ?_
                have hh_h_10 := hd_rg (sh Af 10) x1 v6_42
                refine lv_aload_n hx hb dX12_meetings_58 rfl (lv_at hl 2 rfl) ?_
                refine lv_iload_n hx hb dX12_meetings_59 rfl (lv_at hl 4 rfl) ?_
                refine lv_iload hx hb dX12_meetings_60 (lv_at hl 0 rfl) ?_
                refine CRV (As := [.int (iZ x2), .int (iZ v6_42)]) (rest := [.int (iZ (hd (sh Af 10) x1 v6_42)), .int (iZ v5_42)]) hx hb hml hown hts hKK hP (m_dir l D k ([.ref Ma, .ref Mn, .int (iZ Mst), .long Mtp, .long Mbt, .ref Ms, .ref My, .ref Mt, .ref Mp, .ref Mx, .int (iZ Mtd), .int (iZ Msz), .int (iZ Mtk), .int (iZ Mfr), .int (iZ Men), .int (iZ Mva), .int (iZ Mfk), .int (iZ Mfp), .int (iZ Mfs), .int (iZ Mse), .int (iZ Mlt), .ref Mo, .int (iZ Mdp), .int (iZ Mct), .ref Mk, .ref Ml, .ref Mb, .ref Mh, .ref Mc, .int (iZ Mdr), .int (iZ Mrs), .ref Mz, .ref Mr, .ref Mq, .int (iZ Mit), .int (iZ Mmk)]) hm Ma Af x2 v6_42 rfl hM ⟨by omega, by omega⟩ ⟨by omega, by omega⟩) ci_X12_directionOf qm_X12_249 ⟨Nat.le_of_ble_eq_true rfl, Nat.le_of_ble_eq_true rfl⟩ ⟨Nat.le_of_ble_eq_true rfl, Nat.le_of_ble_eq_true rfl⟩ 0 rfl rfl rfl hl.1 rfl (Nat.le_of_ble_eq_true rfl) dX12_meetings_62 ?_
                have hh_h_11 := hd_rg (sh Af 10) x2 v6_42
                refine lv_icmp_ne (tgt := 72) hx hb dX12_meetings_65 rfl (fun c_12 => ?_) (fun c_12 => ?_)
                ·
                  have c_12 := mt (zeq (x := iZ (hd (sh Af 10) x1 v6_42)) (y := iZ (hd (sh Af 10) x2 v6_42)) rfl rfl ⟨by omega, by omega⟩ ⟨by omega, by omega⟩).mpr c_12
                  refine lv_iconst (v := iZ 0) hx hb dX12_meetings_72 rfl ?_
                  refine lv_iadd hx hb dX12_meetings_73 ?_
                  refine lv_topi (fun x_13 ex_13 => ?_)
                  obtain rfl : x_13 = iZ (v5_42 + 0) := ex_13.trans (iZ_add v5_42 0)
                  refine lv_istore (lv' := [(5, .int (iZ (v5_42 + 0))), (6, .int (iZ v6_42)), (0, .ref hm), (1, .int (iZ x1)), (2, .int (iZ x2)), (3, .int (iZ x3)), (4, .int (iZ x4))]) hx hb dX12_meetings_74 hl (bl rfl) rfl (fun ls hl => ?_)
                  refine lv_iinc (v := iZ (v6_42 + 1)) (lv' := [(6, .int (iZ (v6_42 + 1))), (5, .int (iZ (v5_42 + 0))), (0, .ref hm), (1, .int (iZ x1)), (2, .int (iZ x2)), (3, .int (iZ x3)), (4, .int (iZ x4))]) hx hb dX12_meetings_76 hl (k := 1) rfl (iZ_add v6_42 1) (by decide) rfl (fun ls hl => ?_)
                  refine lv_goto (tgt := 42) hx hb dX12_meetings_79 rfl ?_
                  exact ih42  (v5_42 + 0) (v6_42 + 1) _ _ _ (by omega) (show (x3 ≤ (v6_42 + 1) ∧ (v6_42 + 1) ≤ (x4) + 1) from ⟨by omega, by omega⟩) (show ((v5_42 + 0) : Int) = mtC (sh Af 10) x1 x2 x3 ((v6_42 + 1) - x3).toNat from (by have h9 := mtC_s (f := (sh Af 10)) (a := x1) (b := x2) (x := x3) (w := v6_42) (by omega); rw [if_neg (by omega)] at h9; omega)) (hP.sub [0, 1] rfl) (hD.sub [0, 1] rfl rfl) hS (lv_sub hl [0, 1, 2, 3, 4, 5, 6] rfl)
                ·
                  have c_12 := (zeq (x := iZ (hd (sh Af 10) x1 v6_42)) (y := iZ (hd (sh Af 10) x2 v6_42)) rfl rfl ⟨by omega, by omega⟩ ⟨by omega, by omega⟩).mp c_12
                  refine lv_iconst (v := iZ 1) hx hb dX12_meetings_68 rfl ?_
                  refine lv_goto (tgt := 73) hx hb dX12_meetings_69 rfl ?_
                  refine lv_iadd hx hb dX12_meetings_73 ?_
                  refine lv_topi (fun x_14 ex_14 => ?_)
                  obtain rfl : x_14 = iZ (v5_42 + 1) := ex_14.trans (iZ_add v5_42 1)
                  refine lv_istore (lv' := [(5, .int (iZ (v5_42 + 1))), (6, .int (iZ v6_42)), (0, .ref hm), (1, .int (iZ x1)), (2, .int (iZ x2)), (3, .int (iZ x3)), (4, .int (iZ x4))]) hx hb dX12_meetings_74 hl (bl rfl) rfl (fun ls hl => ?_)
                  refine lv_iinc (v := iZ (v6_42 + 1)) (lv' := [(6, .int (iZ (v6_42 + 1))), (5, .int (iZ (v5_42 + 1))), (0, .ref hm), (1, .int (iZ x1)), (2, .int (iZ x2)), (3, .int (iZ x3)), (4, .int (iZ x4))]) hx hb dX12_meetings_76 hl (k := 1) rfl (iZ_add v6_42 1) (by decide) rfl (fun ls hl => ?_)
                  refine lv_goto (tgt := 42) hx hb dX12_meetings_79 rfl ?_
                  exact ih42  (v5_42 + 1) (v6_42 + 1) _ _ _ (by omega) (show (x3 ≤ (v6_42 + 1) ∧ (v6_42 + 1) ≤ (x4) + 1) from ⟨by omega, by omega⟩) (show ((v5_42 + 1) : Int) = mtC (sh Af 10) x1 x2 x3 ((v6_42 + 1) - x3).toNat from (by have h9 := mtC_s (f := (sh Af 10)) (a := x1) (b := x2) (x := x3) (w := v6_42) (by omega); rw [if_pos (by omega)] at h9; omega)) (hP.sub [0, 1] rfl) (hD.sub [0, 1] rfl rfl) hS (lv_sub hl [0, 1, 2, 3, 4, 5, 6] rfl)
          exact HL42 404 0 x3 _ _ _ (by omega) (show (x3 ≤ x3 ∧ x3 ≤ (x4) + 1) from ⟨by omega, by omega⟩) (show (0 : Int) = mtC (sh Af 10) x1 x2 x3 (x3 - x3).toNat from mtC_0.symm) (hP.sub [0, 1] rfl) (hD.sub [0, 1] rfl rfl) hS (lv_sub hl [0, 1, 2, 3, 4, 5, 6] rfl)
        ·
          have c_7 := mt (zle (x := iZ x3) (y := iZ x4) rfl rfl ⟨by omega, by omega⟩ ⟨by omega, by omega⟩).mpr c_7
          refine lv_aload_n hx hb dX12_meetings_30 rfl (lv_at hl 0 rfl) ?_
          refine lv_iconst (v := iZ 1) hx hb dX12_meetings_31 rfl ?_
          refine CWV (As := [.int (iZ 1)]) (rest := []) (wc := _) (wr := [(Ma, .inl (k 1, 5340, .inl Af))]) hx hb hml hown hts hKK hP hD hS hA (m_refuse l D k hm Ma Mn Ms My Mt Mp Mx Mo Mk Ml Mb Mh Mc Mz Mr Mq Mst Mtd Msz Mtk Mfr Men Mva Mfk Mfp Mfs Mse Mlt Mdp Mct Mdr Mrs Mit Mmk Mtp Mbt 1) ci_X12_refuse qm_X12_81 ⟨Nat.le_of_ble_eq_true rfl, Nat.le_of_ble_eq_true rfl⟩ ⟨Nat.le_of_ble_eq_true rfl, Nat.le_of_ble_eq_true rfl⟩ [0] [1] rfl rfl rfl rfl rfl (dj rfl) 0 rfl rfl rfl hl.1 rfl (Nat.le_of_ble_eq_true rfl) dX12_meetings_32 (fun u_15 H locs hφ hP hD hS => ?_)
          refine W.eq (g2 := F0 m 35 ls [.int (iZ (-1))]) rfl ?_
          exact EWi hx hb hr hlocks hS (((-1), 1), 0, (), ()) rfl (show (((0 ≤ x1 ∧ x1 < (gz Af 0)) ∧ (0 ≤ x2 ∧ x2 < (gz Af 0)) ∧ ¬ x1 = x2 ∧ (0 ≤ x3 ∧ x3 ≤ 400) ∧ (0 ≤ x4 ∧ x4 ≤ 400) ∧ x3 ≤ x4) ∧ ((-1) : Int) = mtC (sh Af 10) x1 x2 x3 (x4 + 1 - x3).toNat) ∨ (¬ ((0 ≤ x1 ∧ x1 < (gz Af 0)) ∧ (0 ≤ x2 ∧ x2 < (gz Af 0)) ∧ ¬ x1 = x2 ∧ (0 ≤ x3 ∧ x3 ≤ 400) ∧ (0 ≤ x4 ∧ x4 ≤ 400) ∧ x3 ≤ x4) ∧ ((-1) : Int) = -1) from (Or.inr ⟨by omega, rfl⟩)) (hP.sub [1, 0] rfl) (hD.sub [1, 0] rfl rfl) dX12_meetings_35
      ·
        subst qz_5
        refine lv_if_eq (tgt := 30) hx hb dX12_meetings_21 rfl (fun _ => ?_) (fun c => absurd (by decide) c)
        refine lv_aload_n hx hb dX12_meetings_30 rfl (lv_at hl 0 rfl) ?_
        refine lv_iconst (v := iZ 1) hx hb dX12_meetings_31 rfl ?_
        refine CWV (As := [.int (iZ 1)]) (rest := []) (wc := _) (wr := [(Ma, .inl (k 1, 5340, .inl Af))]) hx hb hml hown hts hKK hP hD hS hA (m_refuse l D k hm Ma Mn Ms My Mt Mp Mx Mo Mk Ml Mb Mh Mc Mz Mr Mq Mst Mtd Msz Mtk Mfr Men Mva Mfk Mfp Mfs Mse Mlt Mdp Mct Mdr Mrs Mit Mmk Mtp Mbt 1) ci_X12_refuse qm_X12_81 ⟨Nat.le_of_ble_eq_true rfl, Nat.le_of_ble_eq_true rfl⟩ ⟨Nat.le_of_ble_eq_true rfl, Nat.le_of_ble_eq_true rfl⟩ [0] [1] rfl rfl rfl rfl rfl (dj rfl) 0 rfl rfl rfl hl.1 rfl (Nat.le_of_ble_eq_true rfl) dX12_meetings_32 (fun u_17 H locs hφ hP hD hS => ?_)
        refine W.eq (g2 := F0 m 35 ls [.int (iZ (-1))]) rfl ?_
        exact EWi hx hb hr hlocks hS (((-1), 1), 0, (), ()) rfl (show (((0 ≤ x1 ∧ x1 < (gz Af 0)) ∧ (0 ≤ x2 ∧ x2 < (gz Af 0)) ∧ ¬ x1 = x2 ∧ (0 ≤ x3 ∧ x3 ≤ 400) ∧ (0 ≤ x4 ∧ x4 ≤ 400) ∧ x3 ≤ x4) ∧ ((-1) : Int) = mtC (sh Af 10) x1 x2 x3 (x4 + 1 - x3).toNat) ∨ (¬ ((0 ≤ x1 ∧ x1 < (gz Af 0)) ∧ (0 ≤ x2 ∧ x2 < (gz Af 0)) ∧ ¬ x1 = x2 ∧ (0 ≤ x3 ∧ x3 ≤ 400) ∧ (0 ≤ x4 ∧ x4 ≤ 400) ∧ x3 ≤ x4) ∧ ((-1) : Int) = -1) from (Or.inr ⟨by omega, rfl⟩)) (hP.sub [1, 0] rfl) (hD.sub [1, 0] rfl rfl) dX12_meetings_35
    ·
      subst qz_3
      refine lv_if_eq (tgt := 30) hx hb dX12_meetings_13 rfl (fun _ => ?_) (fun c => absurd (by decide) c)
      refine lv_aload_n hx hb dX12_meetings_30 rfl (lv_at hl 0 rfl) ?_
      refine lv_iconst (v := iZ 1) hx hb dX12_meetings_31 rfl ?_
      refine CWV (As := [.int (iZ 1)]) (rest := []) (wc := _) (wr := [(Ma, .inl (k 1, 5340, .inl Af))]) hx hb hml hown hts hKK hP hD hS hA (m_refuse l D k hm Ma Mn Ms My Mt Mp Mx Mo Mk Ml Mb Mh Mc Mz Mr Mq Mst Mtd Msz Mtk Mfr Men Mva Mfk Mfp Mfs Mse Mlt Mdp Mct Mdr Mrs Mit Mmk Mtp Mbt 1) ci_X12_refuse qm_X12_81 ⟨Nat.le_of_ble_eq_true rfl, Nat.le_of_ble_eq_true rfl⟩ ⟨Nat.le_of_ble_eq_true rfl, Nat.le_of_ble_eq_true rfl⟩ [0] [1] rfl rfl rfl rfl rfl (dj rfl) 0 rfl rfl rfl hl.1 rfl (Nat.le_of_ble_eq_true rfl) dX12_meetings_32 (fun u_19 H locs hφ hP hD hS => ?_)
      refine W.eq (g2 := F0 m 35 ls [.int (iZ (-1))]) rfl ?_
      exact EWi hx hb hr hlocks hS (((-1), 1), 0, (), ()) rfl (show (((0 ≤ x1 ∧ x1 < (gz Af 0)) ∧ (0 ≤ x2 ∧ x2 < (gz Af 0)) ∧ ¬ x1 = x2 ∧ (0 ≤ x3 ∧ x3 ≤ 400) ∧ (0 ≤ x4 ∧ x4 ≤ 400) ∧ x3 ≤ x4) ∧ ((-1) : Int) = mtC (sh Af 10) x1 x2 x3 (x4 + 1 - x3).toNat) ∨ (¬ ((0 ≤ x1 ∧ x1 < (gz Af 0)) ∧ (0 ≤ x2 ∧ x2 < (gz Af 0)) ∧ ¬ x1 = x2 ∧ (0 ≤ x3 ∧ x3 ≤ 400) ∧ (0 ≤ x4 ∧ x4 ≤ 400) ∧ x3 ≤ x4) ∧ ((-1) : Int) = -1) from (Or.inr ⟨by omega, rfl⟩)) (hP.sub [1, 0] rfl) (hD.sub [1, 0] rfl rfl) dX12_meetings_35
  ·
    subst qz_1
    refine lv_if_eq (tgt := 30) hx hb dX12_meetings_6 rfl (fun _ => ?_) (fun c => absurd (by decide) c)
    refine lv_aload_n hx hb dX12_meetings_30 rfl (lv_at hl 0 rfl) ?_
    refine lv_iconst (v := iZ 1) hx hb dX12_meetings_31 rfl ?_
    refine CWV (As := [.int (iZ 1)]) (rest := []) (wc := _) (wr := [(Ma, .inl (k 1, 5340, .inl Af))]) hx hb hml hown hts hKK hP hD hS hA (m_refuse l D k hm Ma Mn Ms My Mt Mp Mx Mo Mk Ml Mb Mh Mc Mz Mr Mq Mst Mtd Msz Mtk Mfr Men Mva Mfk Mfp Mfs Mse Mlt Mdp Mct Mdr Mrs Mit Mmk Mtp Mbt 1) ci_X12_refuse qm_X12_81 ⟨Nat.le_of_ble_eq_true rfl, Nat.le_of_ble_eq_true rfl⟩ ⟨Nat.le_of_ble_eq_true rfl, Nat.le_of_ble_eq_true rfl⟩ [0] [1] rfl rfl rfl rfl rfl (dj rfl) 0 rfl rfl rfl hl.1 rfl (Nat.le_of_ble_eq_true rfl) dX12_meetings_32 (fun u_21 H locs hφ hP hD hS => ?_)
    refine W.eq (g2 := F0 m 35 ls [.int (iZ (-1))]) rfl ?_
    exact EWi hx hb hr hlocks hS (((-1), 1), 0, (), ()) rfl (show (((0 ≤ x1 ∧ x1 < (gz Af 0)) ∧ (0 ≤ x2 ∧ x2 < (gz Af 0)) ∧ ¬ x1 = x2 ∧ (0 ≤ x3 ∧ x3 ≤ 400) ∧ (0 ≤ x4 ∧ x4 ≤ 400) ∧ x3 ≤ x4) ∧ ((-1) : Int) = mtC (sh Af 10) x1 x2 x3 (x4 + 1 - x3).toNat) ∨ (¬ ((0 ≤ x1 ∧ x1 < (gz Af 0)) ∧ (0 ≤ x2 ∧ x2 < (gz Af 0)) ∧ ¬ x1 = x2 ∧ (0 ≤ x3 ∧ x3 ≤ 400) ∧ (0 ≤ x4 ∧ x4 ≤ 400) ∧ x3 ≤ x4) ∧ ((-1) : Int) = -1) from (Or.inr ⟨by omega, rfl⟩)) (hP.sub [1, 0] rfl) (hD.sub [1, 0] rfl rfl) dX12_meetings_35
set_option maxHeartbeats 4000000 in
set_option maxRecDepth 100000 in
theorem q_span (l : Launch) (D : va_G) (k : Nat → ClassId) (hm : Nat) (Ma : Nat) (Mn : Nat) (Ms : Nat) (My : Nat) (Mt : Nat) (Mp : Nat) (Mx : Nat) (Mo : Nat) (Mk : Nat) (Ml : Nat) (Mb : Nat) (Mh : Nat) (Mc : Nat) (Mz : Nat) (Mr : Nat) (Mq : Nat) (Mst : Int) (Mtd : Int) (Msz : Int) (Mtk : Int) (Mfr : Int) (Men : Int) (Mva : Int) (Mfk : Int) (Mfp : Int) (Mfs : Int) (Mse : Int) (Mlt : Int) (Mdp : Int) (Mct : Int) (Mdr : Int) (Mrs : Int) (Mit : Int) (Mmk : Int) (Mtp : Int64) (Mbt : Int64) (Af : Nat → Int32) (x1 : Int) (hM : M0 Af) (h9x1 : -2147483648 ≤ x1 ∧ x1 < 2147483648) : WD (σ := ((Int × Int) × (Int64) × (Unit) × (Unit))) l yX12_span cX12_span 5 (some .int) 3 0 0 D k [.ref hm, .int (iZ x1)] [(hm, .inr (12, [.ref Ma, .ref Mn, .int (iZ Mst), .long Mtp, .long Mbt, .ref Ms, .ref My, .ref Mt, .ref Mp, .ref Mx, .int (iZ Mtd), .int (iZ Msz), .int (iZ Mtk), .int (iZ Mfr), .int (iZ Men), .int (iZ Mva), .int (iZ Mfk), .int (iZ Mfp), .int (iZ Mfs), .int (iZ Mse), .int (iZ Mlt), .ref Mo, .int (iZ Mdp), .int (iZ Mct), .ref Mk, .ref Ml, .ref Mb, .ref Mh, .ref Mc, .int (iZ Mdr), .int (iZ Mrs), .ref Mz, .ref Mr, .ref Mq, .int (iZ Mit), .int (iZ Mmk)])), (Ma, .inl (k 1, 5340, .inl Af))] (fun u => some (.int (iZ u.1.1))) (fun u => (((0 ≤ x1 ∧ x1 ≤ 500)) ∧ (isSr (sh Af 10) x1 (gz Af 0) (gz Af 0) 0 u.1.1 ∧ 0 ≤ (u.1.1 : Int))) ∨ (¬ ((0 ≤ x1 ∧ x1 ≤ 500)) ∧ (u.1.1 : Int) = -1)) (fun u => [(hm, .inr (12, [.ref Ma, .ref Mn, .int (iZ u.1.2), .long Mtp, .long Mbt, .ref Ms, .ref My, .ref Mt, .ref Mp, .ref Mx, .int (iZ Mtd), .int (iZ Msz), .int (iZ Mtk), .int (iZ Mfr), .int (iZ Men), .int (iZ Mva), .int (iZ Mfk), .int (iZ Mfp), .int (iZ Mfs), .int (iZ Mse), .int (iZ Mlt), .ref Mo, .int (iZ Mdp), .int (iZ Mct), .ref Mk, .ref Ml, .ref Mb, .ref Mh, .ref Mc, .int (iZ Mdr), .int (iZ Mrs), .ref Mz, .ref Mr, .ref Mq, .int (iZ Mit), .int (iZ Mmk)])), (Ma, .inl (k 1, 5340, .inl Af))]) := by
  refine MW (by decide) (Nat.le_of_ble_eq_true rfl) (fun p e s m below meth c ls A hx hb hml hr hlocks hin hts hown hKK hP hD hS hA hl => ?_)
  have hK := hKK.1
  have hl : lv_has ls 5 [(0, .ref hm), (1, .int (iZ x1))] := hl
  obtain ⟨m0, m1, m3, m4, m5, mF, mO, mS⟩ := id hM
  refine lv_iload_n hx hb dX12_span_0 rfl (lv_at hl 1 rfl) ?_
  refine CPS (As := [.int (iZ x1)]) (rest := []) hx hb hml hown hts hKK (hP.sub (ws' := []) [] rfl) (m_isAsked l D k x1 ⟨by omega, by omega⟩) ci_X12_isAsked qm_X12_258 ⟨Nat.le_of_ble_eq_true rfl, Nat.le_of_ble_eq_true rfl⟩ ⟨Nat.le_of_ble_eq_true rfl, Nat.le_of_ble_eq_true rfl⟩ rfl hl.1 rfl (Nat.le_of_ble_eq_true rfl) dX12_span_1 (fun z_1 hz_1 => ?_)
  rcases hz_1 with ⟨qz_1, hz_1⟩ | ⟨qz_1, hz_1⟩
  ·
    subst qz_1
    refine lv_if_ne (tgt := 13) hx hb dX12_span_4 rfl (fun _ => ?_) (fun c => absurd c (by decide))
    refine lv_iconst (v := iZ 0) hx hb dX12_span_13 rfl ?_
    refine lv_istore_n (lv' := [(2, .int (iZ 0)), (0, .ref hm), (1, .int (iZ x1))]) hx hb dX12_span_14 rfl hl (bl rfl) rfl (fun ls hl => ?_)
    refine lv_iconst (v := iZ 0) hx hb dX12_span_15 rfl ?_
    refine lv_istore_n (lv' := [(3, .int (iZ 0)), (2, .int (iZ 0)), (0, .ref hm), (1, .int (iZ x1))]) hx hb dX12_span_16 rfl hl (bl rfl) rfl (fun ls hl => ?_)
    have HL17 : ∀ (fu : Nat) (v2_17 : Int) (v3_17 : Int) (H : Heap) (locs : List Loc) (ls : Array Slot), ((gz Af 0) + 2 - v3_17) < (fu : Int) → ((0 ≤ v3_17 ∧ v3_17 ≤ (gz Af 0) + 1)) → (0 ≤ v2_17 ∧ v2_17 ≤ 20) → (isSr (sh Af 10) x1 (gz Af 0) v3_17 0 v2_17) → (v3_17 ≤ (gz Af 0)) → va_P D vwCl [(hm, .inr (12, [.ref Ma, .ref Mn, .int (iZ Mst), .long Mtp, .long Mbt, .ref Ms, .ref My, .ref Mt, .ref Mp, .ref Mx, .int (iZ Mtd), .int (iZ Msz), .int (iZ Mtk), .int (iZ Mfr), .int (iZ Men), .int (iZ Mva), .int (iZ Mfk), .int (iZ Mfp), .int (iZ Mfs), .int (iZ Mse), .int (iZ Mlt), .ref Mo, .int (iZ Mdp), .int (iZ Mct), .ref Mk, .ref Ml, .ref Mb, .ref Mh, .ref Mc, .int (iZ Mdr), .int (iZ Mrs), .ref Mz, .ref Mr, .ref Mq, .int (iZ Mit), .int (iZ Mmk)])), (Ma, .inl (k 1, 5340, .inl Af))] H → va_D A [(hm, .inr (12, [.ref Ma, .ref Mn, .int (iZ Mst), .long Mtp, .long Mbt, .ref Ms, .ref My, .ref Mt, .ref Mp, .ref Mx, .int (iZ Mtd), .int (iZ Msz), .int (iZ Mtk), .int (iZ Mfr), .int (iZ Men), .int (iZ Mva), .int (iZ Mfk), .int (iZ Mfp), .int (iZ Mfs), .int (iZ Mse), .int (iZ Mlt), .ref Mo, .int (iZ Mdp), .int (iZ Mct), .ref Mk, .ref Ml, .ref Mb, .ref Mh, .ref Mc, .int (iZ Mdr), .int (iZ Mrs), .ref Mz, .ref Mr, .ref Mq, .int (iZ Mit), .int (iZ Mmk)])), (Ma, .inl (k 1, 5340, .inl Af))] → va_S A s.heap H locs → lv_has ls 5 [(3, .int (iZ v3_17)), (2, .int (iZ v2_17)), (0, .ref hm), (1, .int (iZ x1))] → W p l e (rj 3 0 0) s m [.ref hm, .int (iZ x1)].toArray below meth c H locs 0 0 (MQ below (QW (σ := ((Int × Int) × (Int64) × (Unit) × (Unit))) (fun u => some (.int (iZ u.1.1))) (fun u => (((0 ≤ x1 ∧ x1 ≤ 500)) ∧ (isSr (sh Af 10) x1 (gz Af 0) (gz Af 0) 0 u.1.1 ∧ 0 ≤ (u.1.1 : Int))) ∨ (¬ ((0 ≤ x1 ∧ x1 ≤ 500)) ∧ (u.1.1 : Int) = -1)) (fun u => [(hm, .inr (12, [.ref Ma, .ref Mn, .int (iZ u.1.2), .long Mtp, .long Mbt, .ref Ms, .ref My, .ref Mt, .ref Mp, .ref Mx, .int (iZ Mtd), .int (iZ Msz), .int (iZ Mtk), .int (iZ Mfr), .int (iZ Men), .int (iZ Mva), .int (iZ Mfk), .int (iZ Mfp), .int (iZ Mfs), .int (iZ Mse), .int (iZ Mlt), .ref Mo, .int (iZ Mdp), .int (iZ Mct), .ref Mk, .ref Ml, .ref Mb, .ref Mh, .ref Mc, .int (iZ Mdr), .int (iZ Mrs), .ref Mz, .ref Mr, .ref Mq, .int (iZ Mit), .int (iZ Mmk)])), (Ma, .inl (k 1, 5340, .inl Af))]) D A) [.ref hm, .int (iZ x1)].toArray s 0 0 A) (F0 m 17 ls []) := by
      intro fu
      induction fu with
      | zero => intro v2_17 v3_17 H locs ls hμ17 hi17 hf0_17 hs1 hbn hP hD hS hl; exact absurd hμ17 (by omega)
      | succ fu ih17 =>
        intro v2_17 v3_17 H locs ls hμ17 hi17 hf0_17 hs1 hbn hP hD hS hl
        refine lv_iload_n hx hb dX12_span_17 rfl (lv_at hl 0 rfl) ?_
        refine lv_aload_n hx hb dX12_span_18 rfl (lv_at hl 2 rfl) ?_
        refine va_get (D := D) (ci := 12) (v := .ref Ma) (C := RX12) (T := TX12) (N := 36) hx hb hts iX12 hown hK hP 0 rfl rfl 0 (bl rfl) (hts _ qf_X12_7) (fun _ h => h) rfl dX12_span_19 ?_
        refine lv_iconst (v := iZ 0) hx hb dX12_span_22 rfl ?_
        refine va_iald hx hb hK hP 1 1 rfl rfl (zin (e := 0) (n := 5340) ⟨by omega, by omega⟩ (bl rfl)) dX12_span_23 ?_
        refine lv_topi (fun x_3 ex_3 => ?_)
        obtain rfl : x_3 = iZ (gz Af 0) := ex_3.trans (gz_eq ⟨by omega, by omega⟩)
        have h_4 := gz_rg Af 0
        refine lv_icmp_ge (tgt := 62) hx hb dX12_span_24 rfl (fun c_5 => ?_) (fun c_5 => ?_)
        ·
          have c_5 := (zle (x := iZ (gz Af 0)) (y := iZ v3_17) rfl rfl (gz_rg Af 0) ⟨by omega, by omega⟩).mp c_5
          refine lv_aload_n hx hb dX12_span_62 rfl (lv_at hl 2 rfl) ?_
          refine lv_iload_n hx hb dX12_span_63 rfl (lv_at hl 1 rfl) ?_
          refine CWV (As := [.int (iZ v2_17)]) (rest := []) (wc := _) (wr := [(Ma, .inl (k 1, 5340, .inl Af))]) hx hb hml hown hts hKK hP hD hS hA (m_gives l D k hm Ma Mn Ms My Mt Mp Mx Mo Mk Ml Mb Mh Mc Mz Mr Mq Mst Mtd Msz Mtk Mfr Men Mva Mfk Mfp Mfs Mse Mlt Mdp Mct Mdr Mrs Mit Mmk Mtp Mbt v2_17) ci_X12_gives qm_X12_85 ⟨Nat.le_of_ble_eq_true rfl, Nat.le_of_ble_eq_true rfl⟩ ⟨Nat.le_of_ble_eq_true rfl, Nat.le_of_ble_eq_true rfl⟩ [0] [1] rfl rfl rfl rfl rfl (dj rfl) 0 rfl rfl rfl hl.1 rfl (Nat.le_of_ble_eq_true rfl) dX12_span_64 (fun u_6 H locs hφ hP hD hS => ?_)
          refine W.eq (g2 := F0 m 67 ls [.int (iZ v2_17)]) rfl ?_
          exact EWi hx hb hr hlocks hS ((v2_17, 0), 0, (), ()) rfl (show (((0 ≤ x1 ∧ x1 ≤ 500)) ∧ (isSr (sh Af 10) x1 (gz Af 0) (gz Af 0) 0 v2_17 ∧ 0 ≤ (v2_17 : Int))) ∨ (¬ ((0 ≤ x1 ∧ x1 ≤ 500)) ∧ (v2_17 : Int) = -1) from (Or.inl ⟨by omega, isSr_n hs1 (by omega), by omega⟩)) (hP.sub [1, 0] rfl) (hD.sub [1, 0] rfl rfl) dX12_span_67
        ·
          have c_5 := mt (zle (x := iZ (gz Af 0)) (y := iZ v3_17) rfl rfl (gz_rg Af 0) ⟨by omega, by omega⟩).mpr c_5
          refine lv_iconst (v := iZ 0) hx hb dX12_span_27 rfl ?_
          refine lv_istore (lv' := [(4, .int (iZ 0)), (3, .int (iZ v3_17)), (2, .int (iZ v2_17)), (0, .ref hm), (1, .int (iZ x1))]) hx hb dX12_span_28 hl (bl rfl) rfl (fun ls hl => ?_)
          have HL30 : ∀ (fu : Nat) (v2_30 : Int) (v4_30 : Int) (H : Heap) (locs : List Loc) (ls : Array Slot), ((gz Af 0) + 2 - v4_30) < (fu : Int) → ((0 ≤ v4_30 ∧ v4_30 ≤ (gz Af 0) + 1)) → (0 ≤ v2_30 ∧ v2_30 ≤ 20) → (0 ≤ v3_17 ∧ v3_17 < gz Af 0) → (isSr (sh Af 10) x1 (gz Af 0) v3_17 v4_30 v2_30) → va_P D vwCl [(hm, .inr (12, [.ref Ma, .ref Mn, .int (iZ Mst), .long Mtp, .long Mbt, .ref Ms, .ref My, .ref Mt, .ref Mp, .ref Mx, .int (iZ Mtd), .int (iZ Msz), .int (iZ Mtk), .int (iZ Mfr), .int (iZ Men), .int (iZ Mva), .int (iZ Mfk), .int (iZ Mfp), .int (iZ Mfs), .int (iZ Mse), .int (iZ Mlt), .ref Mo, .int (iZ Mdp), .int (iZ Mct), .ref Mk, .ref Ml, .ref Mb, .ref Mh, .ref Mc, .int (iZ Mdr), .int (iZ Mrs), .ref Mz, .ref Mr, .ref Mq, .int (iZ Mit), .int (iZ Mmk)])), (Ma, .inl (k 1, 5340, .inl Af))] H → va_D A [(hm, .inr (12, [.ref Ma, .ref Mn, .int (iZ Mst), .long Mtp, .long Mbt, .ref Ms, .ref My, .ref Mt, .ref Mp, .ref Mx, .int (iZ Mtd), .int (iZ Msz), .int (iZ Mtk), .int (iZ Mfr), .int (iZ Men), .int (iZ Mva), .int (iZ Mfk), .int (iZ Mfp), .int (iZ Mfs), .int (iZ Mse), .int (iZ Mlt), .ref Mo, .int (iZ Mdp), .int (iZ Mct), .ref Mk, .ref Ml, .ref Mb, .ref Mh, .ref Mc, .int (iZ Mdr), .int (iZ Mrs), .ref Mz, .ref Mr, .ref Mq, .int (iZ Mit), .int (iZ Mmk)])), (Ma, .inl (k 1, 5340, .inl Af))] → va_S A s.heap H locs → lv_has ls 5 [(4, .int (iZ v4_30)), (3, .int (iZ v3_17)), (2, .int (iZ v2_30)), (0, .ref hm), (1, .int (iZ x1))] → W p l e (rj 3 0 0) s m [.ref hm, .int (iZ x1)].toArray below meth c H locs 0 0 (MQ below (QW (σ := ((Int × Int) × (Int64) × (Unit) × (Unit))) (fun u => some (.int (iZ u.1.1))) (fun u => (((0 ≤ x1 ∧ x1 ≤ 500)) ∧ (isSr (sh Af 10) x1 (gz Af 0) (gz Af 0) 0 u.1.1 ∧ 0 ≤ (u.1.1 : Int))) ∨ (¬ ((0 ≤ x1 ∧ x1 ≤ 500)) ∧ (u.1.1 : Int) = -1)) (fun u => [(hm, .inr (12, [.ref Ma, .ref Mn, .int (iZ u.1.2), .long Mtp, .long Mbt, .ref Ms, .ref My, .ref Mt, .ref Mp, .ref Mx, .int (iZ Mtd), .int (iZ Msz), .int (iZ Mtk), .int (iZ Mfr), .int (iZ Men), .int (iZ Mva), .int (iZ Mfk), .int (iZ Mfp), .int (iZ Mfs), .int (iZ Mse), .int (iZ Mlt), .ref Mo, .int (iZ Mdp), .int (iZ Mct), .ref Mk, .ref Ml, .ref Mb, .ref Mh, .ref Mc, .int (iZ Mdr), .int (iZ Mrs), .ref Mz, .ref Mr, .ref Mq, .int (iZ Mit), .int (iZ Mmk)])), (Ma, .inl (k 1, 5340, .inl Af))]) D A) [.ref hm, .int (iZ x1)].toArray s 0 0 A) (F0 m 30 ls []) := by
            intro fu
            induction fu with
            | zero => intro v2_30 v4_30 H locs ls hμ30 hi30 hf0_30 hf1_30 hs2 hP hD hS hl; exact absurd hμ30 (by omega)
            | succ fu ih30 =>
              intro v2_30 v4_30 H locs ls hμ30 hi30 hf0_30 hf1_30 hs2 hP hD hS hl
              refine lv_iload hx hb dX12_span_30 (lv_at hl 0 rfl) ?_
              refine lv_iload_n hx hb dX12_span_32 rfl (lv_at hl 1 rfl) ?_
              refine lv_icmp_ge (tgt := 56) hx hb dX12_span_33 rfl (fun c_7 => ?_) (fun c_7 => ?_)
              ·
                have c_7 := (zle (x := iZ v3_17) (y := iZ v4_30) rfl rfl ⟨by omega, by omega⟩ ⟨by omega, by omega⟩).mp c_7
                refine lv_iinc (v := iZ (v3_17 + 1)) (lv' := [(3, .int (iZ (v3_17 + 1))), (4, .int (iZ v4_30)), (2, .int (iZ v2_30)), (0, .ref hm), (1, .int (iZ x1))]) hx hb dX12_span_56 hl (k := 1) rfl (iZ_add v3_17 1) (by decide) rfl (fun ls hl => ?_)
                refine lv_goto (tgt := 17) hx hb dX12_span_59 rfl ?_
                exact ih17  v2_30 (v3_17 + 1) _ _ _ (by omega) (show (0 ≤ (v3_17 + 1) ∧ (v3_17 + 1) ≤ (gz Af 0) + 1) from ⟨by omega, by omega⟩) (show 0 ≤ v2_30 ∧ v2_30 ≤ 20 from (by omega)) (show isSr (sh Af 10) x1 (gz Af 0) (v3_17 + 1) 0 v2_30 from (isSr_o hs2 (by omega))) (show (v3_17 + 1) ≤ (gz Af 0) from (by omega)) (hP.sub [0, 1] rfl) (hD.sub [0, 1] rfl rfl) hS (lv_sub hl [0, 2, 3, 4] rfl)
              ·
                have c_7 := mt (zle (x := iZ v3_17) (y := iZ v4_30) rfl rfl ⟨by omega, by omega⟩ ⟨by omega, by omega⟩).mpr c_7
                refine lv_iload_n hx hb dX12_span_36 rfl (lv_at hl 2 rfl) ?_
                refine lv_aload_n hx hb dX12_span_37 rfl (lv_at hl 3 rfl) ?_
                refine lv_iload_n hx hb dX12_span_38 rfl (lv_at hl 1 rfl) ?_
                refine lv_iload_n hx hb dX12_span_39 rfl (lv_at hl 4 rfl) ?_
                refine lv_iload hx hb dX12_span_40 (lv_at hl 0 rfl) ?_
                refine lv_iload_n hx hb dX12_span_42 rfl (lv_at hl 4 rfl) ?_
                refine CRV (As := [.int (iZ v3_17), .int (iZ x1), .int (iZ v4_30), .int (iZ x1)]) (rest := [.int (iZ v2_30)]) hx hb hml hown hts hKK hP (m_light l D k ([.ref Ma, .ref Mn, .int (iZ Mst), .long Mtp, .long Mbt, .ref Ms, .ref My, .ref Mt, .ref Mp, .ref Mx, .int (iZ Mtd), .int (iZ Msz), .int (iZ Mtk), .int (iZ Mfr), .int (iZ Men), .int (iZ Mva), .int (iZ Mfk), .int (iZ Mfp), .int (iZ Mfs), .int (iZ Mse), .int (iZ Mlt), .ref Mo, .int (iZ Mdp), .int (iZ Mct), .ref Mk, .ref Ml, .ref Mb, .ref Mh, .ref Mc, .int (iZ Mdr), .int (iZ Mrs), .ref Mz, .ref Mr, .ref Mq, .int (iZ Mit), .int (iZ Mmk)]) hm Ma Af v3_17 x1 v4_30 x1 rfl hM ⟨by omega, by omega⟩ ⟨by omega, by omega⟩ ⟨by omega, by omega⟩ ⟨by omega, by omega⟩) ci_X12_lightOf qm_X12_261 ⟨Nat.le_of_ble_eq_true rfl, Nat.le_of_ble_eq_true rfl⟩ ⟨Nat.le_of_ble_eq_true rfl, Nat.le_of_ble_eq_true rfl⟩ 0 rfl rfl rfl hl.1 rfl (Nat.le_of_ble_eq_true rfl) dX12_span_43 ?_
                have hl_h_8 := lt_rg (f := (sh Af 10)) (a := v3_17) (w := x1) (b := v4_30) (t := x1) hM.2.2.2.2.2.1 ⟨by omega, by omega⟩ ⟨by omega, by omega⟩
                refine va_mmax (rest := []) hx hb (by rw [hml]; exact hl.1.symm) (own := RX12) hown (hts _ qm_X12_255) (hts _ qt_yJ9_max_7cf53) (hts _ qz_J9) (hts _ qc_J9_max_7cf53) (Nat.le_of_ble_eq_true rfl) (Nat.le_of_ble_eq_true rfl) (Nat.le_of_ble_eq_true rfl) (Nat.le_of_ble_eq_true rfl) dX12_span_46 ?_
                refine lv_topi (fun x_9 ex_9 => ?_)
                obtain rfl : x_9 = iZ (max v2_30 (lt (sh Af 10) v3_17 x1 v4_30 x1)) := ex_9.trans (zmax ⟨by omega, by omega⟩ ⟨by omega, by omega⟩)
                refine lv_istore_n (lv' := [(2, .int (iZ (max v2_30 (lt (sh Af 10) v3_17 x1 v4_30 x1)))), (4, .int (iZ v4_30)), (3, .int (iZ v3_17)), (0, .ref hm), (1, .int (iZ x1))]) hx hb dX12_span_49 rfl hl (bl rfl) rfl (fun ls hl => ?_)
                refine lv_iinc (v := iZ (v4_30 + 1)) (lv' := [(4, .int (iZ (v4_30 + 1))), (2, .int (iZ (max v2_30 (lt (sh Af 10) v3_17 x1 v4_30 x1)))), (3, .int (iZ v3_17)), (0, .ref hm), (1, .int (iZ x1))]) hx hb dX12_span_50 hl (k := 1) rfl (iZ_add v4_30 1) (by decide) rfl (fun ls hl => ?_)
                refine lv_goto (tgt := 30) hx hb dX12_span_53 rfl ?_
                exact ih30  (max v2_30 (lt (sh Af 10) v3_17 x1 v4_30 x1)) (v4_30 + 1) _ _ _ (by omega) (show (0 ≤ (v4_30 + 1) ∧ (v4_30 + 1) ≤ (gz Af 0) + 1) from ⟨by omega, by omega⟩) (show 0 ≤ (max v2_30 (lt (sh Af 10) v3_17 x1 v4_30 x1)) ∧ (max v2_30 (lt (sh Af 10) v3_17 x1 v4_30 x1)) ≤ 20 from (by omega)) (show 0 ≤ v3_17 ∧ v3_17 < gz Af 0 from (by omega)) (show isSr (sh Af 10) x1 (gz Af 0) v3_17 (v4_30 + 1) (max v2_30 (lt (sh Af 10) v3_17 x1 v4_30 x1)) from (isSr_s hs2 ⟨by omega, by omega, by omega⟩)) (hP.sub [0, 1] rfl) (hD.sub [0, 1] rfl rfl) hS (lv_sub hl [0, 2, 1, 3, 4] rfl)
          exact HL30 9 v2_17 0 _ _ _ (by omega) (show (0 ≤ 0 ∧ 0 ≤ (gz Af 0) + 1) from ⟨by omega, by omega⟩) (show 0 ≤ v2_17 ∧ v2_17 ≤ 20 from (by omega)) (show 0 ≤ v3_17 ∧ v3_17 < gz Af 0 from (by omega)) (show isSr (sh Af 10) x1 (gz Af 0) v3_17 0 v2_17 from hs1) (hP.sub [0, 1] rfl) (hD.sub [0, 1] rfl rfl) hS (lv_sub hl [0, 1, 2, 3, 4] rfl)
    exact HL17 9 0 0 _ _ _ (by omega) (show (0 ≤ 0 ∧ 0 ≤ (gz Af 0) + 1) from ⟨by omega, by omega⟩) (show 0 ≤ 0 ∧ 0 ≤ 20 from (by omega)) (show isSr (sh Af 10) x1 (gz Af 0) 0 0 0 from isSr_0) (show 0 ≤ (gz Af 0) from (by omega)) (hP.sub [0, 1] rfl) (hD.sub [0, 1] rfl rfl) hS (lv_sub hl [0, 1, 2, 3] rfl)
  ·
    subst qz_1
    refine lv_if_ne (tgt := 13) hx hb dX12_span_4 rfl (fun c => absurd (by decide) c) (fun _ => ?_)
    refine lv_aload_n hx hb dX12_span_7 rfl (lv_at hl 0 rfl) ?_
    refine lv_iconst (v := iZ 1) hx hb dX12_span_8 rfl ?_
    refine CWV (As := [.int (iZ 1)]) (rest := []) (wc := _) (wr := [(Ma, .inl (k 1, 5340, .inl Af))]) hx hb hml hown hts hKK hP hD hS hA (m_refuse l D k hm Ma Mn Ms My Mt Mp Mx Mo Mk Ml Mb Mh Mc Mz Mr Mq Mst Mtd Msz Mtk Mfr Men Mva Mfk Mfp Mfs Mse Mlt Mdp Mct Mdr Mrs Mit Mmk Mtp Mbt 1) ci_X12_refuse qm_X12_81 ⟨Nat.le_of_ble_eq_true rfl, Nat.le_of_ble_eq_true rfl⟩ ⟨Nat.le_of_ble_eq_true rfl, Nat.le_of_ble_eq_true rfl⟩ [0] [1] rfl rfl rfl rfl rfl (dj rfl) 0 rfl rfl rfl hl.1 rfl (Nat.le_of_ble_eq_true rfl) dX12_span_9 (fun u_11 H locs hφ hP hD hS => ?_)
    refine W.eq (g2 := F0 m 12 ls [.int (iZ (-1))]) rfl ?_
    exact EWi hx hb hr hlocks hS (((-1), 1), 0, (), ()) rfl (show (((0 ≤ x1 ∧ x1 ≤ 500)) ∧ (isSr (sh Af 10) x1 (gz Af 0) (gz Af 0) 0 (-1) ∧ 0 ≤ ((-1) : Int))) ∨ (¬ ((0 ≤ x1 ∧ x1 ≤ 500)) ∧ ((-1) : Int) = -1) from (Or.inr ⟨by omega, rfl⟩)) (hP.sub [1, 0] rfl) (hD.sub [1, 0] rfl rfl) dX12_span_12
set_option maxHeartbeats 4000000 in
set_option maxRecDepth 100000 in
theorem q_stale (l : Launch) (D : va_G) (k : Nat → ClassId) (hm : Nat) (Ma : Nat) (Mn : Nat) (Ms : Nat) (My : Nat) (Mt : Nat) (Mp : Nat) (Mx : Nat) (Mo : Nat) (Mk : Nat) (Ml : Nat) (Mb : Nat) (Mh : Nat) (Mc : Nat) (Mz : Nat) (Mr : Nat) (Mq : Nat) (Mst : Int) (Mtd : Int) (Msz : Int) (Mtk : Int) (Mfr : Int) (Men : Int) (Mva : Int) (Mfk : Int) (Mfp : Int) (Mfs : Int) (Mse : Int) (Mlt : Int) (Mdp : Int) (Mct : Int) (Mdr : Int) (Mrs : Int) (Mit : Int) (Mmk : Int) (Mtp : Int64) (Mbt : Int64) (Af : Nat → Int32) (x1 : Int) (x2 : Int) (x3 : Int) (hM : M0 Af) (h9x1 : -2147483648 ≤ x1 ∧ x1 < 2147483648) (h9x2 : -2147483648 ≤ x2 ∧ x2 < 2147483648) (h9x3 : -2147483648 ≤ x3 ∧ x3 < 2147483648) : WD (σ := ((Int × Int) × (Int64) × (Unit) × (Unit))) l yX12_stale cX12_stale 5 (some .int) 6 0 0 D k [.ref hm, .int (iZ x1), .int (iZ x2), .int (iZ x3)] [(hm, .inr (12, [.ref Ma, .ref Mn, .int (iZ Mst), .long Mtp, .long Mbt, .ref Ms, .ref My, .ref Mt, .ref Mp, .ref Mx, .int (iZ Mtd), .int (iZ Msz), .int (iZ Mtk), .int (iZ Mfr), .int (iZ Men), .int (iZ Mva), .int (iZ Mfk), .int (iZ Mfp), .int (iZ Mfs), .int (iZ Mse), .int (iZ Mlt), .ref Mo, .int (iZ Mdp), .int (iZ Mct), .ref Mk, .ref Ml, .ref Mb, .ref Mh, .ref Mc, .int (iZ Mdr), .int (iZ Mrs), .ref Mz, .ref Mr, .ref Mq, .int (iZ Mit), .int (iZ Mmk)])), (Ma, .inl (k 1, 5340, .inl Af))] (fun u => some (.int (iZ u.1.1))) (fun u => (((0 ≤ x1 ∧ x1 < (gz Af 0)) ∧ (0 ≤ x2 ∧ x2 < (gz Af 0)) ∧ (0 ≤ x3 ∧ x3 ≤ 400)) ∧ ((snF (sh Af 10) (sh Af 46) (gz Af 1) x1 x2 x3 = -1 ∧ (u.1.1 : Int) = -1) ∨ (¬ snF (sh Af 10) (sh Af 46) (gz Af 1) x1 x2 x3 = -1 ∧ (u.1.1 : Int) = x3 - snF (sh Af 10) (sh Af 46) (gz Af 1) x1 x2 x3))) ∨ (¬ ((0 ≤ x1 ∧ x1 < (gz Af 0)) ∧ (0 ≤ x2 ∧ x2 < (gz Af 0)) ∧ (0 ≤ x3 ∧ x3 ≤ 400)) ∧ (u.1.1 : Int) = -1)) (fun u => [(hm, .inr (12, [.ref Ma, .ref Mn, .int (iZ u.1.2), .long Mtp, .long Mbt, .ref Ms, .ref My, .ref Mt, .ref Mp, .ref Mx, .int (iZ Mtd), .int (iZ Msz), .int (iZ Mtk), .int (iZ Mfr), .int (iZ Men), .int (iZ Mva), .int (iZ Mfk), .int (iZ Mfp), .int (iZ Mfs), .int (iZ Mse), .int (iZ Mlt), .ref Mo, .int (iZ Mdp), .int (iZ Mct), .ref Mk, .ref Ml, .ref Mb, .ref Mh, .ref Mc, .int (iZ Mdr), .int (iZ Mrs), .ref Mz, .ref Mr, .ref Mq, .int (iZ Mit), .int (iZ Mmk)])), (Ma, .inl (k 1, 5340, .inl Af))]) := by
  refine MW (by decide) (Nat.le_of_ble_eq_true rfl) (fun p e s m below meth c ls A hx hb hml hr hlocks hin hts hown hKK hP hD hS hA hl => ?_)
  have hK := hKK.1
  have hl : lv_has ls 5 [(0, .ref hm), (1, .int (iZ x1)), (2, .int (iZ x2)), (3, .int (iZ x3))] := hl
  obtain ⟨m0, m1, m3, m4, m5, mF, mO, mS⟩ := id hM
  refine lv_aload_n hx hb dX12_stale_0 rfl (lv_at hl 0 rfl) ?_
  refine lv_iload_n hx hb dX12_stale_1 rfl (lv_at hl 1 rfl) ?_
  refine lv_iload_n hx hb dX12_stale_2 rfl (lv_at hl 3 rfl) ?_
  refine lv_iload_n hx hb dX12_stale_3 rfl (lv_at hl 2 rfl) ?_
  refine CPV (As := [.int (iZ x1), .int (iZ x3), .int (iZ x2)]) (rest := []) hx hb hml hown hts hKK hP (m_isSent l D k ([.ref Ma, .ref Mn, .int (iZ Mst), .long Mtp, .long Mbt, .ref Ms, .ref My, .ref Mt, .ref Mp, .ref Mx, .int (iZ Mtd), .int (iZ Msz), .int (iZ Mtk), .int (iZ Mfr), .int (iZ Men), .int (iZ Mva), .int (iZ Mfk), .int (iZ Mfp), .int (iZ Mfs), .int (iZ Mse), .int (iZ Mlt), .ref Mo, .int (iZ Mdp), .int (iZ Mct), .ref Mk, .ref Ml, .ref Mb, .ref Mh, .ref Mc, .int (iZ Mdr), .int (iZ Mrs), .ref Mz, .ref Mr, .ref Mq, .int (iZ Mit), .int (iZ Mmk)]) hm Ma Af x1 x3 x2 rfl hM ⟨by omega, by omega⟩ ⟨by omega, by omega⟩ ⟨by omega, by omega⟩) ci_X12_isSent qm_X12_277 ⟨Nat.le_of_ble_eq_true rfl, Nat.le_of_ble_eq_true rfl⟩ ⟨Nat.le_of_ble_eq_true rfl, Nat.le_of_ble_eq_true rfl⟩ 0 rfl rfl rfl hl.1 rfl (Nat.le_of_ble_eq_true rfl) dX12_stale_4 (fun z_1 hz_1 => ?_)
  rcases hz_1 with ⟨qz_1, hz_1⟩ | ⟨qz_1, hz_1⟩
  ·
    subst qz_1
    refine lv_if_ne (tgt := 16) hx hb dX12_stale_7 rfl (fun _ => ?_) (fun c => absurd c (by decide))
    refine lv_aload_n hx hb dX12_stale_16 rfl (lv_at hl 0 rfl) ?_
    refine lv_iload_n hx hb dX12_stale_17 rfl (lv_at hl 1 rfl) ?_
    refine lv_iload_n hx hb dX12_stale_18 rfl (lv_at hl 2 rfl) ?_
    refine lv_iload_n hx hb dX12_stale_19 rfl (lv_at hl 3 rfl) ?_
    refine CPV (As := [.int (iZ x1), .int (iZ x2), .int (iZ x3)]) (rest := []) hx hb hml hown hts hKK hP (m_seen l D k ([.ref Ma, .ref Mn, .int (iZ Mst), .long Mtp, .long Mbt, .ref Ms, .ref My, .ref Mt, .ref Mp, .ref Mx, .int (iZ Mtd), .int (iZ Msz), .int (iZ Mtk), .int (iZ Mfr), .int (iZ Men), .int (iZ Mva), .int (iZ Mfk), .int (iZ Mfp), .int (iZ Mfs), .int (iZ Mse), .int (iZ Mlt), .ref Mo, .int (iZ Mdp), .int (iZ Mct), .ref Mk, .ref Ml, .ref Mb, .ref Mh, .ref Mc, .int (iZ Mdr), .int (iZ Mrs), .ref Mz, .ref Mr, .ref Mq, .int (iZ Mit), .int (iZ Mmk)]) hm Ma Af x1 x2 x3 rfl hM ⟨by omega, by omega⟩ ⟨by omega, by omega⟩ ⟨by omega, by omega⟩) ci_X12_seenBy qm_X12_287 ⟨Nat.le_of_ble_eq_true rfl, Nat.le_of_ble_eq_true rfl⟩ ⟨Nat.le_of_ble_eq_true rfl, Nat.le_of_ble_eq_true rfl⟩ 0 rfl rfl rfl hl.1 rfl (Nat.le_of_ble_eq_true rfl) dX12_stale_20 (fun z_3 hz_3 => ?_)
    obtain ⟨ez_3, az_3⟩ := hz_3
    refine lv_istore (lv' := [(4, .int (iZ z_3)), (0, .ref hm), (1, .int (iZ x1)), (2, .int (iZ x2)), (3, .int (iZ x3))]) hx hb dX12_stale_23 hl (bl rfl) rfl (fun ls hl => ?_)
    refine lv_iload hx hb dX12_stale_25 (lv_at hl 0 rfl) ?_
    refine lv_iconst (v := iZ (-1)) hx hb dX12_stale_27 rfl ?_
    refine lv_icmp_ne (tgt := 40) hx hb dX12_stale_28 rfl (fun c_4 => ?_) (fun c_4 => ?_)
    ·
      have c_4 := mt (zeq (x := iZ z_3) (y := iZ (-1)) rfl rfl ⟨by omega, by omega⟩ wn_m1).mpr c_4
      refine lv_aload_n hx hb dX12_stale_40 rfl (lv_at hl 1 rfl) ?_
      refine lv_iload_n hx hb dX12_stale_41 rfl (lv_at hl 4 rfl) ?_
      refine lv_iload hx hb dX12_stale_42 (lv_at hl 0 rfl) ?_
      refine lv_isub hx hb dX12_stale_44 ?_
      refine lv_topi (fun x_5 ex_5 => ?_)
      obtain rfl : x_5 = iZ (x3 - z_3) := ex_5.trans (iZ_sub x3 z_3)
      refine CWV (As := [.int (iZ (x3 - z_3))]) (rest := []) (wc := _) (wr := [(Ma, .inl (k 1, 5340, .inl Af))]) hx hb hml hown hts hKK hP hD hS hA (m_gives l D k hm Ma Mn Ms My Mt Mp Mx Mo Mk Ml Mb Mh Mc Mz Mr Mq Mst Mtd Msz Mtk Mfr Men Mva Mfk Mfp Mfs Mse Mlt Mdp Mct Mdr Mrs Mit Mmk Mtp Mbt (x3 - z_3)) ci_X12_gives qm_X12_85 ⟨Nat.le_of_ble_eq_true rfl, Nat.le_of_ble_eq_true rfl⟩ ⟨Nat.le_of_ble_eq_true rfl, Nat.le_of_ble_eq_true rfl⟩ [0] [1] rfl rfl rfl rfl rfl (dj rfl) 0 rfl rfl rfl hl.1 rfl (Nat.le_of_ble_eq_true rfl) dX12_stale_45 (fun u_6 H locs hφ hP hD hS => ?_)
      refine W.eq (g2 := F0 m 48 ls [.int (iZ (x3 - z_3))]) rfl ?_
      exact EWi hx hb hr hlocks hS (((x3 - z_3), 0), 0, (), ()) rfl (show (((0 ≤ x1 ∧ x1 < (gz Af 0)) ∧ (0 ≤ x2 ∧ x2 < (gz Af 0)) ∧ (0 ≤ x3 ∧ x3 ≤ 400)) ∧ ((snF (sh Af 10) (sh Af 46) (gz Af 1) x1 x2 x3 = -1 ∧ ((x3 - z_3) : Int) = -1) ∨ (¬ snF (sh Af 10) (sh Af 46) (gz Af 1) x1 x2 x3 = -1 ∧ ((x3 - z_3) : Int) = x3 - snF (sh Af 10) (sh Af 46) (gz Af 1) x1 x2 x3))) ∨ (¬ ((0 ≤ x1 ∧ x1 < (gz Af 0)) ∧ (0 ≤ x2 ∧ x2 < (gz Af 0)) ∧ (0 ≤ x3 ∧ x3 ≤ 400)) ∧ ((x3 - z_3) : Int) = -1) from (by omega)) (hP.sub [1, 0] rfl) (hD.sub [1, 0] rfl rfl) dX12_stale_48
    ·
      have c_4 := (zeq (x := iZ z_3) (y := iZ (-1)) rfl rfl ⟨by omega, by omega⟩ wn_m1).mp c_4
      refine lv_aload_n hx hb dX12_stale_31 rfl (lv_at hl 1 rfl) ?_
      refine lv_bipush (v := iZ 6) hx hb dX12_stale_32 bip_6 ?_
      refine CWV (As := [.int (iZ 6)]) (rest := []) (wc := _) (wr := [(Ma, .inl (k 1, 5340, .inl Af))]) hx hb hml hown hts hKK hP hD hS hA (m_refuse l D k hm Ma Mn Ms My Mt Mp Mx Mo Mk Ml Mb Mh Mc Mz Mr Mq Mst Mtd Msz Mtk Mfr Men Mva Mfk Mfp Mfs Mse Mlt Mdp Mct Mdr Mrs Mit Mmk Mtp Mbt 6) ci_X12_refuse qm_X12_81 ⟨Nat.le_of_ble_eq_true rfl, Nat.le_of_ble_eq_true rfl⟩ ⟨Nat.le_of_ble_eq_true rfl, Nat.le_of_ble_eq_true rfl⟩ [0] [1] rfl rfl rfl rfl rfl (dj rfl) 0 rfl rfl rfl hl.1 rfl (Nat.le_of_ble_eq_true rfl) dX12_stale_34 (fun u_7 H locs hφ hP hD hS => ?_)
      refine W.eq (g2 := F0 m 37 ls [.int (iZ (-1))]) rfl ?_
      refine lv_goto (tgt := 48) hx hb dX12_stale_37 rfl ?_
      exact EWi hx hb hr hlocks hS (((-1), 6), 0, (), ()) rfl (show (((0 ≤ x1 ∧ x1 < (gz Af 0)) ∧ (0 ≤ x2 ∧ x2 < (gz Af 0)) ∧ (0 ≤ x3 ∧ x3 ≤ 400)) ∧ ((snF (sh Af 10) (sh Af 46) (gz Af 1) x1 x2 x3 = -1 ∧ ((-1) : Int) = -1) ∨ (¬ snF (sh Af 10) (sh Af 46) (gz Af 1) x1 x2 x3 = -1 ∧ ((-1) : Int) = x3 - snF (sh Af 10) (sh Af 46) (gz Af 1) x1 x2 x3))) ∨ (¬ ((0 ≤ x1 ∧ x1 < (gz Af 0)) ∧ (0 ≤ x2 ∧ x2 < (gz Af 0)) ∧ (0 ≤ x3 ∧ x3 ≤ 400)) ∧ ((-1) : Int) = -1) from (by omega)) (hP.sub [1, 0] rfl) (hD.sub [1, 0] rfl rfl) dX12_stale_48
  ·
    subst qz_1
    refine lv_if_ne (tgt := 16) hx hb dX12_stale_7 rfl (fun c => absurd (by decide) c) (fun _ => ?_)
    refine lv_aload_n hx hb dX12_stale_10 rfl (lv_at hl 0 rfl) ?_
    refine lv_iconst (v := iZ 1) hx hb dX12_stale_11 rfl ?_
    refine CWV (As := [.int (iZ 1)]) (rest := []) (wc := _) (wr := [(Ma, .inl (k 1, 5340, .inl Af))]) hx hb hml hown hts hKK hP hD hS hA (m_refuse l D k hm Ma Mn Ms My Mt Mp Mx Mo Mk Ml Mb Mh Mc Mz Mr Mq Mst Mtd Msz Mtk Mfr Men Mva Mfk Mfp Mfs Mse Mlt Mdp Mct Mdr Mrs Mit Mmk Mtp Mbt 1) ci_X12_refuse qm_X12_81 ⟨Nat.le_of_ble_eq_true rfl, Nat.le_of_ble_eq_true rfl⟩ ⟨Nat.le_of_ble_eq_true rfl, Nat.le_of_ble_eq_true rfl⟩ [0] [1] rfl rfl rfl rfl rfl (dj rfl) 0 rfl rfl rfl hl.1 rfl (Nat.le_of_ble_eq_true rfl) dX12_stale_12 (fun u_9 H locs hφ hP hD hS => ?_)
    refine W.eq (g2 := F0 m 15 ls [.int (iZ (-1))]) rfl ?_
    exact EWi hx hb hr hlocks hS (((-1), 1), 0, (), ()) rfl (show (((0 ≤ x1 ∧ x1 < (gz Af 0)) ∧ (0 ≤ x2 ∧ x2 < (gz Af 0)) ∧ (0 ≤ x3 ∧ x3 ≤ 400)) ∧ ((snF (sh Af 10) (sh Af 46) (gz Af 1) x1 x2 x3 = -1 ∧ ((-1) : Int) = -1) ∨ (¬ snF (sh Af 10) (sh Af 46) (gz Af 1) x1 x2 x3 = -1 ∧ ((-1) : Int) = x3 - snF (sh Af 10) (sh Af 46) (gz Af 1) x1 x2 x3))) ∨ (¬ ((0 ≤ x1 ∧ x1 < (gz Af 0)) ∧ (0 ≤ x2 ∧ x2 < (gz Af 0)) ∧ (0 ≤ x3 ∧ x3 ≤ 400)) ∧ ((-1) : Int) = -1) from (by omega)) (hP.sub [1, 0] rfl) (hD.sub [1, 0] rfl rfl) dX12_stale_15
theorem tI64 {z : Int} (h : -2147483648 ≤ z ∧ z < 2147483648) : (iZ z).toInt64.toInt = z := by
  rw [Int32.toInt_toInt64, iZ_ti h]
set_option maxHeartbeats 4000000 in
set_option maxRecDepth 100000 in
theorem m_isFrom (l : Launch) (D : va_G) (k : Nat → ClassId) (a : Int64) (b : Int64) (c0 : Int64) : RP l yX12_isFrom cX12_isFrom 6 (some .boolean) 0 D k [.long a, .long b, .long c0] [] (fun z => (z = 1 ∧ (b.toInt ≤ a.toInt ∧ a.toInt ≤ c0.toInt)) ∨ (z = 0 ∧ ¬ (b.toInt ≤ a.toInt ∧ a.toInt ≤ c0.toInt))) := by
  refine MRP (by decide) (Nat.le_of_ble_eq_true rfl) (fun p e s m below meth c ls hx hb hml hr hlocks hts hown hKK hP hl => ?_)
  have hK := hKK.1
  have hl : lv_has ls 6 [(0, .long a), (2, .long b), (4, .long c0)] := hl
  refine lv_lload_n hx hb dX12_isFrom_0 rfl (lv_at hl 0 rfl) ?_
  refine lv_lload_n hx hb dX12_isFrom_1 rfl (lv_at hl 1 rfl) ?_
  refine W.lcmp hx hb dX12_isFrom_2 ?_
  refine lv_if_lt (tgt := 17) hx hb dX12_isFrom_3 rfl (fun c_1 => ?_) (fun c_1 => ?_)
  ·
    have c_1 := Int64.lt_iff_toInt_lt.mp ((lg_cmp_lt a b).mp c_1)
    refine lv_iconst (v := iZ 0) hx hb dX12_isFrom_17 rfl ?_
    exact EPz hx hb hr hlocks (by omega) (by omega) dX12_isFrom_18
  ·
    have c_1 := mt (fun h9 => (lg_cmp_lt a b).mpr (Int64.lt_iff_toInt_lt.mpr h9)) c_1
    refine lv_lload_n hx hb dX12_isFrom_6 rfl (lv_at hl 0 rfl) ?_
    refine lv_lload hx hb dX12_isFrom_7 (lv_at hl 2 rfl) ?_
    refine W.lcmp hx hb dX12_isFrom_9 ?_
    refine lv_if_gt (tgt := 17) hx hb dX12_isFrom_10 rfl (fun c_2 => ?_) (fun c_2 => ?_)
    ·
      have c_2 := Int64.lt_iff_toInt_lt.mp ((lg_cmp_gt a c0).mp c_2)
      refine lv_iconst (v := iZ 0) hx hb dX12_isFrom_17 rfl ?_
      exact EPz hx hb hr hlocks (by omega) (by omega) dX12_isFrom_18
    ·
      have c_2 := mt (fun h9 => (lg_cmp_gt a c0).mpr (Int64.lt_iff_toInt_lt.mpr h9)) c_2
      refine lv_iconst (v := iZ 1) hx hb dX12_isFrom_13 rfl ?_
      refine lv_goto (tgt := 18) hx hb dX12_isFrom_14 rfl ?_
      exact EPz hx hb hr hlocks (by omega) (by omega) dX12_isFrom_18
set_option maxHeartbeats 4000000 in
set_option maxRecDepth 100000 in
theorem q_closest (l : Launch) (D : va_G) (k : Nat → ClassId) (hm : Nat) (Ma : Nat) (Mn : Nat) (Ms : Nat) (My : Nat) (Mt : Nat) (Mp : Nat) (Mx : Nat) (Mo : Nat) (Mk : Nat) (Ml : Nat) (Mb : Nat) (Mh : Nat) (Mc : Nat) (Mz : Nat) (Mr : Nat) (Mq : Nat) (Mst : Int) (Mtd : Int) (Msz : Int) (Mtk : Int) (Mfr : Int) (Men : Int) (Mva : Int) (Mfk : Int) (Mfp : Int) (Mfs : Int) (Mse : Int) (Mlt : Int) (Mdp : Int) (Mct : Int) (Mdr : Int) (Mrs : Int) (Mit : Int) (Mmk : Int) (Mtp : Int64) (Mbt : Int64) (Af : Nat → Int32) (x1 : Int) (x2 : Int) (x3 : Int) (x4 : Int) (hM : M0 Af) (h9x1 : -2147483648 ≤ x1 ∧ x1 < 2147483648) (h9x2 : -2147483648 ≤ x2 ∧ x2 < 2147483648) (h9x3 : -2147483648 ≤ x3 ∧ x3 < 2147483648) (h9x4 : -2147483648 ≤ x4 ∧ x4 < 2147483648) : WD (σ := ((Int × Int) × (Int64) × (Unit) × (Unit))) l yX12_closest cX12_closest 6 (some .int) 3 0 0 D k [.ref hm, .int (iZ x1), .int (iZ x2), .int (iZ x3), .int (iZ x4)] [(hm, .inr (12, [.ref Ma, .ref Mn, .int (iZ Mst), .long Mtp, .long Mbt, .ref Ms, .ref My, .ref Mt, .ref Mp, .ref Mx, .int (iZ Mtd), .int (iZ Msz), .int (iZ Mtk), .int (iZ Mfr), .int (iZ Men), .int (iZ Mva), .int (iZ Mfk), .int (iZ Mfp), .int (iZ Mfs), .int (iZ Mse), .int (iZ Mlt), .ref Mo, .int (iZ Mdp), .int (iZ Mct), .ref Mk, .ref Ml, .ref Mb, .ref Mh, .ref Mc, .int (iZ Mdr), .int (iZ Mrs), .ref Mz, .ref Mr, .ref Mq, .int (iZ Mit), .int (iZ Mmk)])), (Ma, .inl (k 1, 5340, .inl Af))] (fun u => some (.int (iZ u.1.1))) (fun u => (((0 ≤ x1 ∧ x1 < (gz Af 0)) ∧ (0 ≤ x2 ∧ x2 < (gz Af 0)) ∧ ¬ x1 = x2 ∧ (0 ≤ x3 ∧ x3 ≤ 400) ∧ (0 ≤ x4 ∧ x4 ≤ 40)) ∧ isCs (sh Af 10) x1 x2 x3 x4 u.1.1) ∨ (¬ ((0 ≤ x1 ∧ x1 < (gz Af 0)) ∧ (0 ≤ x2 ∧ x2 < (gz Af 0)) ∧ ¬ x1 = x2 ∧ (0 ≤ x3 ∧ x3 ≤ 400) ∧ (0 ≤ x4 ∧ x4 ≤ 40)) ∧ (u.1.1 : Int) = -1)) (fun u => [(hm, .inr (12, [.ref Ma, .ref Mn, .int (iZ u.1.2), .long Mtp, .long Mbt, .ref Ms, .ref My, .ref Mt, .ref Mp, .ref Mx, .int (iZ Mtd), .int (iZ Msz), .int (iZ Mtk), .int (iZ Mfr), .int (iZ Men), .int (iZ Mva), .int (iZ Mfk), .int (iZ Mfp), .int (iZ Mfs), .int (iZ Mse), .int (iZ Mlt), .ref Mo, .int (iZ Mdp), .int (iZ Mct), .ref Mk, .ref Ml, .ref Mb, .ref Mh, .ref Mc, .int (iZ Mdr), .int (iZ Mrs), .ref Mz, .ref Mr, .ref Mq, .int (iZ Mit), .int (iZ Mmk)])), (Ma, .inl (k 1, 5340, .inl Af))]) := by
  refine MW (by decide) (Nat.le_of_ble_eq_true rfl) (fun p e s m below meth c ls A hx hb hml hr hlocks hin hts hown hKK hP hD hS hA hl => ?_)
  have hK := hKK.1
  have hl : lv_has ls 6 [(0, .ref hm), (1, .int (iZ x1)), (2, .int (iZ x2)), (3, .int (iZ x3)), (4, .int (iZ x4))] := hl
  obtain ⟨m0, m1, m3, m4, m5, mF, mO, mS⟩ := id hM
  refine lv_aload_n hx hb dX12_closest_0 rfl (lv_at hl 0 rfl) ?_
  refine lv_iload_n hx hb dX12_closest_1 rfl (lv_at hl 1 rfl) ?_
  refine lv_iload_n hx hb dX12_closest_2 rfl (lv_at hl 2 rfl) ?_
  refine CPV (As := [.int (iZ x1), .int (iZ x2)]) (rest := []) hx hb hml hown hts hKK hP (m_areTwo l D k ([.ref Ma, .ref Mn, .int (iZ Mst), .long Mtp, .long Mbt, .ref Ms, .ref My, .ref Mt, .ref Mp, .ref Mx, .int (iZ Mtd), .int (iZ Msz), .int (iZ Mtk), .int (iZ Mfr), .int (iZ Men), .int (iZ Mva), .int (iZ Mfk), .int (iZ Mfp), .int (iZ Mfs), .int (iZ Mse), .int (iZ Mlt), .ref Mo, .int (iZ Mdp), .int (iZ Mct), .ref Mk, .ref Ml, .ref Mb, .ref Mh, .ref Mc, .int (iZ Mdr), .int (iZ Mrs), .ref Mz, .ref Mr, .ref Mq, .int (iZ Mit), .int (iZ Mmk)]) hm Ma Af x1 x2 rfl hM ⟨by omega, by omega⟩ ⟨by omega, by omega⟩) ci_X12_areTwo qm_X12_265 ⟨Nat.le_of_ble_eq_true rfl, Nat.le_of_ble_eq_true rfl⟩ ⟨Nat.le_of_ble_eq_true rfl, Nat.le_of_ble_eq_true rfl⟩ 0 rfl rfl rfl hl.1 rfl (Nat.le_of_ble_eq_true rfl) dX12_closest_3 (fun z_1 hz_1 => ?_)
  rcases hz_1 with ⟨qz_1, hz_1⟩ | ⟨qz_1, hz_1⟩
  ·
    subst qz_1
    refine lv_if_eq (tgt := 29) hx hb dX12_closest_6 rfl (fun c => absurd c (by decide)) (fun _ => ?_)
    refine lv_iload_n hx hb dX12_closest_9 rfl (lv_at hl 3 rfl) ?_
    refine CPS (As := [.int (iZ x3)]) (rest := []) hx hb hml hown hts hKK (hP.sub (ws' := []) [] rfl) (m_isWeek l D k x3 ⟨by omega, by omega⟩) ci_X12_isWeek qm_X12_268 ⟨Nat.le_of_ble_eq_true rfl, Nat.le_of_ble_eq_true rfl⟩ ⟨Nat.le_of_ble_eq_true rfl, Nat.le_of_ble_eq_true rfl⟩ rfl hl.1 rfl (Nat.le_of_ble_eq_true rfl) dX12_closest_10 (fun z_3 hz_3 => ?_)
    rcases hz_3 with ⟨qz_3, hz_3⟩ | ⟨qz_3, hz_3⟩
    ·
      subst qz_3
      refine lv_if_eq (tgt := 29) hx hb dX12_closest_13 rfl (fun c => absurd c (by decide)) (fun _ => ?_)
      refine lv_iload hx hb dX12_closest_16 (lv_at hl 4 rfl) ?_
      refine lv_i2l (v := (iZ x4).toInt64) hx hb dX12_closest_18 rfl ?_
      refine lv_lconst (v := 0) hx hb dX12_closest_19 rfl ?_
      refine lv_ldc2 (own := RX12) (v := 40) hx hb hown (hts _ qk_X12_293) dX12_closest_20 ?_
      refine CPS (As := [.long ((iZ x4).toInt64), .long 0, .long 40]) (rest := []) hx hb hml hown hts hKK (hP.sub (ws' := []) [] rfl) (m_isFrom l D k ((iZ x4).toInt64) 0 40) ci_X12_isFrom qm_X12_295 ⟨Nat.le_of_ble_eq_true rfl, Nat.le_of_ble_eq_true rfl⟩ ⟨Nat.le_of_ble_eq_true rfl, Nat.le_of_ble_eq_true rfl⟩ rfl hl.1 rfl (Nat.le_of_ble_eq_true rfl) dX12_closest_23 (fun z_5 hz_5 => ?_)
      have tt_6_z_5 := tI64 (z := x4) ⟨by omega, by omega⟩
      have tt_7_z_5 := show (0 : Int64).toInt = 0 from (by decide)
      have tt_8_z_5 := show (40 : Int64).toInt = 40 from (by decide)
      rcases hz_5 with ⟨qz_5, hz_5⟩ | ⟨qz_5, hz_5⟩
      ·
        subst qz_5
        refine lv_if_ne (tgt := 35) hx hb dX12_closest_26 rfl (fun _ => ?_) (fun c => absurd c (by decide))
        refine lv_iload_n hx hb dX12_closest_35 rfl (lv_at hl 3 rfl) ?_
        refine lv_istore (lv' := [(5, .int (iZ x3)), (0, .ref hm), (1, .int (iZ x1)), (2, .int (iZ x2)), (3, .int (iZ x3)), (4, .int (iZ x4))]) hx hb dX12_closest_36 hl (bl rfl) rfl (fun ls hl => ?_)
        have HL38 : ∀ (fu : Nat) (v5_38 : Int) (H : Heap) (locs : List Loc) (ls : Array Slot), ((400) + 2 - v5_38) < (fu : Int) → ((x3 ≤ v5_38 ∧ v5_38 ≤ (400) + 1)) → (∀ t : Int, x3 ≤ t → t < v5_38 → ¬ lt (sh Af 10) x1 t x2 t ≤ x4) → va_P D vwCl [(hm, .inr (12, [.ref Ma, .ref Mn, .int (iZ Mst), .long Mtp, .long Mbt, .ref Ms, .ref My, .ref Mt, .ref Mp, .ref Mx, .int (iZ Mtd), .int (iZ Msz), .int (iZ Mtk), .int (iZ Mfr), .int (iZ Men), .int (iZ Mva), .int (iZ Mfk), .int (iZ Mfp), .int (iZ Mfs), .int (iZ Mse), .int (iZ Mlt), .ref Mo, .int (iZ Mdp), .int (iZ Mct), .ref Mk, .ref Ml, .ref Mb, .ref Mh, .ref Mc, .int (iZ Mdr), .int (iZ Mrs), .ref Mz, .ref Mr, .ref Mq, .int (iZ Mit), .int (iZ Mmk)])), (Ma, .inl (k 1, 5340, .inl Af))] H → va_D A [(hm, .inr (12, [.ref Ma, .ref Mn, .int (iZ Mst), .long Mtp, .long Mbt, .ref Ms, .ref My, .ref Mt, .ref Mp, .ref Mx, .int (iZ Mtd), .int (iZ Msz), .int (iZ Mtk), .int (iZ Mfr), .int (iZ Men), .int (iZ Mva), .int (iZ Mfk), .int (iZ Mfp), .int (iZ Mfs), .int (iZ Mse), .int (iZ Mlt), .ref Mo, .int (iZ Mdp), .int (iZ Mct), .ref Mk, .ref Ml, .ref Mb, .ref Mh, .ref Mc, .int (iZ Mdr), .int (iZ Mrs), .ref Mz, .ref Mr, .ref Mq, .int (iZ Mit), .int (iZ Mmk)])), (Ma, .inl (k 1, 5340, .inl Af))] → va_S A s.heap H locs → lv_has ls 6 [(5, .int (iZ v5_38)), (0, .ref hm), (1, .int (iZ x1)), (2, .int (iZ x2)), (3, .int (iZ x3)), (4, .int (iZ x4))] → W p l e (rj 3 0 0) s m [.ref hm, .int (iZ x1), .int (iZ x2), .int (iZ x3), .int (iZ x4)].toArray below meth c H locs 0 0 (MQ below (QW (σ := ((Int × Int) × (Int64) × (Unit) × (Unit))) (fun u => some (.int (iZ u.1.1))) (fun u => (((0 ≤ x1 ∧ x1 < (gz Af 0)) ∧ (0 ≤ x2 ∧ x2 < (gz Af 0)) ∧ ¬ x1 = x2 ∧ (0 ≤ x3 ∧ x3 ≤ 400) ∧ (0 ≤ x4 ∧ x4 ≤ 40)) ∧ isCs (sh Af 10) x1 x2 x3 x4 u.1.1) ∨ (¬ ((0 ≤ x1 ∧ x1 < (gz Af 0)) ∧ (0 ≤ x2 ∧ x2 < (gz Af 0)) ∧ ¬ x1 = x2 ∧ (0 ≤ x3 ∧ x3 ≤ 400) ∧ (0 ≤ x4 ∧ x4 ≤ 40)) ∧ (u.1.1 : Int) = -1)) (fun u => [(hm, .inr (12, [.ref Ma, .ref Mn, .int (iZ u.1.2), .long Mtp, .long Mbt, .ref Ms, .ref My, .ref Mt, .ref Mp, .ref Mx, .int (iZ Mtd), .int (iZ Msz), .int (iZ Mtk), .int (iZ Mfr), .int (iZ Men), .int (iZ Mva), .int (iZ Mfk), .int (iZ Mfp), .int (iZ Mfs), .int (iZ Mse), .int (iZ Mlt), .ref Mo, .int (iZ Mdp), .int (iZ Mct), .ref Mk, .ref Ml, .ref Mb, .ref Mh, .ref Mc, .int (iZ Mdr), .int (iZ Mrs), .ref Mz, .ref Mr, .ref Mq, .int (iZ Mit), .int (iZ Mmk)])), (Ma, .inl (k 1, 5340, .inl Af))]) D A) [.ref hm, .int (iZ x1), .int (iZ x2), .int (iZ x3), .int (iZ x4)].toArray s 0 0 A) (F0 m 38 ls []) := by
          intro fu
          induction fu with
          | zero => intro v5_38 H locs ls hμ38 hi38 hcl hP hD hS hl; exact absurd hμ38 (by omega)
          | succ fu ih38 =>
            intro v5_38 H locs ls hμ38 hi38 hcl hP hD hS hl
            refine lv_iload hx hb dX12_closest_38 (lv_at hl 0 rfl) ?_
            refine lv_sipush (v := iZ 400) hx hb dX12_closest_40 sip_400 ?_
            refine lv_icmp_gt (tgt := 74) hx hb dX12_closest_43 rfl (fun c_10 => ?_) (fun c_10 => ?_)
            ·
              have c_10 := (zlt (x := iZ 400) (y := iZ v5_38) rfl rfl wn_400 ⟨by omega, by omega⟩).mp c_10
              refine lv_aload_n hx hb dX12_closest_74 rfl (lv_at hl 1 rfl) ?_
              refine lv_bipush (v := iZ 6) hx hb dX12_closest_75 bip_6 ?_
              refine CWV (As := [.int (iZ 6)]) (rest := []) (wc := _) (wr := [(Ma, .inl (k 1, 5340, .inl Af))]) hx hb hml hown hts hKK hP hD hS hA (m_refuse l D k hm Ma Mn Ms My Mt Mp Mx Mo Mk Ml Mb Mh Mc Mz Mr Mq Mst Mtd Msz Mtk Mfr Men Mva Mfk Mfp Mfs Mse Mlt Mdp Mct Mdr Mrs Mit Mmk Mtp Mbt 6) ci_X12_refuse qm_X12_81 ⟨Nat.le_of_ble_eq_true rfl, Nat.le_of_ble_eq_true rfl⟩ ⟨Nat.le_of_ble_eq_true rfl, Nat.le_of_ble_eq_true rfl⟩ [0] [1] rfl rfl rfl rfl rfl (dj rfl) 0 rfl rfl rfl hl.1 rfl (Nat.le_of_ble_eq_true rfl) dX12_closest_77 (fun u_11 H locs hφ hP hD hS => ?_)
              refine W.eq (g2 := F0 m 80 ls [.int (iZ (-1))]) rfl ?_
              exact EWi hx hb hr hlocks hS (((-1), 6), 0, (), ()) rfl (show (((0 ≤ x1 ∧ x1 < (gz Af 0)) ∧ (0 ≤ x2 ∧ x2 < (gz Af 0)) ∧ ¬ x1 = x2 ∧ (0 ≤ x3 ∧ x3 ≤ 400) ∧ (0 ≤ x4 ∧ x4 ≤ 40)) ∧ isCs (sh Af 10) x1 x2 x3 x4 (-1)) ∨ (¬ ((0 ≤ x1 ∧ x1 < (gz Af 0)) ∧ (0 ≤ x2 ∧ x2 < (gz Af 0)) ∧ ¬ x1 = x2 ∧ (0 ≤ x3 ∧ x3 ≤ 400) ∧ (0 ≤ x4 ∧ x4 ≤ 40)) ∧ ((-1) : Int) = -1) from (Or.inl ⟨by omega, Or.inr ⟨rfl, fun t h1 h2 => hcl t h1 (by omega)⟩⟩)) (hP.sub [1, 0] rfl) (hD.sub [1, 0] rfl rfl) dX12_closest_80
            ·
              have c_10 := mt (zlt (x := iZ 400) (y := iZ v5_38) rfl rfl wn_400 ⟨by omega, by omega⟩).mpr c_10
              refine lv_aload_n hx hb dX12_closest_46 rfl (lv_at hl 1 rfl) ?_
              refine lv_iload_n hx hb dX12_closest_47 rfl (lv_at hl 2 rfl) ?_
              refine lv_iload hx hb dX12_closest_48 (lv_at hl 0 rfl) ?_
              refine lv_iload_n hx hb dX12_closest_50 rfl (lv_at hl 3 rfl) ?_
              refine lv_iload hx hb dX12_closest_51 (lv_at hl 0 rfl) ?_
              refine CRV (As := [.int (iZ x1), .int (iZ v5_38), .int (iZ x2), .int (iZ v5_38)]) (rest := []) hx hb hml hown hts hKK hP (m_light l D k ([.ref Ma, .ref Mn, .int (iZ Mst), .long Mtp, .long Mbt, .ref Ms, .ref My, .ref Mt, .ref Mp, .ref Mx, .int (iZ Mtd), .int (iZ Msz), .int (iZ Mtk), .int (iZ Mfr), .int (iZ Men), .int (iZ Mva), .int (iZ Mfk), .int (iZ Mfp), .int (iZ Mfs), .int (iZ Mse), .int (iZ Mlt), .ref Mo, .int (iZ Mdp), .int (iZ Mct), .ref Mk, .ref Ml, .ref Mb, .ref Mh, .ref Mc, .int (iZ Mdr), .int (iZ Mrs), .ref Mz, .ref Mr, .ref Mq, .int (iZ Mit), .int (iZ Mmk)]) hm Ma Af x1 v5_38 x2 v5_38 rfl hM ⟨by omega, by omega⟩ ⟨by omega, by omega⟩ ⟨by omega, by omega⟩ ⟨by omega, by omega⟩) ci_X12_lightOf qm_X12_261 ⟨Nat.le_of_ble_eq_true rfl, Nat.le_of_ble_eq_true rfl⟩ ⟨Nat.le_of_ble_eq_true rfl, Nat.le_of_ble_eq_true rfl⟩ 0 rfl rfl rfl hl.1 rfl (Nat.le_of_ble_eq_true rfl) dX12_closest_53 ?_
              have hl_h_12 := lt_rg (f := (sh Af 10)) (a := x1) (w := v5_38) (b := x2) (t := v5_38) hM.2.2.2.2.2.1 ⟨by omega, by omega⟩ ⟨by omega, by omega⟩
              refine lv_iload hx hb dX12_closest_56 (lv_at hl 5 rfl) ?_
              refine lv_icmp_gt (tgt := 68) hx hb dX12_closest_58 rfl (fun c_13 => ?_) (fun c_13 => ?_)
              ·
                have c_13 := (zlt (x := iZ x4) (y := iZ (lt (sh Af 10) x1 v5_38 x2 v5_38)) rfl rfl ⟨by omega, by omega⟩ ⟨by omega, by omega⟩).mp c_13
                refine lv_iinc (v := iZ (v5_38 + 1)) (lv' := [(5, .int (iZ (v5_38 + 1))), (0, .ref hm), (1, .int (iZ x1)), (2, .int (iZ x2)), (3, .int (iZ x3)), (4, .int (iZ x4))]) hx hb dX12_closest_68 hl (k := 0) rfl (iZ_add v5_38 1) (by decide) rfl (fun ls hl => ?_)
                refine lv_goto (tgt := 38) hx hb dX12_closest_71 rfl ?_
                exact ih38  (v5_38 + 1) _ _ _ (by omega) (show (x3 ≤ (v5_38 + 1) ∧ (v5_38 + 1) ≤ (400) + 1) from ⟨by omega, by omega⟩) (show ∀ t : Int, x3 ≤ t → t < (v5_38 + 1) → ¬ lt (sh Af 10) x1 t x2 t ≤ x4 from (fun t h1 h2 => by rcases Int.lt_or_eq_of_le (show t ≤ v5_38 by omega) with h3 | h3; exact hcl t h1 h3; rw [h3]; omega)) (hP.sub [0, 1] rfl) (hD.sub [0, 1] rfl rfl) hS (lv_sub hl [0, 1, 2, 3, 4, 5] rfl)
              ·
                have c_13 := mt (zlt (x := iZ x4) (y := iZ (lt (sh Af 10) x1 v5_38 x2 v5_38)) rfl rfl ⟨by omega, by omega⟩ ⟨by omega, by omega⟩).mpr c_13
                refine lv_aload_n hx hb dX12_closest_61 rfl (lv_at hl 1 rfl) ?_
                refine lv_iload hx hb dX12_closest_62 (lv_at hl 0 rfl) ?_
                refine CWV (As := [.int (iZ v5_38)]) (rest := []) (wc := _) (wr := [(Ma, .inl (k 1, 5340, .inl Af))]) hx hb hml hown hts hKK hP hD hS hA (m_gives l D k hm Ma Mn Ms My Mt Mp Mx Mo Mk Ml Mb Mh Mc Mz Mr Mq Mst Mtd Msz Mtk Mfr Men Mva Mfk Mfp Mfs Mse Mlt Mdp Mct Mdr Mrs Mit Mmk Mtp Mbt v5_38) ci_X12_gives qm_X12_85 ⟨Nat.le_of_ble_eq_true rfl, Nat.le_of_ble_eq_true rfl⟩ ⟨Nat.le_of_ble_eq_true rfl, Nat.le_of_ble_eq_true rfl⟩ [0] [1] rfl rfl rfl rfl rfl (dj rfl) 0 rfl rfl rfl hl.1 rfl (Nat.le_of_ble_eq_true rfl) dX12_closest_64 (fun u_14 H locs hφ hP hD hS => ?_)
                refine W.eq (g2 := F0 m 67 ls [.int (iZ v5_38)]) rfl ?_
                exact EWi hx hb hr hlocks hS ((v5_38, 0), 0, (), ()) rfl (show (((0 ≤ x1 ∧ x1 < (gz Af 0)) ∧ (0 ≤ x2 ∧ x2 < (gz Af 0)) ∧ ¬ x1 = x2 ∧ (0 ≤ x3 ∧ x3 ≤ 400) ∧ (0 ≤ x4 ∧ x4 ≤ 40)) ∧ isCs (sh Af 10) x1 x2 x3 x4 v5_38) ∨ (¬ ((0 ≤ x1 ∧ x1 < (gz Af 0)) ∧ (0 ≤ x2 ∧ x2 < (gz Af 0)) ∧ ¬ x1 = x2 ∧ (0 ≤ x3 ∧ x3 ≤ 400) ∧ (0 ≤ x4 ∧ x4 ≤ 40)) ∧ (v5_38 : Int) = -1) from (Or.inl ⟨by omega, Or.inl ⟨⟨by omega, by omega⟩, by omega, hcl⟩⟩)) (hP.sub [1, 0] rfl) (hD.sub [1, 0] rfl rfl) dX12_closest_67
        exact HL38 404 x3 _ _ _ (by omega) (show (x3 ≤ x3 ∧ x3 ≤ (400) + 1) from ⟨by omega, by omega⟩) (show ∀ t : Int, x3 ≤ t → t < x3 → ¬ lt (sh Af 10) x1 t x2 t ≤ x4 from (fun t h1 h2 => absurd h1 (by omega))) (hP.sub [0, 1] rfl) (hD.sub [0, 1] rfl rfl) hS (lv_sub hl [0, 1, 2, 3, 4, 5] rfl)
      ·
        subst qz_5
        refine lv_if_ne (tgt := 35) hx hb dX12_closest_26 rfl (fun c => absurd (by decide) c) (fun _ => ?_)
        refine lv_aload_n hx hb dX12_closest_29 rfl (lv_at hl 0 rfl) ?_
        refine lv_iconst (v := iZ 1) hx hb dX12_closest_30 rfl ?_
        refine CWV (As := [.int (iZ 1)]) (rest := []) (wc := _) (wr := [(Ma, .inl (k 1, 5340, .inl Af))]) hx hb hml hown hts hKK hP hD hS hA (m_refuse l D k hm Ma Mn Ms My Mt Mp Mx Mo Mk Ml Mb Mh Mc Mz Mr Mq Mst Mtd Msz Mtk Mfr Men Mva Mfk Mfp Mfs Mse Mlt Mdp Mct Mdr Mrs Mit Mmk Mtp Mbt 1) ci_X12_refuse qm_X12_81 ⟨Nat.le_of_ble_eq_true rfl, Nat.le_of_ble_eq_true rfl⟩ ⟨Nat.le_of_ble_eq_true rfl, Nat.le_of_ble_eq_true rfl⟩ [0] [1] rfl rfl rfl rfl rfl (dj rfl) 0 rfl rfl rfl hl.1 rfl (Nat.le_of_ble_eq_true rfl) dX12_closest_31 (fun u_16 H locs hφ hP hD hS => ?_)
        refine W.eq (g2 := F0 m 34 ls [.int (iZ (-1))]) rfl ?_
        exact EWi hx hb hr hlocks hS (((-1), 1), 0, (), ()) rfl (show (((0 ≤ x1 ∧ x1 < (gz Af 0)) ∧ (0 ≤ x2 ∧ x2 < (gz Af 0)) ∧ ¬ x1 = x2 ∧ (0 ≤ x3 ∧ x3 ≤ 400) ∧ (0 ≤ x4 ∧ x4 ≤ 40)) ∧ isCs (sh Af 10) x1 x2 x3 x4 (-1)) ∨ (¬ ((0 ≤ x1 ∧ x1 < (gz Af 0)) ∧ (0 ≤ x2 ∧ x2 < (gz Af 0)) ∧ ¬ x1 = x2 ∧ (0 ≤ x3 ∧ x3 ≤ 400) ∧ (0 ≤ x4 ∧ x4 ≤ 40)) ∧ ((-1) : Int) = -1) from (Or.inr ⟨by omega, rfl⟩)) (hP.sub [1, 0] rfl) (hD.sub [1, 0] rfl rfl) dX12_closest_34
    ·
      subst qz_3
      refine lv_if_eq (tgt := 29) hx hb dX12_closest_13 rfl (fun _ => ?_) (fun c => absurd (by decide) c)
      refine lv_aload_n hx hb dX12_closest_29 rfl (lv_at hl 0 rfl) ?_
      refine lv_iconst (v := iZ 1) hx hb dX12_closest_30 rfl ?_
      refine CWV (As := [.int (iZ 1)]) (rest := []) (wc := _) (wr := [(Ma, .inl (k 1, 5340, .inl Af))]) hx hb hml hown hts hKK hP hD hS hA (m_refuse l D k hm Ma Mn Ms My Mt Mp Mx Mo Mk Ml Mb Mh Mc Mz Mr Mq Mst Mtd Msz Mtk Mfr Men Mva Mfk Mfp Mfs Mse Mlt Mdp Mct Mdr Mrs Mit Mmk Mtp Mbt 1) ci_X12_refuse qm_X12_81 ⟨Nat.le_of_ble_eq_true rfl, Nat.le_of_ble_eq_true rfl⟩ ⟨Nat.le_of_ble_eq_true rfl, Nat.le_of_ble_eq_true rfl⟩ [0] [1] rfl rfl rfl rfl rfl (dj rfl) 0 rfl rfl rfl hl.1 rfl (Nat.le_of_ble_eq_true rfl) dX12_closest_31 (fun u_18 H locs hφ hP hD hS => ?_)
      refine W.eq (g2 := F0 m 34 ls [.int (iZ (-1))]) rfl ?_
      exact EWi hx hb hr hlocks hS (((-1), 1), 0, (), ()) rfl (show (((0 ≤ x1 ∧ x1 < (gz Af 0)) ∧ (0 ≤ x2 ∧ x2 < (gz Af 0)) ∧ ¬ x1 = x2 ∧ (0 ≤ x3 ∧ x3 ≤ 400) ∧ (0 ≤ x4 ∧ x4 ≤ 40)) ∧ isCs (sh Af 10) x1 x2 x3 x4 (-1)) ∨ (¬ ((0 ≤ x1 ∧ x1 < (gz Af 0)) ∧ (0 ≤ x2 ∧ x2 < (gz Af 0)) ∧ ¬ x1 = x2 ∧ (0 ≤ x3 ∧ x3 ≤ 400) ∧ (0 ≤ x4 ∧ x4 ≤ 40)) ∧ ((-1) : Int) = -1) from (Or.inr ⟨by omega, rfl⟩)) (hP.sub [1, 0] rfl) (hD.sub [1, 0] rfl rfl) dX12_closest_34
  ·
    subst qz_1
    refine lv_if_eq (tgt := 29) hx hb dX12_closest_6 rfl (fun _ => ?_) (fun c => absurd (by decide) c)
    refine lv_aload_n hx hb dX12_closest_29 rfl (lv_at hl 0 rfl) ?_
    refine lv_iconst (v := iZ 1) hx hb dX12_closest_30 rfl ?_
    refine CWV (As := [.int (iZ 1)]) (rest := []) (wc := _) (wr := [(Ma, .inl (k 1, 5340, .inl Af))]) hx hb hml hown hts hKK hP hD hS hA (m_refuse l D k hm Ma Mn Ms My Mt Mp Mx Mo Mk Ml Mb Mh Mc Mz Mr Mq Mst Mtd Msz Mtk Mfr Men Mva Mfk Mfp Mfs Mse Mlt Mdp Mct Mdr Mrs Mit Mmk Mtp Mbt 1) ci_X12_refuse qm_X12_81 ⟨Nat.le_of_ble_eq_true rfl, Nat.le_of_ble_eq_true rfl⟩ ⟨Nat.le_of_ble_eq_true rfl, Nat.le_of_ble_eq_true rfl⟩ [0] [1] rfl rfl rfl rfl rfl (dj rfl) 0 rfl rfl rfl hl.1 rfl (Nat.le_of_ble_eq_true rfl) dX12_closest_31 (fun u_20 H locs hφ hP hD hS => ?_)
    refine W.eq (g2 := F0 m 34 ls [.int (iZ (-1))]) rfl ?_
    exact EWi hx hb hr hlocks hS (((-1), 1), 0, (), ()) rfl (show (((0 ≤ x1 ∧ x1 < (gz Af 0)) ∧ (0 ≤ x2 ∧ x2 < (gz Af 0)) ∧ ¬ x1 = x2 ∧ (0 ≤ x3 ∧ x3 ≤ 400) ∧ (0 ≤ x4 ∧ x4 ≤ 40)) ∧ isCs (sh Af 10) x1 x2 x3 x4 (-1)) ∨ (¬ ((0 ≤ x1 ∧ x1 < (gz Af 0)) ∧ (0 ≤ x2 ∧ x2 < (gz Af 0)) ∧ ¬ x1 = x2 ∧ (0 ≤ x3 ∧ x3 ≤ 400) ∧ (0 ≤ x4 ∧ x4 ≤ 40)) ∧ ((-1) : Int) = -1) from (Or.inr ⟨by omega, rfl⟩)) (hP.sub [1, 0] rfl) (hD.sub [1, 0] rfl rfl) dX12_closest_34
set_option maxHeartbeats 4000000 in
set_option maxRecDepth 100000 in
theorem q_price (l : Launch) (D : va_G) (k : Nat → ClassId) (hm : Nat) (Ma : Nat) (Mn : Nat) (Ms : Nat) (My : Nat) (Mt : Nat) (Mp : Nat) (Mx : Nat) (Mo : Nat) (Mk : Nat) (Ml : Nat) (Mb : Nat) (Mh : Nat) (Mc : Nat) (Mz : Nat) (Mr : Nat) (Mq : Nat) (Mst : Int) (Mtd : Int) (Msz : Int) (Mtk : Int) (Mfr : Int) (Men : Int) (Mva : Int) (Mfk : Int) (Mfp : Int) (Mfs : Int) (Mse : Int) (Mlt : Int) (Mdp : Int) (Mct : Int) (Mdr : Int) (Mrs : Int) (Mit : Int) (Mmk : Int) (Mtp : Int64) (Mbt : Int64) (Af : Nat → Int32) (x1 : Int) (x2 : Int) (hM : M0 Af) (h9x1 : -2147483648 ≤ x1 ∧ x1 < 2147483648) (h9x2 : -2147483648 ≤ x2 ∧ x2 < 2147483648) : WD (σ := ((Int × Int) × (Int64) × (Unit) × (Unit))) l yX12_price cX12_price 3 (some .int) 3 0 0 D k [.ref hm, .int (iZ x1), .int (iZ x2)] [(hm, .inr (12, [.ref Ma, .ref Mn, .int (iZ Mst), .long Mtp, .long Mbt, .ref Ms, .ref My, .ref Mt, .ref Mp, .ref Mx, .int (iZ Mtd), .int (iZ Msz), .int (iZ Mtk), .int (iZ Mfr), .int (iZ Men), .int (iZ Mva), .int (iZ Mfk), .int (iZ Mfp), .int (iZ Mfs), .int (iZ Mse), .int (iZ Mlt), .ref Mo, .int (iZ Mdp), .int (iZ Mct), .ref Mk, .ref Ml, .ref Mb, .ref Mh, .ref Mc, .int (iZ Mdr), .int (iZ Mrs), .ref Mz, .ref Mr, .ref Mq, .int (iZ Mit), .int (iZ Mmk)])), (Ma, .inl (k 1, 5340, .inl Af))] (fun u => some (.int (iZ u.1.1))) (fun u => (((0 ≤ x1 ∧ x1 < (gz Af 0)) ∧ (0 ≤ x2 ∧ x2 ≤ 500)) ∧ (u.1.1 : Int) = pr (sh Af 10) x1 x2) ∨ (¬ ((0 ≤ x1 ∧ x1 < (gz Af 0)) ∧ (0 ≤ x2 ∧ x2 ≤ 500)) ∧ (u.1.1 : Int) = -1)) (fun u => [(hm, .inr (12, [.ref Ma, .ref Mn, .int (iZ u.1.2), .long Mtp, .long Mbt, .ref Ms, .ref My, .ref Mt, .ref Mp, .ref Mx, .int (iZ Mtd), .int (iZ Msz), .int (iZ Mtk), .int (iZ Mfr), .int (iZ Men), .int (iZ Mva), .int (iZ Mfk), .int (iZ Mfp), .int (iZ Mfs), .int (iZ Mse), .int (iZ Mlt), .ref Mo, .int (iZ Mdp), .int (iZ Mct), .ref Mk, .ref Ml, .ref Mb, .ref Mh, .ref Mc, .int (iZ Mdr), .int (iZ Mrs), .ref Mz, .ref Mr, .ref Mq, .int (iZ Mit), .int (iZ Mmk)])), (Ma, .inl (k 1, 5340, .inl Af))]) := by
  refine MW (by decide) (Nat.le_of_ble_eq_true rfl) (fun p e s m below meth c ls A hx hb hml hr hlocks hin hts hown hKK hP hD hS hA hl => ?_)
  have hK := hKK.1
  have hl : lv_has ls 3 [(0, .ref hm), (1, .int (iZ x1)), (2, .int (iZ x2))] := hl
  obtain ⟨m0, m1, m3, m4, m5, mF, mO, mS⟩ := id hM
  refine lv_aload_n hx hb dX12_price_0 rfl (lv_at hl 0 rfl) ?_
  refine lv_iload_n hx hb dX12_price_1 rfl (lv_at hl 1 rfl) ?_
  refine CPV (As := [.int (iZ x1)]) (rest := []) hx hb hml hown hts hKK hP (m_isRock l D k ([.ref Ma, .ref Mn, .int (iZ Mst), .long Mtp, .long Mbt, .ref Ms, .ref My, .ref Mt, .ref Mp, .ref Mx, .int (iZ Mtd), .int (iZ Msz), .int (iZ Mtk), .int (iZ Mfr), .int (iZ Men), .int (iZ Mva), .int (iZ Mfk), .int (iZ Mfp), .int (iZ Mfs), .int (iZ Mse), .int (iZ Mlt), .ref Mo, .int (iZ Mdp), .int (iZ Mct), .ref Mk, .ref Ml, .ref Mb, .ref Mh, .ref Mc, .int (iZ Mdr), .int (iZ Mrs), .ref Mz, .ref Mr, .ref Mq, .int (iZ Mit), .int (iZ Mmk)]) hm Ma Af x1 rfl hM ⟨by omega, by omega⟩) ci_X12_isRock qm_X12_243 ⟨Nat.le_of_ble_eq_true rfl, Nat.le_of_ble_eq_true rfl⟩ ⟨Nat.le_of_ble_eq_true rfl, Nat.le_of_ble_eq_true rfl⟩ 0 rfl rfl rfl hl.1 rfl (Nat.le_of_ble_eq_true rfl) dX12_price_2 (fun z_1 hz_1 => ?_)
  rcases hz_1 with ⟨qz_1, hz_1⟩ | ⟨qz_1, hz_1⟩
  ·
    subst qz_1
    refine lv_if_eq (tgt := 28) hx hb dX12_price_5 rfl (fun c => absurd c (by decide)) (fun _ => ?_)
    refine lv_iload_n hx hb dX12_price_8 rfl (lv_at hl 2 rfl) ?_
    refine CPS (As := [.int (iZ x2)]) (rest := []) hx hb hml hown hts hKK (hP.sub (ws' := []) [] rfl) (m_isAsked l D k x2 ⟨by omega, by omega⟩) ci_X12_isAsked qm_X12_258 ⟨Nat.le_of_ble_eq_true rfl, Nat.le_of_ble_eq_true rfl⟩ ⟨Nat.le_of_ble_eq_true rfl, Nat.le_of_ble_eq_true rfl⟩ rfl hl.1 rfl (Nat.le_of_ble_eq_true rfl) dX12_price_9 (fun z_3 hz_3 => ?_)
    rcases hz_3 with ⟨qz_3, hz_3⟩ | ⟨qz_3, hz_3⟩
    ·
      subst qz_3
      refine lv_if_eq (tgt := 28) hx hb dX12_price_12 rfl (fun c => absurd c (by decide)) (fun _ => ?_)
      refine lv_aload_n hx hb dX12_price_15 rfl (lv_at hl 0 rfl) ?_
      refine lv_aload_n hx hb dX12_price_16 rfl (lv_at hl 0 rfl) ?_
      refine lv_iload_n hx hb dX12_price_17 rfl (lv_at hl 1 rfl) ?_
      refine lv_iload_n hx hb dX12_price_18 rfl (lv_at hl 2 rfl) ?_
      refine CRV (As := [.int (iZ x1), .int (iZ x2)]) (rest := [.ref hm]) hx hb hml hown hts hKK hP (m_price l D k ([.ref Ma, .ref Mn, .int (iZ Mst), .long Mtp, .long Mbt, .ref Ms, .ref My, .ref Mt, .ref Mp, .ref Mx, .int (iZ Mtd), .int (iZ Msz), .int (iZ Mtk), .int (iZ Mfr), .int (iZ Men), .int (iZ Mva), .int (iZ Mfk), .int (iZ Mfp), .int (iZ Mfs), .int (iZ Mse), .int (iZ Mlt), .ref Mo, .int (iZ Mdp), .int (iZ Mct), .ref Mk, .ref Ml, .ref Mb, .ref Mh, .ref Mc, .int (iZ Mdr), .int (iZ Mrs), .ref Mz, .ref Mr, .ref Mq, .int (iZ Mit), .int (iZ Mmk)]) hm Ma Af x1 x2 rfl hM ⟨by omega, by omega⟩ ⟨by omega, by omega⟩) ci_X12_priceOf qm_X12_353 ⟨Nat.le_of_ble_eq_true rfl, Nat.le_of_ble_eq_true rfl⟩ ⟨Nat.le_of_ble_eq_true rfl, Nat.le_of_ble_eq_true rfl⟩ 0 rfl rfl rfl hl.1 rfl (Nat.le_of_ble_eq_true rfl) dX12_price_19 ?_
      have hp_h_5 := pr_rg (f := (sh Af 10)) (a := x1) (w := x2) hM.2.2.2.2.2.1 ⟨by omega, by omega⟩
      refine CWV (As := [.int (iZ (pr (sh Af 10) x1 x2))]) (rest := []) (wc := _) (wr := [(Ma, .inl (k 1, 5340, .inl Af))]) hx hb hml hown hts hKK hP hD hS hA (m_gives l D k hm Ma Mn Ms My Mt Mp Mx Mo Mk Ml Mb Mh Mc Mz Mr Mq Mst Mtd Msz Mtk Mfr Men Mva Mfk Mfp Mfs Mse Mlt Mdp Mct Mdr Mrs Mit Mmk Mtp Mbt (pr (sh Af 10) x1 x2)) ci_X12_gives qm_X12_85 ⟨Nat.le_of_ble_eq_true rfl, Nat.le_of_ble_eq_true rfl⟩ ⟨Nat.le_of_ble_eq_true rfl, Nat.le_of_ble_eq_true rfl⟩ [0] [1] rfl rfl rfl rfl rfl (dj rfl) 0 rfl rfl rfl hl.1 rfl (Nat.le_of_ble_eq_true rfl) dX12_price_22 (fun u_6 H locs hφ hP hD hS => ?_)
      refine W.eq (g2 := F0 m 25 ls [.int (iZ (pr (sh Af 10) x1 x2))]) rfl ?_
      refine lv_goto (tgt := 33) hx hb dX12_price_25 rfl ?_
      exact EWi hx hb hr hlocks hS (((pr (sh Af 10) x1 x2), 0), 0, (), ()) rfl (show (((0 ≤ x1 ∧ x1 < (gz Af 0)) ∧ (0 ≤ x2 ∧ x2 ≤ 500)) ∧ ((pr (sh Af 10) x1 x2) : Int) = pr (sh Af 10) x1 x2) ∨ (¬ ((0 ≤ x1 ∧ x1 < (gz Af 0)) ∧ (0 ≤ x2 ∧ x2 ≤ 500)) ∧ ((pr (sh Af 10) x1 x2) : Int) = -1) from (by omega)) (hP.sub [1, 0] rfl) (hD.sub [1, 0] rfl rfl) dX12_price_33
    ·
      subst qz_3
      refine lv_if_eq (tgt := 28) hx hb dX12_price_12 rfl (fun _ => ?_) (fun c => absurd (by decide) c)
      refine lv_aload_n hx hb dX12_price_28 rfl (lv_at hl 0 rfl) ?_
      refine lv_iconst (v := iZ 1) hx hb dX12_price_29 rfl ?_
      refine CWV (As := [.int (iZ 1)]) (rest := []) (wc := _) (wr := [(Ma, .inl (k 1, 5340, .inl Af))]) hx hb hml hown hts hKK hP hD hS hA (m_refuse l D k hm Ma Mn Ms My Mt Mp Mx Mo Mk Ml Mb Mh Mc Mz Mr Mq Mst Mtd Msz Mtk Mfr Men Mva Mfk Mfp Mfs Mse Mlt Mdp Mct Mdr Mrs Mit Mmk Mtp Mbt 1) ci_X12_refuse qm_X12_81 ⟨Nat.le_of_ble_eq_true rfl, Nat.le_of_ble_eq_true rfl⟩ ⟨Nat.le_of_ble_eq_true rfl, Nat.le_of_ble_eq_true rfl⟩ [0] [1] rfl rfl rfl rfl rfl (dj rfl) 0 rfl rfl rfl hl.1 rfl (Nat.le_of_ble_eq_true rfl) dX12_price_30 (fun u_8 H locs hφ hP hD hS => ?_)
      refine W.eq (g2 := F0 m 33 ls [.int (iZ (-1))]) rfl ?_
      exact EWi hx hb hr hlocks hS (((-1), 1), 0, (), ()) rfl (show (((0 ≤ x1 ∧ x1 < (gz Af 0)) ∧ (0 ≤ x2 ∧ x2 ≤ 500)) ∧ ((-1) : Int) = pr (sh Af 10) x1 x2) ∨ (¬ ((0 ≤ x1 ∧ x1 < (gz Af 0)) ∧ (0 ≤ x2 ∧ x2 ≤ 500)) ∧ ((-1) : Int) = -1) from (by omega)) (hP.sub [1, 0] rfl) (hD.sub [1, 0] rfl rfl) dX12_price_33
  ·
    subst qz_1
    refine lv_if_eq (tgt := 28) hx hb dX12_price_5 rfl (fun _ => ?_) (fun c => absurd (by decide) c)
    refine lv_aload_n hx hb dX12_price_28 rfl (lv_at hl 0 rfl) ?_
    refine lv_iconst (v := iZ 1) hx hb dX12_price_29 rfl ?_
    refine CWV (As := [.int (iZ 1)]) (rest := []) (wc := _) (wr := [(Ma, .inl (k 1, 5340, .inl Af))]) hx hb hml hown hts hKK hP hD hS hA (m_refuse l D k hm Ma Mn Ms My Mt Mp Mx Mo Mk Ml Mb Mh Mc Mz Mr Mq Mst Mtd Msz Mtk Mfr Men Mva Mfk Mfp Mfs Mse Mlt Mdp Mct Mdr Mrs Mit Mmk Mtp Mbt 1) ci_X12_refuse qm_X12_81 ⟨Nat.le_of_ble_eq_true rfl, Nat.le_of_ble_eq_true rfl⟩ ⟨Nat.le_of_ble_eq_true rfl, Nat.le_of_ble_eq_true rfl⟩ [0] [1] rfl rfl rfl rfl rfl (dj rfl) 0 rfl rfl rfl hl.1 rfl (Nat.le_of_ble_eq_true rfl) dX12_price_30 (fun u_10 H locs hφ hP hD hS => ?_)
    refine W.eq (g2 := F0 m 33 ls [.int (iZ (-1))]) rfl ?_
    exact EWi hx hb hr hlocks hS (((-1), 1), 0, (), ()) rfl (show (((0 ≤ x1 ∧ x1 < (gz Af 0)) ∧ (0 ≤ x2 ∧ x2 ≤ 500)) ∧ ((-1) : Int) = pr (sh Af 10) x1 x2) ∨ (¬ ((0 ≤ x1 ∧ x1 < (gz Af 0)) ∧ (0 ≤ x2 ∧ x2 ≤ 500)) ∧ ((-1) : Int) = -1) from (by omega)) (hP.sub [1, 0] rfl) (hD.sub [1, 0] rfl rfl) dX12_price_33
set_option maxHeartbeats 4000000 in
set_option maxRecDepth 100000 in
theorem q_gain (l : Launch) (D : va_G) (k : Nat → ClassId) (hm : Nat) (Ma : Nat) (Mn : Nat) (Ms : Nat) (My : Nat) (Mt : Nat) (Mp : Nat) (Mx : Nat) (Mo : Nat) (Mk : Nat) (Ml : Nat) (Mb : Nat) (Mh : Nat) (Mc : Nat) (Mz : Nat) (Mr : Nat) (Mq : Nat) (Mst : Int) (Mtd : Int) (Msz : Int) (Mtk : Int) (Mfr : Int) (Men : Int) (Mva : Int) (Mfk : Int) (Mfp : Int) (Mfs : Int) (Mse : Int) (Mlt : Int) (Mdp : Int) (Mct : Int) (Mdr : Int) (Mrs : Int) (Mit : Int) (Mmk : Int) (Mtp : Int64) (Mbt : Int64) (Af : Nat → Int32) (x1 : Int) (x2 : Int) (x3 : Int) (hM : M0 Af) (h9x1 : -2147483648 ≤ x1 ∧ x1 < 2147483648) (h9x2 : -2147483648 ≤ x2 ∧ x2 < 2147483648) (h9x3 : -2147483648 ≤ x3 ∧ x3 < 2147483648) : WD (σ := ((Int × Int) × (Int64) × (Unit) × (Unit))) l yX12_gain cX12_gain 4 (some .int) 5 0 0 D k [.ref hm, .int (iZ x1), .int (iZ x2), .int (iZ x3)] [(hm, .inr (12, [.ref Ma, .ref Mn, .int (iZ Mst), .long Mtp, .long Mbt, .ref Ms, .ref My, .ref Mt, .ref Mp, .ref Mx, .int (iZ Mtd), .int (iZ Msz), .int (iZ Mtk), .int (iZ Mfr), .int (iZ Men), .int (iZ Mva), .int (iZ Mfk), .int (iZ Mfp), .int (iZ Mfs), .int (iZ Mse), .int (iZ Mlt), .ref Mo, .int (iZ Mdp), .int (iZ Mct), .ref Mk, .ref Ml, .ref Mb, .ref Mh, .ref Mc, .int (iZ Mdr), .int (iZ Mrs), .ref Mz, .ref Mr, .ref Mq, .int (iZ Mit), .int (iZ Mmk)])), (Ma, .inl (k 1, 5340, .inl Af))] (fun u => some (.int (iZ u.1.1))) (fun u => (((0 ≤ x1 ∧ x1 < (gz Af 0)) ∧ (0 ≤ x3 ∧ x3 < (gz Af 0)) ∧ ¬ x1 = x3 ∧ (0 ≤ x2 ∧ x2 ≤ 400)) ∧ (u.1.1 : Int) = gnF (sh Af 10) x1 x2 x3) ∨ (¬ ((0 ≤ x1 ∧ x1 < (gz Af 0)) ∧ (0 ≤ x3 ∧ x3 < (gz Af 0)) ∧ ¬ x1 = x3 ∧ (0 ≤ x2 ∧ x2 ≤ 400)) ∧ (u.1.1 : Int) = -1)) (fun u => [(hm, .inr (12, [.ref Ma, .ref Mn, .int (iZ u.1.2), .long Mtp, .long Mbt, .ref Ms, .ref My, .ref Mt, .ref Mp, .ref Mx, .int (iZ Mtd), .int (iZ Msz), .int (iZ Mtk), .int (iZ Mfr), .int (iZ Men), .int (iZ Mva), .int (iZ Mfk), .int (iZ Mfp), .int (iZ Mfs), .int (iZ Mse), .int (iZ Mlt), .ref Mo, .int (iZ Mdp), .int (iZ Mct), .ref Mk, .ref Ml, .ref Mb, .ref Mh, .ref Mc, .int (iZ Mdr), .int (iZ Mrs), .ref Mz, .ref Mr, .ref Mq, .int (iZ Mit), .int (iZ Mmk)])), (Ma, .inl (k 1, 5340, .inl Af))]) := by
  refine MW (by decide) (Nat.le_of_ble_eq_true rfl) (fun p e s m below meth c ls A hx hb hml hr hlocks hin hts hown hKK hP hD hS hA hl => ?_)
  have hK := hKK.1
  have hl : lv_has ls 4 [(0, .ref hm), (1, .int (iZ x1)), (2, .int (iZ x2)), (3, .int (iZ x3))] := hl
  obtain ⟨m0, m1, m3, m4, m5, mF, mO, mS⟩ := id hM
  refine lv_aload_n hx hb dX12_gain_0 rfl (lv_at hl 0 rfl) ?_
  refine lv_iload_n hx hb dX12_gain_1 rfl (lv_at hl 1 rfl) ?_
  refine lv_iload_n hx hb dX12_gain_2 rfl (lv_at hl 3 rfl) ?_
  refine CPV (As := [.int (iZ x1), .int (iZ x3)]) (rest := []) hx hb hml hown hts hKK hP (m_areTwo l D k ([.ref Ma, .ref Mn, .int (iZ Mst), .long Mtp, .long Mbt, .ref Ms, .ref My, .ref Mt, .ref Mp, .ref Mx, .int (iZ Mtd), .int (iZ Msz), .int (iZ Mtk), .int (iZ Mfr), .int (iZ Men), .int (iZ Mva), .int (iZ Mfk), .int (iZ Mfp), .int (iZ Mfs), .int (iZ Mse), .int (iZ Mlt), .ref Mo, .int (iZ Mdp), .int (iZ Mct), .ref Mk, .ref Ml, .ref Mb, .ref Mh, .ref Mc, .int (iZ Mdr), .int (iZ Mrs), .ref Mz, .ref Mr, .ref Mq, .int (iZ Mit), .int (iZ Mmk)]) hm Ma Af x1 x3 rfl hM ⟨by omega, by omega⟩ ⟨by omega, by omega⟩) ci_X12_areTwo qm_X12_265 ⟨Nat.le_of_ble_eq_true rfl, Nat.le_of_ble_eq_true rfl⟩ ⟨Nat.le_of_ble_eq_true rfl, Nat.le_of_ble_eq_true rfl⟩ 0 rfl rfl rfl hl.1 rfl (Nat.le_of_ble_eq_true rfl) dX12_gain_3 (fun z_1 hz_1 => ?_)
  rcases hz_1 with ⟨qz_1, hz_1⟩ | ⟨qz_1, hz_1⟩
  ·
    subst qz_1
    refine lv_if_eq (tgt := 30) hx hb dX12_gain_6 rfl (fun c => absurd c (by decide)) (fun _ => ?_)
    refine lv_iload_n hx hb dX12_gain_9 rfl (lv_at hl 2 rfl) ?_
    refine CPS (As := [.int (iZ x2)]) (rest := []) hx hb hml hown hts hKK (hP.sub (ws' := []) [] rfl) (m_isWeek l D k x2 ⟨by omega, by omega⟩) ci_X12_isWeek qm_X12_268 ⟨Nat.le_of_ble_eq_true rfl, Nat.le_of_ble_eq_true rfl⟩ ⟨Nat.le_of_ble_eq_true rfl, Nat.le_of_ble_eq_true rfl⟩ rfl hl.1 rfl (Nat.le_of_ble_eq_true rfl) dX12_gain_10 (fun z_3 hz_3 => ?_)
    rcases hz_3 with ⟨qz_3, hz_3⟩ | ⟨qz_3, hz_3⟩
    ·
      subst qz_3
      refine lv_if_eq (tgt := 30) hx hb dX12_gain_13 rfl (fun c => absurd c (by decide)) (fun _ => ?_)
      refine lv_aload_n hx hb dX12_gain_16 rfl (lv_at hl 0 rfl) ?_
      refine lv_aload_n hx hb dX12_gain_17 rfl (lv_at hl 0 rfl) ?_
      refine lv_iload_n hx hb dX12_gain_18 rfl (lv_at hl 1 rfl) ?_
      refine lv_iload_n hx hb dX12_gain_19 rfl (lv_at hl 2 rfl) ?_
      refine lv_iload_n hx hb dX12_gain_20 rfl (lv_at hl 3 rfl) ?_
      refine CPV (As := [.int (iZ x1), .int (iZ x2), .int (iZ x3)]) (rest := [.ref hm]) hx hb hml hown hts hKK hP (m_gain l D k ([.ref Ma, .ref Mn, .int (iZ Mst), .long Mtp, .long Mbt, .ref Ms, .ref My, .ref Mt, .ref Mp, .ref Mx, .int (iZ Mtd), .int (iZ Msz), .int (iZ Mtk), .int (iZ Mfr), .int (iZ Men), .int (iZ Mva), .int (iZ Mfk), .int (iZ Mfp), .int (iZ Mfs), .int (iZ Mse), .int (iZ Mlt), .ref Mo, .int (iZ Mdp), .int (iZ Mct), .ref Mk, .ref Ml, .ref Mb, .ref Mh, .ref Mc, .int (iZ Mdr), .int (iZ Mrs), .ref Mz, .ref Mr, .ref Mq, .int (iZ Mit), .int (iZ Mmk)]) hm Ma Af x1 x2 x3 rfl hM ⟨by omega, by omega⟩ ⟨by omega, by omega⟩ ⟨by omega, by omega⟩) ci_X12_gainOf qm_X12_356 ⟨Nat.le_of_ble_eq_true rfl, Nat.le_of_ble_eq_true rfl⟩ ⟨Nat.le_of_ble_eq_true rfl, Nat.le_of_ble_eq_true rfl⟩ 0 rfl rfl rfl hl.1 rfl (Nat.le_of_ble_eq_true rfl) dX12_gain_21 (fun z_5 hz_5 => ?_)
      obtain ⟨ez_5, az_5⟩ := hz_5
      refine CWV (As := [.int (iZ z_5)]) (rest := []) (wc := _) (wr := [(Ma, .inl (k 1, 5340, .inl Af))]) hx hb hml hown hts hKK hP hD hS hA (m_gives l D k hm Ma Mn Ms My Mt Mp Mx Mo Mk Ml Mb Mh Mc Mz Mr Mq Mst Mtd Msz Mtk Mfr Men Mva Mfk Mfp Mfs Mse Mlt Mdp Mct Mdr Mrs Mit Mmk Mtp Mbt z_5) ci_X12_gives qm_X12_85 ⟨Nat.le_of_ble_eq_true rfl, Nat.le_of_ble_eq_true rfl⟩ ⟨Nat.le_of_ble_eq_true rfl, Nat.le_of_ble_eq_true rfl⟩ [0] [1] rfl rfl rfl rfl rfl (dj rfl) 0 rfl rfl rfl hl.1 rfl (Nat.le_of_ble_eq_true rfl) dX12_gain_24 (fun u_6 H locs hφ hP hD hS => ?_)
      refine W.eq (g2 := F0 m 27 ls [.int (iZ z_5)]) rfl ?_
      refine lv_goto (tgt := 35) hx hb dX12_gain_27 rfl ?_
      exact EWi hx hb hr hlocks hS ((z_5, 0), 0, (), ()) rfl (show (((0 ≤ x1 ∧ x1 < (gz Af 0)) ∧ (0 ≤ x3 ∧ x3 < (gz Af 0)) ∧ ¬ x1 = x3 ∧ (0 ≤ x2 ∧ x2 ≤ 400)) ∧ (z_5 : Int) = gnF (sh Af 10) x1 x2 x3) ∨ (¬ ((0 ≤ x1 ∧ x1 < (gz Af 0)) ∧ (0 ≤ x3 ∧ x3 < (gz Af 0)) ∧ ¬ x1 = x3 ∧ (0 ≤ x2 ∧ x2 ≤ 400)) ∧ (z_5 : Int) = -1) from (by omega)) (hP.sub [1, 0] rfl) (hD.sub [1, 0] rfl rfl) dX12_gain_35
    ·
      subst qz_3
      refine lv_if_eq (tgt := 30) hx hb dX12_gain_13 rfl (fun _ => ?_) (fun c => absurd (by decide) c)
      refine lv_aload_n hx hb dX12_gain_30 rfl (lv_at hl 0 rfl) ?_
      refine lv_iconst (v := iZ 1) hx hb dX12_gain_31 rfl ?_
      refine CWV (As := [.int (iZ 1)]) (rest := []) (wc := _) (wr := [(Ma, .inl (k 1, 5340, .inl Af))]) hx hb hml hown hts hKK hP hD hS hA (m_refuse l D k hm Ma Mn Ms My Mt Mp Mx Mo Mk Ml Mb Mh Mc Mz Mr Mq Mst Mtd Msz Mtk Mfr Men Mva Mfk Mfp Mfs Mse Mlt Mdp Mct Mdr Mrs Mit Mmk Mtp Mbt 1) ci_X12_refuse qm_X12_81 ⟨Nat.le_of_ble_eq_true rfl, Nat.le_of_ble_eq_true rfl⟩ ⟨Nat.le_of_ble_eq_true rfl, Nat.le_of_ble_eq_true rfl⟩ [0] [1] rfl rfl rfl rfl rfl (dj rfl) 0 rfl rfl rfl hl.1 rfl (Nat.le_of_ble_eq_true rfl) dX12_gain_32 (fun u_8 H locs hφ hP hD hS => ?_)
      refine W.eq (g2 := F0 m 35 ls [.int (iZ (-1))]) rfl ?_
      exact EWi hx hb hr hlocks hS (((-1), 1), 0, (), ()) rfl (show (((0 ≤ x1 ∧ x1 < (gz Af 0)) ∧ (0 ≤ x3 ∧ x3 < (gz Af 0)) ∧ ¬ x1 = x3 ∧ (0 ≤ x2 ∧ x2 ≤ 400)) ∧ ((-1) : Int) = gnF (sh Af 10) x1 x2 x3) ∨ (¬ ((0 ≤ x1 ∧ x1 < (gz Af 0)) ∧ (0 ≤ x3 ∧ x3 < (gz Af 0)) ∧ ¬ x1 = x3 ∧ (0 ≤ x2 ∧ x2 ≤ 400)) ∧ ((-1) : Int) = -1) from (by omega)) (hP.sub [1, 0] rfl) (hD.sub [1, 0] rfl rfl) dX12_gain_35
  ·
    subst qz_1
    refine lv_if_eq (tgt := 30) hx hb dX12_gain_6 rfl (fun _ => ?_) (fun c => absurd (by decide) c)
    refine lv_aload_n hx hb dX12_gain_30 rfl (lv_at hl 0 rfl) ?_
    refine lv_iconst (v := iZ 1) hx hb dX12_gain_31 rfl ?_
    refine CWV (As := [.int (iZ 1)]) (rest := []) (wc := _) (wr := [(Ma, .inl (k 1, 5340, .inl Af))]) hx hb hml hown hts hKK hP hD hS hA (m_refuse l D k hm Ma Mn Ms My Mt Mp Mx Mo Mk Ml Mb Mh Mc Mz Mr Mq Mst Mtd Msz Mtk Mfr Men Mva Mfk Mfp Mfs Mse Mlt Mdp Mct Mdr Mrs Mit Mmk Mtp Mbt 1) ci_X12_refuse qm_X12_81 ⟨Nat.le_of_ble_eq_true rfl, Nat.le_of_ble_eq_true rfl⟩ ⟨Nat.le_of_ble_eq_true rfl, Nat.le_of_ble_eq_true rfl⟩ [0] [1] rfl rfl rfl rfl rfl (dj rfl) 0 rfl rfl rfl hl.1 rfl (Nat.le_of_ble_eq_true rfl) dX12_gain_32 (fun u_10 H locs hφ hP hD hS => ?_)
    refine W.eq (g2 := F0 m 35 ls [.int (iZ (-1))]) rfl ?_
    exact EWi hx hb hr hlocks hS (((-1), 1), 0, (), ()) rfl (show (((0 ≤ x1 ∧ x1 < (gz Af 0)) ∧ (0 ≤ x3 ∧ x3 < (gz Af 0)) ∧ ¬ x1 = x3 ∧ (0 ≤ x2 ∧ x2 ≤ 400)) ∧ ((-1) : Int) = gnF (sh Af 10) x1 x2 x3) ∨ (¬ ((0 ≤ x1 ∧ x1 < (gz Af 0)) ∧ (0 ≤ x3 ∧ x3 < (gz Af 0)) ∧ ¬ x1 = x3 ∧ (0 ≤ x2 ∧ x2 ≤ 400)) ∧ ((-1) : Int) = -1) from (by omega)) (hP.sub [1, 0] rfl) (hD.sub [1, 0] rfl rfl) dX12_gain_35
set_option maxHeartbeats 4000000 in
set_option maxRecDepth 100000 in
theorem q_blind (l : Launch) (D : va_G) (k : Nat → ClassId) (hm : Nat) (Ma : Nat) (Mn : Nat) (Ms : Nat) (My : Nat) (Mt : Nat) (Mp : Nat) (Mx : Nat) (Mo : Nat) (Mk : Nat) (Ml : Nat) (Mb : Nat) (Mh : Nat) (Mc : Nat) (Mz : Nat) (Mr : Nat) (Mq : Nat) (Mst : Int) (Mtd : Int) (Msz : Int) (Mtk : Int) (Mfr : Int) (Men : Int) (Mva : Int) (Mfk : Int) (Mfp : Int) (Mfs : Int) (Mse : Int) (Mlt : Int) (Mdp : Int) (Mct : Int) (Mdr : Int) (Mrs : Int) (Mit : Int) (Mmk : Int) (Mtp : Int64) (Mbt : Int64) (Af : Nat → Int32) (x1 : Int) (hM : M0 Af) (h9x1 : -2147483648 ≤ x1 ∧ x1 < 2147483648) : WD (σ := ((Int × Int) × (Int64) × (Unit) × (Unit))) l yX12_blind cX12_blind 6 (some .int) 6 0 0 D k [.ref hm, .int (iZ x1)] [(hm, .inr (12, [.ref Ma, .ref Mn, .int (iZ Mst), .long Mtp, .long Mbt, .ref Ms, .ref My, .ref Mt, .ref Mp, .ref Mx, .int (iZ Mtd), .int (iZ Msz), .int (iZ Mtk), .int (iZ Mfr), .int (iZ Men), .int (iZ Mva), .int (iZ Mfk), .int (iZ Mfp), .int (iZ Mfs), .int (iZ Mse), .int (iZ Mlt), .ref Mo, .int (iZ Mdp), .int (iZ Mct), .ref Mk, .ref Ml, .ref Mb, .ref Mh, .ref Mc, .int (iZ Mdr), .int (iZ Mrs), .ref Mz, .ref Mr, .ref Mq, .int (iZ Mit), .int (iZ Mmk)])), (Ma, .inl (k 1, 5340, .inl Af))] (fun u => some (.int (iZ u.1.1))) (fun _ => True) (fun u => [(hm, .inr (12, [.ref Ma, .ref Mn, .int (iZ u.1.2), .long Mtp, .long Mbt, .ref Ms, .ref My, .ref Mt, .ref Mp, .ref Mx, .int (iZ Mtd), .int (iZ Msz), .int (iZ Mtk), .int (iZ Mfr), .int (iZ Men), .int (iZ Mva), .int (iZ Mfk), .int (iZ Mfp), .int (iZ Mfs), .int (iZ Mse), .int (iZ Mlt), .ref Mo, .int (iZ Mdp), .int (iZ Mct), .ref Mk, .ref Ml, .ref Mb, .ref Mh, .ref Mc, .int (iZ Mdr), .int (iZ Mrs), .ref Mz, .ref Mr, .ref Mq, .int (iZ Mit), .int (iZ Mmk)])), (Ma, .inl (k 1, 5340, .inl Af))]) := by
  refine MW (by decide) (Nat.le_of_ble_eq_true rfl) (fun p e s m below meth c ls A hx hb hml hr hlocks hin hts hown hKK hP hD hS hA hl => ?_)
  have hK := hKK.1
  have hl : lv_has ls 6 [(0, .ref hm), (1, .int (iZ x1))] := hl
  obtain ⟨m0, m1, m3, m4, m5, mF, mO, mS⟩ := id hM
  refine lv_aload_n hx hb dX12_blind_0 rfl (lv_at hl 0 rfl) ?_
  refine lv_iload_n hx hb dX12_blind_1 rfl (lv_at hl 1 rfl) ?_
  refine CPV (As := [.int (iZ x1)]) (rest := []) hx hb hml hown hts hKK hP (m_isRock l D k ([.ref Ma, .ref Mn, .int (iZ Mst), .long Mtp, .long Mbt, .ref Ms, .ref My, .ref Mt, .ref Mp, .ref Mx, .int (iZ Mtd), .int (iZ Msz), .int (iZ Mtk), .int (iZ Mfr), .int (iZ Men), .int (iZ Mva), .int (iZ Mfk), .int (iZ Mfp), .int (iZ Mfs), .int (iZ Mse), .int (iZ Mlt), .ref Mo, .int (iZ Mdp), .int (iZ Mct), .ref Mk, .ref Ml, .ref Mb, .ref Mh, .ref Mc, .int (iZ Mdr), .int (iZ Mrs), .ref Mz, .ref Mr, .ref Mq, .int (iZ Mit), .int (iZ Mmk)]) hm Ma Af x1 rfl hM ⟨by omega, by omega⟩) ci_X12_isRock qm_X12_243 ⟨Nat.le_of_ble_eq_true rfl, Nat.le_of_ble_eq_true rfl⟩ ⟨Nat.le_of_ble_eq_true rfl, Nat.le_of_ble_eq_true rfl⟩ 0 rfl rfl rfl hl.1 rfl (Nat.le_of_ble_eq_true rfl) dX12_blind_2 (fun z_1 hz_1 => ?_)
  rcases hz_1 with ⟨qz_1, hz_1⟩ | ⟨qz_1, hz_1⟩
  ·
    subst qz_1
    refine lv_if_ne (tgt := 14) hx hb dX12_blind_5 rfl (fun _ => ?_) (fun c => absurd c (by decide))
    refine lv_iconst (v := iZ 0) hx hb dX12_blind_14 rfl ?_
    refine lv_istore_n (lv' := [(2, .int (iZ 0)), (0, .ref hm), (1, .int (iZ x1))]) hx hb dX12_blind_15 rfl hl (bl rfl) rfl (fun ls hl => ?_)
    refine lv_iconst (v := iZ 0) hx hb dX12_blind_16 rfl ?_
    refine lv_istore_n (lv' := [(3, .int (iZ 0)), (2, .int (iZ 0)), (0, .ref hm), (1, .int (iZ x1))]) hx hb dX12_blind_17 rfl hl (bl rfl) rfl (fun ls hl => ?_)
    have HL18 : ∀ (fu : Nat) (v2_18 : Int) (v3_18 : Int) (H : Heap) (locs : List Loc) (ls : Array Slot), ((400) + 2 - v3_18) < (fu : Int) → ((0 ≤ v3_18 ∧ v3_18 ≤ (400) + 1)) → (0 ≤ v2_18 ∧ v2_18 ≤ v3_18) → va_P D vwCl [(hm, .inr (12, [.ref Ma, .ref Mn, .int (iZ Mst), .long Mtp, .long Mbt, .ref Ms, .ref My, .ref Mt, .ref Mp, .ref Mx, .int (iZ Mtd), .int (iZ Msz), .int (iZ Mtk), .int (iZ Mfr), .int (iZ Men), .int (iZ Mva), .int (iZ Mfk), .int (iZ Mfp), .int (iZ Mfs), .int (iZ Mse), .int (iZ Mlt), .ref Mo, .int (iZ Mdp), .int (iZ Mct), .ref Mk, .ref Ml, .ref Mb, .ref Mh, .ref Mc, .int (iZ Mdr), .int (iZ Mrs), .ref Mz, .ref Mr, .ref Mq, .int (iZ Mit), .int (iZ Mmk)])), (Ma, .inl (k 1, 5340, .inl Af))] H → va_D A [(hm, .inr (12, [.ref Ma, .ref Mn, .int (iZ Mst), .long Mtp, .long Mbt, .ref Ms, .ref My, .ref Mt, .ref Mp, .ref Mx, .int (iZ Mtd), .int (iZ Msz), .int (iZ Mtk), .int (iZ Mfr), .int (iZ Men), .int (iZ Mva), .int (iZ Mfk), .int (iZ Mfp), .int (iZ Mfs), .int (iZ Mse), .int (iZ Mlt), .ref Mo, .int (iZ Mdp), .int (iZ Mct), .ref Mk, .ref Ml, .ref Mb, .ref Mh, .ref Mc, .int (iZ Mdr), .int (iZ Mrs), .ref Mz, .ref Mr, .ref Mq, .int (iZ Mit), .int (iZ Mmk)])), (Ma, .inl (k 1, 5340, .inl Af))] → va_S A s.heap H locs → lv_has ls 6 [(3, .int (iZ v3_18)), (2, .int (iZ v2_18)), (0, .ref hm), (1, .int (iZ x1))] → W p l e (rj 6 0 0) s m [.ref hm, .int (iZ x1)].toArray below meth c H locs 0 0 (MQ below (QW (σ := ((Int × Int) × (Int64) × (Unit) × (Unit))) (fun u => some (.int (iZ u.1.1))) (fun _ => True) (fun u => [(hm, .inr (12, [.ref Ma, .ref Mn, .int (iZ u.1.2), .long Mtp, .long Mbt, .ref Ms, .ref My, .ref Mt, .ref Mp, .ref Mx, .int (iZ Mtd), .int (iZ Msz), .int (iZ Mtk), .int (iZ Mfr), .int (iZ Men), .int (iZ Mva), .int (iZ Mfk), .int (iZ Mfp), .int (iZ Mfs), .int (iZ Mse), .int (iZ Mlt), .ref Mo, .int (iZ Mdp), .int (iZ Mct), .ref Mk, .ref Ml, .ref Mb, .ref Mh, .ref Mc, .int (iZ Mdr), .int (iZ Mrs), .ref Mz, .ref Mr, .ref Mq, .int (iZ Mit), .int (iZ Mmk)])), (Ma, .inl (k 1, 5340, .inl Af))]) D A) [.ref hm, .int (iZ x1)].toArray s 0 0 A) (F0 m 18 ls []) := by
      intro fu
      induction fu with
      | zero => intro v2_18 v3_18 H locs ls hμ18 hi18 hf0_18 hP hD hS hl; exact absurd hμ18 (by omega)
      | succ fu ih18 =>
        intro v2_18 v3_18 H locs ls hμ18 hi18 hf0_18 hP hD hS hl
        refine lv_iload_n hx hb dX12_blind_18 rfl (lv_at hl 0 rfl) ?_
        refine lv_sipush (v := iZ 400) hx hb dX12_blind_19 sip_400 ?_
        refine lv_icmp_gt (tgt := 97) hx hb dX12_blind_22 rfl (fun c_3 => ?_) (fun c_3 => ?_)
        ·
          have c_3 := (zlt (x := iZ 400) (y := iZ v3_18) rfl rfl wn_400 ⟨by omega, by omega⟩).mp c_3
          refine lv_aload_n hx hb dX12_blind_97 rfl (lv_at hl 2 rfl) ?_
          refine lv_iload_n hx hb dX12_blind_98 rfl (lv_at hl 1 rfl) ?_
          refine CWV (As := [.int (iZ v2_18)]) (rest := []) (wc := _) (wr := [(Ma, .inl (k 1, 5340, .inl Af))]) hx hb hml hown hts hKK hP hD hS hA (m_gives l D k hm Ma Mn Ms My Mt Mp Mx Mo Mk Ml Mb Mh Mc Mz Mr Mq Mst Mtd Msz Mtk Mfr Men Mva Mfk Mfp Mfs Mse Mlt Mdp Mct Mdr Mrs Mit Mmk Mtp Mbt v2_18) ci_X12_gives qm_X12_85 ⟨Nat.le_of_ble_eq_true rfl, Nat.le_of_ble_eq_true rfl⟩ ⟨Nat.le_of_ble_eq_true rfl, Nat.le_of_ble_eq_true rfl⟩ [0] [1] rfl rfl rfl rfl rfl (dj rfl) 0 rfl rfl rfl hl.1 rfl (Nat.le_of_ble_eq_true rfl) dX12_blind_99 (fun u_4 H locs hφ hP hD hS => ?_)
          refine W.eq (g2 := F0 m 102 ls [.int (iZ v2_18)]) rfl ?_
          exact EWi hx hb hr hlocks hS ((v2_18, 0), 0, (), ()) rfl trivial (hP.sub [1, 0] rfl) (hD.sub [1, 0] rfl rfl) dX12_blind_102
        ·
          have c_3 := mt (zlt (x := iZ 400) (y := iZ v3_18) rfl rfl wn_400 ⟨by omega, by omega⟩).mpr c_3
          refine lv_iconst (v := iZ 0) hx hb dX12_blind_25 rfl ?_
          refine lv_istore (lv' := [(4, .int (iZ 0)), (3, .int (iZ v3_18)), (2, .int (iZ v2_18)), (0, .ref hm), (1, .int (iZ x1))]) hx hb dX12_blind_26 hl (bl rfl) rfl (fun ls hl => ?_)
          refine lv_iconst (v := iZ 0) hx hb dX12_blind_28 rfl ?_
          refine lv_istore (lv' := [(5, .int (iZ 0)), (4, .int (iZ 0)), (3, .int (iZ v3_18)), (2, .int (iZ v2_18)), (0, .ref hm), (1, .int (iZ x1))]) hx hb dX12_blind_29 hl (bl rfl) rfl (fun ls hl => ?_)
          have HL31 : ∀ (fu : Nat) (v4_31 : Int) (v5_31 : Int) (H : Heap) (locs : List Loc) (ls : Array Slot), ((gz Af 0) + 2 - v5_31) < (fu : Int) → ((0 ≤ v5_31 ∧ v5_31 ≤ (gz Af 0) + 1)) → (0 ≤ v4_31 ∧ v4_31 ≤ 1) → va_P D vwCl [(hm, .inr (12, [.ref Ma, .ref Mn, .int (iZ Mst), .long Mtp, .long Mbt, .ref Ms, .ref My, .ref Mt, .ref Mp, .ref Mx, .int (iZ Mtd), .int (iZ Msz), .int (iZ Mtk), .int (iZ Mfr), .int (iZ Men), .int (iZ Mva), .int (iZ Mfk), .int (iZ Mfp), .int (iZ Mfs), .int (iZ Mse), .int (iZ Mlt), .ref Mo, .int (iZ Mdp), .int (iZ Mct), .ref Mk, .ref Ml, .ref Mb, .ref Mh, .ref Mc, .int (iZ Mdr), .int (iZ Mrs), .ref Mz, .ref Mr, .ref Mq, .int (iZ Mit), .int (iZ Mmk)])), (Ma, .inl (k 1, 5340, .inl Af))] H → va_D A [(hm, .inr (12, [.ref Ma, .ref Mn, .int (iZ Mst), .long Mtp, .long Mbt, .ref Ms, .ref My, .ref Mt, .ref Mp, .ref Mx, .int (iZ Mtd), .int (iZ Msz), .int (iZ Mtk), .int (iZ Mfr), .int (iZ Men), .int (iZ Mva), .int (iZ Mfk), .int (iZ Mfp), .int (iZ Mfs), .int (iZ Mse), .int (iZ Mlt), .ref Mo, .int (iZ Mdp), .int (iZ Mct), .ref Mk, .ref Ml, .ref Mb, .ref Mh, .ref Mc, .int (iZ Mdr), .int (iZ Mrs), .ref Mz, .ref Mr, .ref Mq, .int (iZ Mit), .int (iZ Mmk)])), (Ma, .inl (k 1, 5340, .inl Af))] → va_S A s.heap H locs → lv_has ls 6 [(5, .int (iZ v5_31)), (4, .int (iZ v4_31)), (3, .int (iZ v3_18)), (2, .int (iZ v2_18)), (0, .ref hm), (1, .int (iZ x1))] → W p l e (rj 6 0 0) s m [.ref hm, .int (iZ x1)].toArray below meth c H locs 0 0 (MQ below (QW (σ := ((Int × Int) × (Int64) × (Unit) × (Unit))) (fun u => some (.int (iZ u.1.1))) (fun _ => True) (fun u => [(hm, .inr (12, [.ref Ma, .ref Mn, .int (iZ u.1.2), .long Mtp, .long Mbt, .ref Ms, .ref My, .ref Mt, .ref Mp, .ref Mx, .int (iZ Mtd), .int (iZ Msz), .int (iZ Mtk), .int (iZ Mfr), .int (iZ Men), .int (iZ Mva), .int (iZ Mfk), .int (iZ Mfp), .int (iZ Mfs), .int (iZ Mse), .int (iZ Mlt), .ref Mo, .int (iZ Mdp), .int (iZ Mct), .ref Mk, .ref Ml, .ref Mb, .ref Mh, .ref Mc, .int (iZ Mdr), .int (iZ Mrs), .ref Mz, .ref Mr, .ref Mq, .int (iZ Mit), .int (iZ Mmk)])), (Ma, .inl (k 1, 5340, .inl Af))]) D A) [.ref hm, .int (iZ x1)].toArray s 0 0 A) (F0 m 31 ls []) := by
            intro fu
            induction fu with
            | zero => intro v4_31 v5_31 H locs ls hμ31 hi31 hf0_31 hP hD hS hl; exact absurd hμ31 (by omega)
            | succ fu ih31 =>
              intro v4_31 v5_31 H locs ls hμ31 hi31 hf0_31 hP hD hS hl
              refine lv_iload hx hb dX12_blind_31 (lv_at hl 0 rfl) ?_
              refine lv_aload_n hx hb dX12_blind_33 rfl (lv_at hl 4 rfl) ?_
              refine va_get (D := D) (ci := 12) (v := .ref Ma) (C := RX12) (T := TX12) (N := 36) hx hb hts iX12 hown hK hP 0 rfl rfl 0 (bl rfl) (hts _ qf_X12_7) (fun _ h => h) rfl dX12_blind_34 ?_
              refine lv_iconst (v := iZ 0) hx hb dX12_blind_37 rfl ?_
              refine va_iald hx hb hK hP 1 1 rfl rfl (zin (e := 0) (n := 5340) ⟨by omega, by omega⟩ (bl rfl)) dX12_blind_38 ?_
              refine lv_topi (fun x_5 ex_5 => ?_)
              obtain rfl : x_5 = iZ (gz Af 0) := ex_5.trans (gz_eq ⟨by omega, by omega⟩)
              have h_6 := gz_rg Af 0
              refine lv_icmp_ge (tgt := 78) hx hb dX12_blind_39 rfl (fun c_7 => ?_) (fun c_7 => ?_)
              ·
                have c_7 := (zle (x := iZ (gz Af 0)) (y := iZ v5_31) rfl rfl (gz_rg Af 0) ⟨by omega, by omega⟩).mp c_7
                refine lv_iload_n hx hb dX12_blind_78 rfl (lv_at hl 3 rfl) ?_
                refine lv_iload hx hb dX12_blind_79 (lv_at hl 1 rfl) ?_
                refine lv_if_eq (tgt := 88) hx hb dX12_blind_81 rfl (fun c_8 => ?_) (fun c_8 => ?_)
                ·
                  have c_8 := (zeq (x := iZ v4_31) (y := iZ 0) rfl rfl ⟨by omega, by omega⟩ wn_0).mp c_8
                  refine lv_iconst (v := iZ 1) hx hb dX12_blind_88 rfl ?_
                  refine lv_iadd hx hb dX12_blind_89 ?_
                  refine lv_topi (fun x_9 ex_9 => ?_)
                  obtain rfl : x_9 = iZ (v2_18 + 1) := ex_9.trans (iZ_add v2_18 1)
                  refine lv_istore_n (lv' := [(2, .int (iZ (v2_18 + 1))), (5, .int (iZ v5_31)), (4, .int (iZ v4_31)), (3, .int (iZ v3_18)), (0, .ref hm), (1, .int (iZ x1))]) hx hb dX12_blind_90 rfl hl (bl rfl) rfl (fun ls hl => ?_)
                  refine lv_iinc (v := iZ (v3_18 + 1)) (lv' := [(3, .int (iZ (v3_18 + 1))), (2, .int (iZ (v2_18 + 1))), (5, .int (iZ v5_31)), (4, .int (iZ v4_31)), (0, .ref hm), (1, .int (iZ x1))]) hx hb dX12_blind_91 hl (k := 3) rfl (iZ_add v3_18 1) (by decide) rfl (fun ls hl => ?_)
                  refine lv_goto (tgt := 18) hx hb dX12_blind_94 rfl ?_
                  exact ih18  (v2_18 + 1) (v3_18 + 1) _ _ _ (by omega) (show (0 ≤ (v3_18 + 1) ∧ (v3_18 + 1) ≤ (400) + 1) from ⟨by omega, by omega⟩) (show 0 ≤ (v2_18 + 1) ∧ (v2_18 + 1) ≤ (v3_18 + 1) from (by omega)) (hP.sub [0, 1] rfl) (hD.sub [0, 1] rfl rfl) hS (lv_sub hl [0, 1, 4, 5] rfl)
                ·
                  have c_8 := mt (zeq (x := iZ v4_31) (y := iZ 0) rfl rfl ⟨by omega, by omega⟩ wn_0).mpr c_8
                  refine lv_iconst (v := iZ 0) hx hb dX12_blind_84 rfl ?_
                  refine lv_goto (tgt := 89) hx hb dX12_blind_85 rfl ?_
                  refine lv_iadd hx hb dX12_blind_89 ?_
                  refine lv_topi (fun x_10 ex_10 => ?_)
                  obtain rfl : x_10 = iZ (v2_18 + 0) := ex_10.trans (iZ_add v2_18 0)
                  refine lv_istore_n (lv' := [(2, .int (iZ (v2_18 + 0))), (5, .int (iZ v5_31)), (4, .int (iZ v4_31)), (3, .int (iZ v3_18)), (0, .ref hm), (1, .int (iZ x1))]) hx hb dX12_blind_90 rfl hl (bl rfl) rfl (fun ls hl => ?_)
                  refine lv_iinc (v := iZ (v3_18 + 1)) (lv' := [(3, .int (iZ (v3_18 + 1))), (2, .int (iZ (v2_18 + 0))), (5, .int (iZ v5_31)), (4, .int (iZ v4_31)), (0, .ref hm), (1, .int (iZ x1))]) hx hb dX12_blind_91 hl (k := 3) rfl (iZ_add v3_18 1) (by decide) rfl (fun ls hl => ?_)
                  refine lv_goto (tgt := 18) hx hb dX12_blind_94 rfl ?_
                  exact ih18  (v2_18 + 0) (v3_18 + 1) _ _ _ (by omega) (show (0 ≤ (v3_18 + 1) ∧ (v3_18 + 1) ≤ (400) + 1) from ⟨by omega, by omega⟩) (show 0 ≤ (v2_18 + 0) ∧ (v2_18 + 0) ≤ (v3_18 + 1) from (by omega)) (hP.sub [0, 1] rfl) (hD.sub [0, 1] rfl rfl) hS (lv_sub hl [0, 1, 4, 5] rfl)
              ·
                have c_7 := mt (zle (x := iZ (gz Af 0)) (y := iZ v5_31) rfl rfl (gz_rg Af 0) ⟨by omega, by omega⟩).mpr c_7
                refine lv_iload hx hb dX12_blind_42 (lv_at hl 1 rfl) ?_
                refine lv_if_ne (tgt := 78) hx hb dX12_blind_44 rfl (fun c_11 => ?_) (fun c_11 => ?_)
                ·
                  have c_11 := mt (zeq (x := iZ v4_31) (y := iZ 0) rfl rfl ⟨by omega, by omega⟩ wn_0).mpr c_11
                  refine lv_iload_n hx hb dX12_blind_78 rfl (lv_at hl 3 rfl) ?_
                  refine lv_iload hx hb dX12_blind_79 (lv_at hl 1 rfl) ?_
                  refine lv_if_eq (tgt := 88) hx hb dX12_blind_81 rfl (fun c_12 => ?_) (fun c_12 => ?_)
                  ·
                    have c_12 := (zeq (x := iZ v4_31) (y := iZ 0) rfl rfl ⟨by omega, by omega⟩ wn_0).mp c_12
                    refine lv_iconst (v := iZ 1) hx hb dX12_blind_88 rfl ?_
                    refine lv_iadd hx hb dX12_blind_89 ?_
                    refine lv_topi (fun x_13 ex_13 => ?_)
                    obtain rfl : x_13 = iZ (v2_18 + 1) := ex_13.trans (iZ_add v2_18 1)
                    refine lv_istore_n (lv' := [(2, .int (iZ (v2_18 + 1))), (5, .int (iZ v5_31)), (4, .int (iZ v4_31)), (3, .int (iZ v3_18)), (0, .ref hm), (1, .int (iZ x1))]) hx hb dX12_blind_90 rfl hl (bl rfl) rfl (fun ls hl => ?_)
                    refine lv_iinc (v := iZ (v3_18 + 1)) (lv' := [(3, .int (iZ (v3_18 + 1))), (2, .int (iZ (v2_18 + 1))), (5, .int (iZ v5_31)), (4, .int (iZ v4_31)), (0, .ref hm), (1, .int (iZ x1))]) hx hb dX12_blind_91 hl (k := 3) rfl (iZ_add v3_18 1) (by decide) rfl (fun ls hl => ?_)
                    refine lv_goto (tgt := 18) hx hb dX12_blind_94 rfl ?_
                    exact ih18  (v2_18 + 1) (v3_18 + 1) _ _ _ (by omega) (show (0 ≤ (v3_18 + 1) ∧ (v3_18 + 1) ≤ (400) + 1) from ⟨by omega, by omega⟩) (show 0 ≤ (v2_18 + 1) ∧ (v2_18 + 1) ≤ (v3_18 + 1) from (by omega)) (hP.sub [0, 1] rfl) (hD.sub [0, 1] rfl rfl) hS (lv_sub hl [0, 1, 4, 5] rfl)
                  ·
                    have c_12 := mt (zeq (x := iZ v4_31) (y := iZ 0) rfl rfl ⟨by omega, by omega⟩ wn_0).mpr c_12
                    refine lv_iconst (v := iZ 0) hx hb dX12_blind_84 rfl ?_
                    refine lv_goto (tgt := 89) hx hb dX12_blind_85 rfl ?_
                    refine lv_iadd hx hb dX12_blind_89 ?_
                    refine lv_topi (fun x_14 ex_14 => ?_)
                    obtain rfl : x_14 = iZ (v2_18 + 0) := ex_14.trans (iZ_add v2_18 0)
                    refine lv_istore_n (lv' := [(2, .int (iZ (v2_18 + 0))), (5, .int (iZ v5_31)), (4, .int (iZ v4_31)), (3, .int (iZ v3_18)), (0, .ref hm), (1, .int (iZ x1))]) hx hb dX12_blind_90 rfl hl (bl rfl) rfl (fun ls hl => ?_)
                    refine lv_iinc (v := iZ (v3_18 + 1)) (lv' := [(3, .int (iZ (v3_18 + 1))), (2, .int (iZ (v2_18 + 0))), (5, .int (iZ v5_31)), (4, .int (iZ v4_31)), (0, .ref hm), (1, .int (iZ x1))]) hx hb dX12_blind_91 hl (k := 3) rfl (iZ_add v3_18 1) (by decide) rfl (fun ls hl => ?_)
                    refine lv_goto (tgt := 18) hx hb dX12_blind_94 rfl ?_
                    exact ih18  (v2_18 + 0) (v3_18 + 1) _ _ _ (by omega) (show (0 ≤ (v3_18 + 1) ∧ (v3_18 + 1) ≤ (400) + 1) from ⟨by omega, by omega⟩) (show 0 ≤ (v2_18 + 0) ∧ (v2_18 + 0) ≤ (v3_18 + 1) from (by omega)) (hP.sub [0, 1] rfl) (hD.sub [0, 1] rfl rfl) hS (lv_sub hl [0, 1, 4, 5] rfl)
                ·
                  have c_11 := (zeq (x := iZ v4_31) (y := iZ 0) rfl rfl ⟨by omega, by omega⟩ wn_0).mp c_11
                  refine lv_iload hx hb dX12_blind_47 (lv_at hl 0 rfl) ?_
                  refine lv_iload_n hx hb dX12_blind_49 rfl (lv_at hl 5 rfl) ?_
                  refine lv_icmp_eq (tgt := 69) hx hb dX12_blind_50 rfl (fun c_15 => ?_) (fun c_15 => ?_)
                  ·
                    have c_15 := (zeq (x := iZ v5_31) (y := iZ x1) rfl rfl ⟨by omega, by omega⟩ ⟨by omega, by omega⟩).mp c_15
                    refine lv_iconst (v := iZ 0) hx hb dX12_blind_69 rfl ?_
                    refine lv_istore (lv' := [(4, .int (iZ 0)), (5, .int (iZ v5_31)), (3, .int (iZ v3_18)), (2, .int (iZ v2_18)), (0, .ref hm), (1, .int (iZ x1))]) hx hb dX12_blind_70 hl (bl rfl) rfl (fun ls hl => ?_)
                    refine lv_iinc (v := iZ (v5_31 + 1)) (lv' := [(5, .int (iZ (v5_31 + 1))), (4, .int (iZ 0)), (3, .int (iZ v3_18)), (2, .int (iZ v2_18)), (0, .ref hm), (1, .int (iZ x1))]) hx hb dX12_blind_72 hl (k := 1) rfl (iZ_add v5_31 1) (by decide) rfl (fun ls hl => ?_)
                    refine lv_goto (tgt := 31) hx hb dX12_blind_75 rfl ?_
                    exact ih31  0 (v5_31 + 1) _ _ _ (by omega) (show (0 ≤ (v5_31 + 1) ∧ (v5_31 + 1) ≤ (gz Af 0) + 1) from ⟨by omega, by omega⟩) (show 0 ≤ 0 ∧ 0 ≤ 1 from (by omega)) (hP.sub [0, 1] rfl) (hD.sub [0, 1] rfl rfl) hS (lv_sub hl [0, 1, 2, 3, 4, 5] rfl)
                  ·
                    have c_15 := mt (zeq (x := iZ v5_31) (y := iZ x1) rfl rfl ⟨by omega, by omega⟩ ⟨by omega, by omega⟩).mpr c_15
                    refine lv_aload_n hx hb dX12_blind_53 rfl (lv_at hl 4 rfl) ?_
                    refine lv_iload_n hx hb dX12_blind_54 rfl (lv_at hl 5 rfl) ?_
                    refine lv_iload hx hb dX12_blind_55 (lv_at hl 0 rfl) ?_
                    refine lv_iload_n hx hb dX12_blind_57 rfl (lv_at hl 2 rfl) ?_
                    refine CPV (As := [.int (iZ x1), .int (iZ v5_31), .int (iZ v3_18)]) (rest := []) hx hb hml hown hts hKK hP (m_seen l D k ([.ref Ma, .ref Mn, .int (iZ Mst), .long Mtp, .long Mbt, .ref Ms, .ref My, .ref Mt, .ref Mp, .ref Mx, .int (iZ Mtd), .int (iZ Msz), .int (iZ Mtk), .int (iZ Mfr), .int (iZ Men), .int (iZ Mva), .int (iZ Mfk), .int (iZ Mfp), .int (iZ Mfs), .int (iZ Mse), .int (iZ Mlt), .ref Mo, .int (iZ Mdp), .int (iZ Mct), .ref Mk, .ref Ml, .ref Mb, .ref Mh, .ref Mc, .int (iZ Mdr), .int (iZ Mrs), .ref Mz, .ref Mr, .ref Mq, .int (iZ Mit), .int (iZ Mmk)]) hm Ma Af x1 v5_31 v3_18 rfl hM ⟨by omega, by omega⟩ ⟨by omega, by omega⟩ ⟨by omega, by omega⟩) ci_X12_seenBy qm_X12_287 ⟨Nat.le_of_ble_eq_true rfl, Nat.le_of_ble_eq_true rfl⟩ ⟨Nat.le_of_ble_eq_true rfl, Nat.le_of_ble_eq_true rfl⟩ 0 rfl rfl rfl hl.1 rfl (Nat.le_of_ble_eq_true rfl) dX12_blind_58 (fun z_16 hz_16 => ?_)
                    obtain ⟨ez_16, az_16⟩ := hz_16
                    refine lv_iconst (v := iZ (-1)) hx hb dX12_blind_61 rfl ?_
                    refine lv_icmp_eq (tgt := 69) hx hb dX12_blind_62 rfl (fun c_17 => ?_) (fun c_17 => ?_)
                    ·
                      have c_17 := (zeq (x := iZ z_16) (y := iZ (-1)) rfl rfl ⟨by omega, by omega⟩ wn_m1).mp c_17
                      refine lv_iconst (v := iZ 0) hx hb dX12_blind_69 rfl ?_
                      refine lv_istore (lv' := [(4, .int (iZ 0)), (5, .int (iZ v5_31)), (3, .int (iZ v3_18)), (2, .int (iZ v2_18)), (0, .ref hm), (1, .int (iZ x1))]) hx hb dX12_blind_70 hl (bl rfl) rfl (fun ls hl => ?_)
                      refine lv_iinc (v := iZ (v5_31 + 1)) (lv' := [(5, .int (iZ (v5_31 + 1))), (4, .int (iZ 0)), (3, .int (iZ v3_18)), (2, .int (iZ v2_18)), (0, .ref hm), (1, .int (iZ x1))]) hx hb dX12_blind_72 hl (k := 1) rfl (iZ_add v5_31 1) (by decide) rfl (fun ls hl => ?_)
                      refine lv_goto (tgt := 31) hx hb dX12_blind_75 rfl ?_
                      exact ih31  0 (v5_31 + 1) _ _ _ (by omega) (show (0 ≤ (v5_31 + 1) ∧ (v5_31 + 1) ≤ (gz Af 0) + 1) from ⟨by omega, by omega⟩) (show 0 ≤ 0 ∧ 0 ≤ 1 from (by omega)) (hP.sub [0, 1] rfl) (hD.sub [0, 1] rfl rfl) hS (lv_sub hl [0, 1, 2, 3, 4, 5] rfl)
                    ·
                      have c_17 := mt (zeq (x := iZ z_16) (y := iZ (-1)) rfl rfl ⟨by omega, by omega⟩ wn_m1).mpr c_17
                      refine lv_iconst (v := iZ 1) hx hb dX12_blind_65 rfl ?_
                      refine lv_goto (tgt := 70) hx hb dX12_blind_66 rfl ?_
                      refine lv_istore (lv' := [(4, .int (iZ 1)), (5, .int (iZ v5_31)), (3, .int (iZ v3_18)), (2, .int (iZ v2_18)), (0, .ref hm), (1, .int (iZ x1))]) hx hb dX12_blind_70 hl (bl rfl) rfl (fun ls hl => ?_)
                      refine lv_iinc (v := iZ (v5_31 + 1)) (lv' := [(5, .int (iZ (v5_31 + 1))), (4, .int (iZ 1)), (3, .int (iZ v3_18)), (2, .int (iZ v2_18)), (0, .ref hm), (1, .int (iZ x1))]) hx hb dX12_blind_72 hl (k := 1) rfl (iZ_add v5_31 1) (by decide) rfl (fun ls hl => ?_)
                      refine lv_goto (tgt := 31) hx hb dX12_blind_75 rfl ?_
                      exact ih31  1 (v5_31 + 1) _ _ _ (by omega) (show (0 ≤ (v5_31 + 1) ∧ (v5_31 + 1) ≤ (gz Af 0) + 1) from ⟨by omega, by omega⟩) (show 0 ≤ 1 ∧ 1 ≤ 1 from (by omega)) (hP.sub [0, 1] rfl) (hD.sub [0, 1] rfl rfl) hS (lv_sub hl [0, 1, 2, 3, 4, 5] rfl)
          exact HL31 9 0 0 _ _ _ (by omega) (show (0 ≤ 0 ∧ 0 ≤ (gz Af 0) + 1) from ⟨by omega, by omega⟩) (show 0 ≤ 0 ∧ 0 ≤ 1 from (by omega)) (hP.sub [0, 1] rfl) (hD.sub [0, 1] rfl rfl) hS (lv_sub hl [0, 1, 2, 3, 4, 5] rfl)
    exact HL18 404 0 0 _ _ _ (by omega) (show (0 ≤ 0 ∧ 0 ≤ (400) + 1) from ⟨by omega, by omega⟩) (show 0 ≤ 0 ∧ 0 ≤ 0 from (by omega)) (hP.sub [0, 1] rfl) (hD.sub [0, 1] rfl rfl) hS (lv_sub hl [0, 1, 2, 3] rfl)
  ·
    subst qz_1
    refine lv_if_ne (tgt := 14) hx hb dX12_blind_5 rfl (fun c => absurd (by decide) c) (fun _ => ?_)
    refine lv_aload_n hx hb dX12_blind_8 rfl (lv_at hl 0 rfl) ?_
    refine lv_iconst (v := iZ 1) hx hb dX12_blind_9 rfl ?_
    refine CWV (As := [.int (iZ 1)]) (rest := []) (wc := _) (wr := [(Ma, .inl (k 1, 5340, .inl Af))]) hx hb hml hown hts hKK hP hD hS hA (m_refuse l D k hm Ma Mn Ms My Mt Mp Mx Mo Mk Ml Mb Mh Mc Mz Mr Mq Mst Mtd Msz Mtk Mfr Men Mva Mfk Mfp Mfs Mse Mlt Mdp Mct Mdr Mrs Mit Mmk Mtp Mbt 1) ci_X12_refuse qm_X12_81 ⟨Nat.le_of_ble_eq_true rfl, Nat.le_of_ble_eq_true rfl⟩ ⟨Nat.le_of_ble_eq_true rfl, Nat.le_of_ble_eq_true rfl⟩ [0] [1] rfl rfl rfl rfl rfl (dj rfl) 0 rfl rfl rfl hl.1 rfl (Nat.le_of_ble_eq_true rfl) dX12_blind_10 (fun u_19 H locs hφ hP hD hS => ?_)
    refine W.eq (g2 := F0 m 13 ls [.int (iZ (-1))]) rfl ?_
    exact EWi hx hb hr hlocks hS (((-1), 1), 0, (), ()) rfl trivial (hP.sub [1, 0] rfl) (hD.sub [1, 0] rfl rfl) dX12_blind_13
set_option maxHeartbeats 4000000 in
set_option maxRecDepth 100000 in
theorem q_echo (l : Launch) (D : va_G) (k : Nat → ClassId) (hm : Nat) (Ma : Nat) (Mn : Nat) (Ms : Nat) (My : Nat) (Mt : Nat) (Mp : Nat) (Mx : Nat) (Mo : Nat) (Mk : Nat) (Ml : Nat) (Mb : Nat) (Mh : Nat) (Mc : Nat) (Mz : Nat) (Mr : Nat) (Mq : Nat) (Mst : Int) (Mtd : Int) (Msz : Int) (Mtk : Int) (Mfr : Int) (Men : Int) (Mva : Int) (Mfk : Int) (Mfp : Int) (Mfs : Int) (Mse : Int) (Mlt : Int) (Mdp : Int) (Mct : Int) (Mdr : Int) (Mrs : Int) (Mit : Int) (Mmk : Int) (Mtp : Int64) (Mbt : Int64) (Af : Nat → Int32) (x1 : Int) (x2 : Int) (x3 : Int) (hM : M0 Af) (h9x1 : -2147483648 ≤ x1 ∧ x1 < 2147483648) (h9x2 : -2147483648 ≤ x2 ∧ x2 < 2147483648) (h9x3 : -2147483648 ≤ x3 ∧ x3 < 2147483648) : WD (σ := ((Int × Int) × (Int64) × (Unit) × (Unit))) l yX12_echo cX12_echo 4 (some .int) 6 0 0 D k [.ref hm, .int (iZ x1), .int (iZ x2), .int (iZ x3)] [(hm, .inr (12, [.ref Ma, .ref Mn, .int (iZ Mst), .long Mtp, .long Mbt, .ref Ms, .ref My, .ref Mt, .ref Mp, .ref Mx, .int (iZ Mtd), .int (iZ Msz), .int (iZ Mtk), .int (iZ Mfr), .int (iZ Men), .int (iZ Mva), .int (iZ Mfk), .int (iZ Mfp), .int (iZ Mfs), .int (iZ Mse), .int (iZ Mlt), .ref Mo, .int (iZ Mdp), .int (iZ Mct), .ref Mk, .ref Ml, .ref Mb, .ref Mh, .ref Mc, .int (iZ Mdr), .int (iZ Mrs), .ref Mz, .ref Mr, .ref Mq, .int (iZ Mit), .int (iZ Mmk)])), (Ma, .inl (k 1, 5340, .inl Af))] (fun u => some (.int (iZ u.1.1))) (fun u => (((0 ≤ x1 ∧ x1 < (gz Af 0)) ∧ (0 ≤ x3 ∧ x3 < (gz Af 0)) ∧ ¬ x1 = x3 ∧ (0 ≤ x2 ∧ x2 ≤ 400)) ∧ ((1000000 ≤ ecF (sh Af 10) (sh Af 46) (gz Af 1) x1 x2 x3 ∧ (u.1.1 : Int) = -1) ∨ (ecF (sh Af 10) (sh Af 46) (gz Af 1) x1 x2 x3 < 1000000 ∧ (u.1.1 : Int) = ecF (sh Af 10) (sh Af 46) (gz Af 1) x1 x2 x3))) ∨ (¬ ((0 ≤ x1 ∧ x1 < (gz Af 0)) ∧ (0 ≤ x3 ∧ x3 < (gz Af 0)) ∧ ¬ x1 = x3 ∧ (0 ≤ x2 ∧ x2 ≤ 400)) ∧ (u.1.1 : Int) = -1)) (fun u => [(hm, .inr (12, [.ref Ma, .ref Mn, .int (iZ u.1.2), .long Mtp, .long Mbt, .ref Ms, .ref My, .ref Mt, .ref Mp, .ref Mx, .int (iZ Mtd), .int (iZ Msz), .int (iZ Mtk), .int (iZ Mfr), .int (iZ Men), .int (iZ Mva), .int (iZ Mfk), .int (iZ Mfp), .int (iZ Mfs), .int (iZ Mse), .int (iZ Mlt), .ref Mo, .int (iZ Mdp), .int (iZ Mct), .ref Mk, .ref Ml, .ref Mb, .ref Mh, .ref Mc, .int (iZ Mdr), .int (iZ Mrs), .ref Mz, .ref Mr, .ref Mq, .int (iZ Mit), .int (iZ Mmk)])), (Ma, .inl (k 1, 5340, .inl Af))]) := by
  refine MW (by decide) (Nat.le_of_ble_eq_true rfl) (fun p e s m below meth c ls A hx hb hml hr hlocks hin hts hown hKK hP hD hS hA hl => ?_)
  have hK := hKK.1
  have hl : lv_has ls 4 [(0, .ref hm), (1, .int (iZ x1)), (2, .int (iZ x2)), (3, .int (iZ x3))] := hl
  obtain ⟨m0, m1, m3, m4, m5, mF, mO, mS⟩ := id hM
  refine lv_aload_n hx hb dX12_echo_0 rfl (lv_at hl 0 rfl) ?_
  refine lv_iload_n hx hb dX12_echo_1 rfl (lv_at hl 1 rfl) ?_
  refine lv_iload_n hx hb dX12_echo_2 rfl (lv_at hl 3 rfl) ?_
  refine CPV (As := [.int (iZ x1), .int (iZ x3)]) (rest := []) hx hb hml hown hts hKK hP (m_areTwo l D k ([.ref Ma, .ref Mn, .int (iZ Mst), .long Mtp, .long Mbt, .ref Ms, .ref My, .ref Mt, .ref Mp, .ref Mx, .int (iZ Mtd), .int (iZ Msz), .int (iZ Mtk), .int (iZ Mfr), .int (iZ Men), .int (iZ Mva), .int (iZ Mfk), .int (iZ Mfp), .int (iZ Mfs), .int (iZ Mse), .int (iZ Mlt), .ref Mo, .int (iZ Mdp), .int (iZ Mct), .ref Mk, .ref Ml, .ref Mb, .ref Mh, .ref Mc, .int (iZ Mdr), .int (iZ Mrs), .ref Mz, .ref Mr, .ref Mq, .int (iZ Mit), .int (iZ Mmk)]) hm Ma Af x1 x3 rfl hM ⟨by omega, by omega⟩ ⟨by omega, by omega⟩) ci_X12_areTwo qm_X12_265 ⟨Nat.le_of_ble_eq_true rfl, Nat.le_of_ble_eq_true rfl⟩ ⟨Nat.le_of_ble_eq_true rfl, Nat.le_of_ble_eq_true rfl⟩ 0 rfl rfl rfl hl.1 rfl (Nat.le_of_ble_eq_true rfl) dX12_echo_3 (fun z_1 hz_1 => ?_)
  rcases hz_1 with ⟨qz_1, hz_1⟩ | ⟨qz_1, hz_1⟩
  ·
    subst qz_1
    refine lv_if_eq (tgt := 30) hx hb dX12_echo_6 rfl (fun c => absurd c (by decide)) (fun _ => ?_)
    refine lv_iload_n hx hb dX12_echo_9 rfl (lv_at hl 2 rfl) ?_
    refine CPS (As := [.int (iZ x2)]) (rest := []) hx hb hml hown hts hKK (hP.sub (ws' := []) [] rfl) (m_isWeek l D k x2 ⟨by omega, by omega⟩) ci_X12_isWeek qm_X12_268 ⟨Nat.le_of_ble_eq_true rfl, Nat.le_of_ble_eq_true rfl⟩ ⟨Nat.le_of_ble_eq_true rfl, Nat.le_of_ble_eq_true rfl⟩ rfl hl.1 rfl (Nat.le_of_ble_eq_true rfl) dX12_echo_10 (fun z_3 hz_3 => ?_)
    rcases hz_3 with ⟨qz_3, hz_3⟩ | ⟨qz_3, hz_3⟩
    ·
      subst qz_3
      refine lv_if_eq (tgt := 30) hx hb dX12_echo_13 rfl (fun c => absurd c (by decide)) (fun _ => ?_)
      refine lv_aload_n hx hb dX12_echo_16 rfl (lv_at hl 0 rfl) ?_
      refine lv_aload_n hx hb dX12_echo_17 rfl (lv_at hl 0 rfl) ?_
      refine lv_iload_n hx hb dX12_echo_18 rfl (lv_at hl 1 rfl) ?_
      refine lv_iload_n hx hb dX12_echo_19 rfl (lv_at hl 2 rfl) ?_
      refine lv_iload_n hx hb dX12_echo_20 rfl (lv_at hl 3 rfl) ?_
      refine CPV (As := [.int (iZ x1), .int (iZ x2), .int (iZ x3)]) (rest := [.ref hm]) hx hb hml hown hts hKK hP (m_echo l D k ([.ref Ma, .ref Mn, .int (iZ Mst), .long Mtp, .long Mbt, .ref Ms, .ref My, .ref Mt, .ref Mp, .ref Mx, .int (iZ Mtd), .int (iZ Msz), .int (iZ Mtk), .int (iZ Mfr), .int (iZ Men), .int (iZ Mva), .int (iZ Mfk), .int (iZ Mfp), .int (iZ Mfs), .int (iZ Mse), .int (iZ Mlt), .ref Mo, .int (iZ Mdp), .int (iZ Mct), .ref Mk, .ref Ml, .ref Mb, .ref Mh, .ref Mc, .int (iZ Mdr), .int (iZ Mrs), .ref Mz, .ref Mr, .ref Mq, .int (iZ Mit), .int (iZ Mmk)]) hm Ma Af x1 x2 x3 rfl hM ⟨by omega, by omega⟩ ⟨by omega, by omega⟩ ⟨by omega, by omega⟩ (by omega)) ci_X12_echoOf qm_X12_345 ⟨Nat.le_of_ble_eq_true rfl, Nat.le_of_ble_eq_true rfl⟩ ⟨Nat.le_of_ble_eq_true rfl, Nat.le_of_ble_eq_true rfl⟩ 0 rfl rfl rfl hl.1 rfl (Nat.le_of_ble_eq_true rfl) dX12_echo_21 (fun z_5 hz_5 => ?_)
      obtain ⟨ez_5, az_5⟩ := hz_5
      refine CWV (As := [.int (iZ z_5)]) (rest := []) (wc := _) (wr := [(Ma, .inl (k 1, 5340, .inl Af))]) hx hb hml hown hts hKK hP hD hS hA (m_orNever l D k hm Ma Mn Ms My Mt Mp Mx Mo Mk Ml Mb Mh Mc Mz Mr Mq Mst Mtd Msz Mtk Mfr Men Mva Mfk Mfp Mfs Mse Mlt Mdp Mct Mdr Mrs Mit Mmk Mtp Mbt z_5 ⟨by omega, by omega⟩) ci_X12_orNever qm_X12_284 ⟨Nat.le_of_ble_eq_true rfl, Nat.le_of_ble_eq_true rfl⟩ ⟨Nat.le_of_ble_eq_true rfl, Nat.le_of_ble_eq_true rfl⟩ [0] [1] rfl rfl rfl rfl rfl (dj rfl) 0 rfl rfl rfl hl.1 rfl (Nat.le_of_ble_eq_true rfl) dX12_echo_24 (fun u_6 H locs hφ hP hD hS => ?_)
      have p_7 : ((z_5 : Int) ≥ 1000000 ∧ u_6.1.1 = -1 ∧ u_6.1.2 = 6) ∨ ((z_5 : Int) < 1000000 ∧ u_6.1.1 = z_5 ∧ u_6.1.2 = 0) := hφ
      refine W.eq (g2 := F0 m 27 ls [.int (iZ u_6.1.1)]) rfl ?_
      refine lv_goto (tgt := 35) hx hb dX12_echo_27 rfl ?_
      exact EWi hx hb hr hlocks hS ((u_6.1.1, u_6.1.2), 0, (), ()) rfl (show (((0 ≤ x1 ∧ x1 < (gz Af 0)) ∧ (0 ≤ x3 ∧ x3 < (gz Af 0)) ∧ ¬ x1 = x3 ∧ (0 ≤ x2 ∧ x2 ≤ 400)) ∧ ((1000000 ≤ ecF (sh Af 10) (sh Af 46) (gz Af 1) x1 x2 x3 ∧ (u_6.1.1 : Int) = -1) ∨ (ecF (sh Af 10) (sh Af 46) (gz Af 1) x1 x2 x3 < 1000000 ∧ (u_6.1.1 : Int) = ecF (sh Af 10) (sh Af 46) (gz Af 1) x1 x2 x3))) ∨ (¬ ((0 ≤ x1 ∧ x1 < (gz Af 0)) ∧ (0 ≤ x3 ∧ x3 < (gz Af 0)) ∧ ¬ x1 = x3 ∧ (0 ≤ x2 ∧ x2 ≤ 400)) ∧ (u_6.1.1 : Int) = -1) from (by omega)) (hP.sub [1, 0] rfl) (hD.sub [1, 0] rfl rfl) dX12_echo_35
    ·
      subst qz_3
      refine lv_if_eq (tgt := 30) hx hb dX12_echo_13 rfl (fun _ => ?_) (fun c => absurd (by decide) c)
      refine lv_aload_n hx hb dX12_echo_30 rfl (lv_at hl 0 rfl) ?_
      refine lv_iconst (v := iZ 1) hx hb dX12_echo_31 rfl ?_
      refine CWV (As := [.int (iZ 1)]) (rest := []) (wc := _) (wr := [(Ma, .inl (k 1, 5340, .inl Af))]) hx hb hml hown hts hKK hP hD hS hA (m_refuse l D k hm Ma Mn Ms My Mt Mp Mx Mo Mk Ml Mb Mh Mc Mz Mr Mq Mst Mtd Msz Mtk Mfr Men Mva Mfk Mfp Mfs Mse Mlt Mdp Mct Mdr Mrs Mit Mmk Mtp Mbt 1) ci_X12_refuse qm_X12_81 ⟨Nat.le_of_ble_eq_true rfl, Nat.le_of_ble_eq_true rfl⟩ ⟨Nat.le_of_ble_eq_true rfl, Nat.le_of_ble_eq_true rfl⟩ [0] [1] rfl rfl rfl rfl rfl (dj rfl) 0 rfl rfl rfl hl.1 rfl (Nat.le_of_ble_eq_true rfl) dX12_echo_32 (fun u_9 H locs hφ hP hD hS => ?_)
      refine W.eq (g2 := F0 m 35 ls [.int (iZ (-1))]) rfl ?_
      exact EWi hx hb hr hlocks hS (((-1), 1), 0, (), ()) rfl (show (((0 ≤ x1 ∧ x1 < (gz Af 0)) ∧ (0 ≤ x3 ∧ x3 < (gz Af 0)) ∧ ¬ x1 = x3 ∧ (0 ≤ x2 ∧ x2 ≤ 400)) ∧ ((1000000 ≤ ecF (sh Af 10) (sh Af 46) (gz Af 1) x1 x2 x3 ∧ ((-1) : Int) = -1) ∨ (ecF (sh Af 10) (sh Af 46) (gz Af 1) x1 x2 x3 < 1000000 ∧ ((-1) : Int) = ecF (sh Af 10) (sh Af 46) (gz Af 1) x1 x2 x3))) ∨ (¬ ((0 ≤ x1 ∧ x1 < (gz Af 0)) ∧ (0 ≤ x3 ∧ x3 < (gz Af 0)) ∧ ¬ x1 = x3 ∧ (0 ≤ x2 ∧ x2 ≤ 400)) ∧ ((-1) : Int) = -1) from (by omega)) (hP.sub [1, 0] rfl) (hD.sub [1, 0] rfl rfl) dX12_echo_35
  ·
    subst qz_1
    refine lv_if_eq (tgt := 30) hx hb dX12_echo_6 rfl (fun _ => ?_) (fun c => absurd (by decide) c)
    refine lv_aload_n hx hb dX12_echo_30 rfl (lv_at hl 0 rfl) ?_
    refine lv_iconst (v := iZ 1) hx hb dX12_echo_31 rfl ?_
    refine CWV (As := [.int (iZ 1)]) (rest := []) (wc := _) (wr := [(Ma, .inl (k 1, 5340, .inl Af))]) hx hb hml hown hts hKK hP hD hS hA (m_refuse l D k hm Ma Mn Ms My Mt Mp Mx Mo Mk Ml Mb Mh Mc Mz Mr Mq Mst Mtd Msz Mtk Mfr Men Mva Mfk Mfp Mfs Mse Mlt Mdp Mct Mdr Mrs Mit Mmk Mtp Mbt 1) ci_X12_refuse qm_X12_81 ⟨Nat.le_of_ble_eq_true rfl, Nat.le_of_ble_eq_true rfl⟩ ⟨Nat.le_of_ble_eq_true rfl, Nat.le_of_ble_eq_true rfl⟩ [0] [1] rfl rfl rfl rfl rfl (dj rfl) 0 rfl rfl rfl hl.1 rfl (Nat.le_of_ble_eq_true rfl) dX12_echo_32 (fun u_11 H locs hφ hP hD hS => ?_)
    refine W.eq (g2 := F0 m 35 ls [.int (iZ (-1))]) rfl ?_
    exact EWi hx hb hr hlocks hS (((-1), 1), 0, (), ()) rfl (show (((0 ≤ x1 ∧ x1 < (gz Af 0)) ∧ (0 ≤ x3 ∧ x3 < (gz Af 0)) ∧ ¬ x1 = x3 ∧ (0 ≤ x2 ∧ x2 ≤ 400)) ∧ ((1000000 ≤ ecF (sh Af 10) (sh Af 46) (gz Af 1) x1 x2 x3 ∧ ((-1) : Int) = -1) ∨ (ecF (sh Af 10) (sh Af 46) (gz Af 1) x1 x2 x3 < 1000000 ∧ ((-1) : Int) = ecF (sh Af 10) (sh Af 46) (gz Af 1) x1 x2 x3))) ∨ (¬ ((0 ≤ x1 ∧ x1 < (gz Af 0)) ∧ (0 ≤ x3 ∧ x3 < (gz Af 0)) ∧ ¬ x1 = x3 ∧ (0 ≤ x2 ∧ x2 ≤ 400)) ∧ ((-1) : Int) = -1) from (by omega)) (hP.sub [1, 0] rfl) (hD.sub [1, 0] rfl rfl) dX12_echo_35
set_option maxHeartbeats 4000000 in
set_option maxRecDepth 100000 in
theorem q_answered (l : Launch) (D : va_G) (k : Nat → ClassId) (hm : Nat) (Ma : Nat) (Mn : Nat) (Ms : Nat) (My : Nat) (Mt : Nat) (Mp : Nat) (Mx : Nat) (Mo : Nat) (Mk : Nat) (Ml : Nat) (Mb : Nat) (Mh : Nat) (Mc : Nat) (Mz : Nat) (Mr : Nat) (Mq : Nat) (Mst : Int) (Mtd : Int) (Msz : Int) (Mtk : Int) (Mfr : Int) (Men : Int) (Mva : Int) (Mfk : Int) (Mfp : Int) (Mfs : Int) (Mse : Int) (Mlt : Int) (Mdp : Int) (Mct : Int) (Mdr : Int) (Mrs : Int) (Mit : Int) (Mmk : Int) (Mtp : Int64) (Mbt : Int64) (Af : Nat → Int32) (x1 : Int) (x2 : Int) (x3 : Int) (hM : M0 Af) (h9x1 : -2147483648 ≤ x1 ∧ x1 < 2147483648) (h9x2 : -2147483648 ≤ x2 ∧ x2 < 2147483648) (h9x3 : -2147483648 ≤ x3 ∧ x3 < 2147483648) : WD (σ := ((Int × Int) × (Int64) × (Unit) × (Unit))) l yX12_answered cX12_answered 5 (some .int) 6 0 0 D k [.ref hm, .int (iZ x1), .int (iZ x2), .int (iZ x3)] [(hm, .inr (12, [.ref Ma, .ref Mn, .int (iZ Mst), .long Mtp, .long Mbt, .ref Ms, .ref My, .ref Mt, .ref Mp, .ref Mx, .int (iZ Mtd), .int (iZ Msz), .int (iZ Mtk), .int (iZ Mfr), .int (iZ Men), .int (iZ Mva), .int (iZ Mfk), .int (iZ Mfp), .int (iZ Mfs), .int (iZ Mse), .int (iZ Mlt), .ref Mo, .int (iZ Mdp), .int (iZ Mct), .ref Mk, .ref Ml, .ref Mb, .ref Mh, .ref Mc, .int (iZ Mdr), .int (iZ Mrs), .ref Mz, .ref Mr, .ref Mq, .int (iZ Mit), .int (iZ Mmk)])), (Ma, .inl (k 1, 5340, .inl Af))] (fun u => some (.int (iZ u.1.1))) (fun _ => True) (fun u => [(hm, .inr (12, [.ref Ma, .ref Mn, .int (iZ u.1.2), .long Mtp, .long Mbt, .ref Ms, .ref My, .ref Mt, .ref Mp, .ref Mx, .int (iZ Mtd), .int (iZ Msz), .int (iZ Mtk), .int (iZ Mfr), .int (iZ Men), .int (iZ Mva), .int (iZ Mfk), .int (iZ Mfp), .int (iZ Mfs), .int (iZ Mse), .int (iZ Mlt), .ref Mo, .int (iZ Mdp), .int (iZ Mct), .ref Mk, .ref Ml, .ref Mb, .ref Mh, .ref Mc, .int (iZ Mdr), .int (iZ Mrs), .ref Mz, .ref Mr, .ref Mq, .int (iZ Mit), .int (iZ Mmk)])), (Ma, .inl (k 1, 5340, .inl Af))]) := by
  refine MW (by decide) (Nat.le_of_ble_eq_true rfl) (fun p e s m below meth c ls A hx hb hml hr hlocks hin hts hown hKK hP hD hS hA hl => ?_)
  have hK := hKK.1
  have hl : lv_has ls 5 [(0, .ref hm), (1, .int (iZ x1)), (2, .int (iZ x2)), (3, .int (iZ x3))] := hl
  obtain ⟨m0, m1, m3, m4, m5, mF, mO, mS⟩ := id hM
  refine lv_aload_n hx hb dX12_answered_0 rfl (lv_at hl 0 rfl) ?_
  refine lv_iload_n hx hb dX12_answered_1 rfl (lv_at hl 1 rfl) ?_
  refine lv_iload_n hx hb dX12_answered_2 rfl (lv_at hl 2 rfl) ?_
  refine CPV (As := [.int (iZ x1), .int (iZ x2)]) (rest := []) hx hb hml hown hts hKK hP (m_areTwo l D k ([.ref Ma, .ref Mn, .int (iZ Mst), .long Mtp, .long Mbt, .ref Ms, .ref My, .ref Mt, .ref Mp, .ref Mx, .int (iZ Mtd), .int (iZ Msz), .int (iZ Mtk), .int (iZ Mfr), .int (iZ Men), .int (iZ Mva), .int (iZ Mfk), .int (iZ Mfp), .int (iZ Mfs), .int (iZ Mse), .int (iZ Mlt), .ref Mo, .int (iZ Mdp), .int (iZ Mct), .ref Mk, .ref Ml, .ref Mb, .ref Mh, .ref Mc, .int (iZ Mdr), .int (iZ Mrs), .ref Mz, .ref Mr, .ref Mq, .int (iZ Mit), .int (iZ Mmk)]) hm Ma Af x1 x2 rfl hM ⟨by omega, by omega⟩ ⟨by omega, by omega⟩) ci_X12_areTwo qm_X12_265 ⟨Nat.le_of_ble_eq_true rfl, Nat.le_of_ble_eq_true rfl⟩ ⟨Nat.le_of_ble_eq_true rfl, Nat.le_of_ble_eq_true rfl⟩ 0 rfl rfl rfl hl.1 rfl (Nat.le_of_ble_eq_true rfl) dX12_answered_3 (fun z_1 hz_1 => ?_)
  rcases hz_1 with ⟨qz_1, hz_1⟩ | ⟨qz_1, hz_1⟩
  ·
    subst qz_1
    refine lv_if_eq (tgt := 16) hx hb dX12_answered_6 rfl (fun c => absurd c (by decide)) (fun _ => ?_)
    refine lv_iload_n hx hb dX12_answered_9 rfl (lv_at hl 3 rfl) ?_
    refine CPS (As := [.int (iZ x3)]) (rest := []) hx hb hml hown hts hKK (hP.sub (ws' := []) [] rfl) (m_isAsked l D k x3 ⟨by omega, by omega⟩) ci_X12_isAsked qm_X12_258 ⟨Nat.le_of_ble_eq_true rfl, Nat.le_of_ble_eq_true rfl⟩ ⟨Nat.le_of_ble_eq_true rfl, Nat.le_of_ble_eq_true rfl⟩ rfl hl.1 rfl (Nat.le_of_ble_eq_true rfl) dX12_answered_10 (fun z_3 hz_3 => ?_)
    rcases hz_3 with ⟨qz_3, hz_3⟩ | ⟨qz_3, hz_3⟩
    ·
      subst qz_3
      refine lv_if_ne (tgt := 22) hx hb dX12_answered_13 rfl (fun _ => ?_) (fun c => absurd c (by decide))
      refine lv_iload_n hx hb dX12_answered_22 rfl (lv_at hl 3 rfl) ?_
      refine lv_sipush (v := iZ 400) hx hb dX12_answered_23 sip_400 ?_
      refine va_mmin (rest := []) hx hb (by rw [hml]; exact hl.1.symm) (own := RX12) hown (hts _ qm_X12_137) (hts _ qt_yJ9_min_7cf53) (hts _ qz_J9) (hts _ qc_J9_min_7cf53) (Nat.le_of_ble_eq_true rfl) (Nat.le_of_ble_eq_true rfl) (Nat.le_of_ble_eq_true rfl) (Nat.le_of_ble_eq_true rfl) dX12_answered_26 ?_
      refine lv_topi (fun x_5 ex_5 => ?_)
      obtain rfl : x_5 = iZ (min x3 400) := ex_5.trans (zmin ⟨by omega, by omega⟩ ⟨by omega, by omega⟩)
      refine lv_istore (lv' := [(4, .int (iZ (min x3 400))), (0, .ref hm), (1, .int (iZ x1)), (2, .int (iZ x2)), (3, .int (iZ x3))]) hx hb dX12_answered_29 hl (bl rfl) rfl (fun ls hl => ?_)
      have HL31 : ∀ (fu : Nat) (v4_31 : Int) (H : Heap) (locs : List Loc) (ls : Array Slot), (v4_31 - (0) + 2) < (fu : Int) → (((0) - 1 ≤ v4_31 ∧ v4_31 ≤ 400)) → (v4_31 ≤ 400) → va_P D vwCl [(hm, .inr (12, [.ref Ma, .ref Mn, .int (iZ Mst), .long Mtp, .long Mbt, .ref Ms, .ref My, .ref Mt, .ref Mp, .ref Mx, .int (iZ Mtd), .int (iZ Msz), .int (iZ Mtk), .int (iZ Mfr), .int (iZ Men), .int (iZ Mva), .int (iZ Mfk), .int (iZ Mfp), .int (iZ Mfs), .int (iZ Mse), .int (iZ Mlt), .ref Mo, .int (iZ Mdp), .int (iZ Mct), .ref Mk, .ref Ml, .ref Mb, .ref Mh, .ref Mc, .int (iZ Mdr), .int (iZ Mrs), .ref Mz, .ref Mr, .ref Mq, .int (iZ Mit), .int (iZ Mmk)])), (Ma, .inl (k 1, 5340, .inl Af))] H → va_D A [(hm, .inr (12, [.ref Ma, .ref Mn, .int (iZ Mst), .long Mtp, .long Mbt, .ref Ms, .ref My, .ref Mt, .ref Mp, .ref Mx, .int (iZ Mtd), .int (iZ Msz), .int (iZ Mtk), .int (iZ Mfr), .int (iZ Men), .int (iZ Mva), .int (iZ Mfk), .int (iZ Mfp), .int (iZ Mfs), .int (iZ Mse), .int (iZ Mlt), .ref Mo, .int (iZ Mdp), .int (iZ Mct), .ref Mk, .ref Ml, .ref Mb, .ref Mh, .ref Mc, .int (iZ Mdr), .int (iZ Mrs), .ref Mz, .ref Mr, .ref Mq, .int (iZ Mit), .int (iZ Mmk)])), (Ma, .inl (k 1, 5340, .inl Af))] → va_S A s.heap H locs → lv_has ls 5 [(4, .int (iZ v4_31)), (0, .ref hm), (1, .int (iZ x1)), (2, .int (iZ x2)), (3, .int (iZ x3))] → W p l e (rj 6 0 0) s m [.ref hm, .int (iZ x1), .int (iZ x2), .int (iZ x3)].toArray below meth c H locs 0 0 (MQ below (QW (σ := ((Int × Int) × (Int64) × (Unit) × (Unit))) (fun u => some (.int (iZ u.1.1))) (fun _ => True) (fun u => [(hm, .inr (12, [.ref Ma, .ref Mn, .int (iZ u.1.2), .long Mtp, .long Mbt, .ref Ms, .ref My, .ref Mt, .ref Mp, .ref Mx, .int (iZ Mtd), .int (iZ Msz), .int (iZ Mtk), .int (iZ Mfr), .int (iZ Men), .int (iZ Mva), .int (iZ Mfk), .int (iZ Mfp), .int (iZ Mfs), .int (iZ Mse), .int (iZ Mlt), .ref Mo, .int (iZ Mdp), .int (iZ Mct), .ref Mk, .ref Ml, .ref Mb, .ref Mh, .ref Mc, .int (iZ Mdr), .int (iZ Mrs), .ref Mz, .ref Mr, .ref Mq, .int (iZ Mit), .int (iZ Mmk)])), (Ma, .inl (k 1, 5340, .inl Af))]) D A) [.ref hm, .int (iZ x1), .int (iZ x2), .int (iZ x3)].toArray s 0 0 A) (F0 m 31 ls []) := by
        intro fu
        induction fu with
        | zero => intro v4_31 H locs ls hμ31 hi31 hf0_31 hP hD hS hl; exact absurd hμ31 (by omega)
        | succ fu ih31 =>
          intro v4_31 H locs ls hμ31 hi31 hf0_31 hP hD hS hl
          refine lv_iload hx hb dX12_answered_31 (lv_at hl 0 rfl) ?_
          refine lv_if_lt (tgt := 61) hx hb dX12_answered_33 rfl (fun c_6 => ?_) (fun c_6 => ?_)
          ·
            have c_6 := (zlt (x := iZ v4_31) (y := iZ 0) rfl rfl ⟨by omega, by omega⟩ wn_0).mp c_6
            refine lv_aload_n hx hb dX12_answered_61 rfl (lv_at hl 1 rfl) ?_
            refine lv_bipush (v := iZ 6) hx hb dX12_answered_62 bip_6 ?_
            refine CWV (As := [.int (iZ 6)]) (rest := []) (wc := _) (wr := [(Ma, .inl (k 1, 5340, .inl Af))]) hx hb hml hown hts hKK hP hD hS hA (m_refuse l D k hm Ma Mn Ms My Mt Mp Mx Mo Mk Ml Mb Mh Mc Mz Mr Mq Mst Mtd Msz Mtk Mfr Men Mva Mfk Mfp Mfs Mse Mlt Mdp Mct Mdr Mrs Mit Mmk Mtp Mbt 6) ci_X12_refuse qm_X12_81 ⟨Nat.le_of_ble_eq_true rfl, Nat.le_of_ble_eq_true rfl⟩ ⟨Nat.le_of_ble_eq_true rfl, Nat.le_of_ble_eq_true rfl⟩ [0] [1] rfl rfl rfl rfl rfl (dj rfl) 0 rfl rfl rfl hl.1 rfl (Nat.le_of_ble_eq_true rfl) dX12_answered_64 (fun u_7 H locs hφ hP hD hS => ?_)
            refine W.eq (g2 := F0 m 67 ls [.int (iZ (-1))]) rfl ?_
            exact EWi hx hb hr hlocks hS (((-1), 6), 0, (), ()) rfl trivial (hP.sub [1, 0] rfl) (hD.sub [1, 0] rfl rfl) dX12_answered_67
          ·
            have c_6 := mt (zlt (x := iZ v4_31) (y := iZ 0) rfl rfl ⟨by omega, by omega⟩ wn_0).mpr c_6
            refine lv_aload_n hx hb dX12_answered_36 rfl (lv_at hl 1 rfl) ?_
            refine lv_iload_n hx hb dX12_answered_37 rfl (lv_at hl 2 rfl) ?_
            refine lv_iload hx hb dX12_answered_38 (lv_at hl 0 rfl) ?_
            refine lv_iload_n hx hb dX12_answered_40 rfl (lv_at hl 3 rfl) ?_
            refine CPV (As := [.int (iZ x1), .int (iZ v4_31), .int (iZ x2)]) (rest := []) hx hb hml hown hts hKK hP (m_echo l D k ([.ref Ma, .ref Mn, .int (iZ Mst), .long Mtp, .long Mbt, .ref Ms, .ref My, .ref Mt, .ref Mp, .ref Mx, .int (iZ Mtd), .int (iZ Msz), .int (iZ Mtk), .int (iZ Mfr), .int (iZ Men), .int (iZ Mva), .int (iZ Mfk), .int (iZ Mfp), .int (iZ Mfs), .int (iZ Mse), .int (iZ Mlt), .ref Mo, .int (iZ Mdp), .int (iZ Mct), .ref Mk, .ref Ml, .ref Mb, .ref Mh, .ref Mc, .int (iZ Mdr), .int (iZ Mrs), .ref Mz, .ref Mr, .ref Mq, .int (iZ Mit), .int (iZ Mmk)]) hm Ma Af x1 v4_31 x2 rfl hM ⟨by omega, by omega⟩ ⟨by omega, by omega⟩ ⟨by omega, by omega⟩ (by omega)) ci_X12_echoOf qm_X12_345 ⟨Nat.le_of_ble_eq_true rfl, Nat.le_of_ble_eq_true rfl⟩ ⟨Nat.le_of_ble_eq_true rfl, Nat.le_of_ble_eq_true rfl⟩ 0 rfl rfl rfl hl.1 rfl (Nat.le_of_ble_eq_true rfl) dX12_answered_41 (fun z_8 hz_8 => ?_)
            obtain ⟨ez_8, az_8⟩ := hz_8
            refine lv_iload_n hx hb dX12_answered_44 rfl (lv_at hl 4 rfl) ?_
            refine lv_icmp_gt (tgt := 55) hx hb dX12_answered_45 rfl (fun c_9 => ?_) (fun c_9 => ?_)
            ·
              have c_9 := (zlt (x := iZ x3) (y := iZ z_8) rfl rfl ⟨by omega, by omega⟩ ⟨by omega, by omega⟩).mp c_9
              refine lv_iinc (v := iZ (v4_31 + (-1))) (lv' := [(4, .int (iZ (v4_31 + (-1)))), (0, .ref hm), (1, .int (iZ x1)), (2, .int (iZ x2)), (3, .int (iZ x3))]) hx hb dX12_answered_55 hl (k := 0) rfl (iZ_add v4_31 (-1)) (by decide) rfl (fun ls hl => ?_)
              refine lv_goto (tgt := 31) hx hb dX12_answered_58 rfl ?_
              exact ih31  (v4_31 + (-1)) _ _ _ (by omega) (show ((0) - 1 ≤ (v4_31 + (-1)) ∧ (v4_31 + (-1)) ≤ 400) from ⟨by omega, by omega⟩) (show (v4_31 + (-1)) ≤ 400 from (by omega)) (hP.sub [0, 1] rfl) (hD.sub [0, 1] rfl rfl) hS (lv_sub hl [0, 1, 2, 3, 4] rfl)
            ·
              have c_9 := mt (zlt (x := iZ x3) (y := iZ z_8) rfl rfl ⟨by omega, by omega⟩ ⟨by omega, by omega⟩).mpr c_9
              refine lv_aload_n hx hb dX12_answered_48 rfl (lv_at hl 1 rfl) ?_
              refine lv_iload hx hb dX12_answered_49 (lv_at hl 0 rfl) ?_
              refine CWV (As := [.int (iZ v4_31)]) (rest := []) (wc := _) (wr := [(Ma, .inl (k 1, 5340, .inl Af))]) hx hb hml hown hts hKK hP hD hS hA (m_gives l D k hm Ma Mn Ms My Mt Mp Mx Mo Mk Ml Mb Mh Mc Mz Mr Mq Mst Mtd Msz Mtk Mfr Men Mva Mfk Mfp Mfs Mse Mlt Mdp Mct Mdr Mrs Mit Mmk Mtp Mbt v4_31) ci_X12_gives qm_X12_85 ⟨Nat.le_of_ble_eq_true rfl, Nat.le_of_ble_eq_true rfl⟩ ⟨Nat.le_of_ble_eq_true rfl, Nat.le_of_ble_eq_true rfl⟩ [0] [1] rfl rfl rfl rfl rfl (dj rfl) 0 rfl rfl rfl hl.1 rfl (Nat.le_of_ble_eq_true rfl) dX12_answered_51 (fun u_10 H locs hφ hP hD hS => ?_)
              refine W.eq (g2 := F0 m 54 ls [.int (iZ v4_31)]) rfl ?_
              exact EWi hx hb hr hlocks hS ((v4_31, 0), 0, (), ()) rfl trivial (hP.sub [1, 0] rfl) (hD.sub [1, 0] rfl rfl) dX12_answered_54
      exact HL31 405 (min x3 400) _ _ _ (by omega) (show ((0) - 1 ≤ (min x3 400) ∧ (min x3 400) ≤ 400) from ⟨by omega, by omega⟩) (show (min x3 400) ≤ 400 from (by omega)) (hP.sub [0, 1] rfl) (hD.sub [0, 1] rfl rfl) hS (lv_sub hl [0, 1, 2, 3, 4] rfl)
    ·
      subst qz_3
      refine lv_if_ne (tgt := 22) hx hb dX12_answered_13 rfl (fun c => absurd (by decide) c) (fun _ => ?_)
      refine lv_aload_n hx hb dX12_answered_16 rfl (lv_at hl 0 rfl) ?_
      refine lv_iconst (v := iZ 1) hx hb dX12_answered_17 rfl ?_
      refine CWV (As := [.int (iZ 1)]) (rest := []) (wc := _) (wr := [(Ma, .inl (k 1, 5340, .inl Af))]) hx hb hml hown hts hKK hP hD hS hA (m_refuse l D k hm Ma Mn Ms My Mt Mp Mx Mo Mk Ml Mb Mh Mc Mz Mr Mq Mst Mtd Msz Mtk Mfr Men Mva Mfk Mfp Mfs Mse Mlt Mdp Mct Mdr Mrs Mit Mmk Mtp Mbt 1) ci_X12_refuse qm_X12_81 ⟨Nat.le_of_ble_eq_true rfl, Nat.le_of_ble_eq_true rfl⟩ ⟨Nat.le_of_ble_eq_true rfl, Nat.le_of_ble_eq_true rfl⟩ [0] [1] rfl rfl rfl rfl rfl (dj rfl) 0 rfl rfl rfl hl.1 rfl (Nat.le_of_ble_eq_true rfl) dX12_answered_18 (fun u_12 H locs hφ hP hD hS => ?_)
      refine W.eq (g2 := F0 m 21 ls [.int (iZ (-1))]) rfl ?_
      exact EWi hx hb hr hlocks hS (((-1), 1), 0, (), ()) rfl trivial (hP.sub [1, 0] rfl) (hD.sub [1, 0] rfl rfl) dX12_answered_21
  ·
    subst qz_1
    refine lv_if_eq (tgt := 16) hx hb dX12_answered_6 rfl (fun _ => ?_) (fun c => absurd (by decide) c)
    refine lv_aload_n hx hb dX12_answered_16 rfl (lv_at hl 0 rfl) ?_
    refine lv_iconst (v := iZ 1) hx hb dX12_answered_17 rfl ?_
    refine CWV (As := [.int (iZ 1)]) (rest := []) (wc := _) (wr := [(Ma, .inl (k 1, 5340, .inl Af))]) hx hb hml hown hts hKK hP hD hS hA (m_refuse l D k hm Ma Mn Ms My Mt Mp Mx Mo Mk Ml Mb Mh Mc Mz Mr Mq Mst Mtd Msz Mtk Mfr Men Mva Mfk Mfp Mfs Mse Mlt Mdp Mct Mdr Mrs Mit Mmk Mtp Mbt 1) ci_X12_refuse qm_X12_81 ⟨Nat.le_of_ble_eq_true rfl, Nat.le_of_ble_eq_true rfl⟩ ⟨Nat.le_of_ble_eq_true rfl, Nat.le_of_ble_eq_true rfl⟩ [0] [1] rfl rfl rfl rfl rfl (dj rfl) 0 rfl rfl rfl hl.1 rfl (Nat.le_of_ble_eq_true rfl) dX12_answered_18 (fun u_14 H locs hφ hP hD hS => ?_)
    refine W.eq (g2 := F0 m 21 ls [.int (iZ (-1))]) rfl ?_
    exact EWi hx hb hr hlocks hS (((-1), 1), 0, (), ()) rfl trivial (hP.sub [1, 0] rfl) (hD.sub [1, 0] rfl rfl) dX12_answered_21
set_option maxHeartbeats 4000000 in
set_option maxRecDepth 100000 in
theorem q_priceSeen (l : Launch) (D : va_G) (k : Nat → ClassId) (hm : Nat) (Ma : Nat) (Mn : Nat) (Ms : Nat) (My : Nat) (Mt : Nat) (Mp : Nat) (Mx : Nat) (Mo : Nat) (Mk : Nat) (Ml : Nat) (Mb : Nat) (Mh : Nat) (Mc : Nat) (Mz : Nat) (Mr : Nat) (Mq : Nat) (Mst : Int) (Mtd : Int) (Msz : Int) (Mtk : Int) (Mfr : Int) (Men : Int) (Mva : Int) (Mfk : Int) (Mfp : Int) (Mfs : Int) (Mse : Int) (Mlt : Int) (Mdp : Int) (Mct : Int) (Mdr : Int) (Mrs : Int) (Mit : Int) (Mmk : Int) (Mtp : Int64) (Mbt : Int64) (Af : Nat → Int32) (x1 : Int) (x2 : Int) (x3 : Int) (hM : M0 Af) (h9x1 : -2147483648 ≤ x1 ∧ x1 < 2147483648) (h9x2 : -2147483648 ≤ x2 ∧ x2 < 2147483648) (h9x3 : -2147483648 ≤ x3 ∧ x3 < 2147483648) : WD (σ := ((Int × Int) × (Int64) × (Unit) × (Unit))) l yX12_priceSeen cX12_priceSeen 5 (some .int) 6 0 0 D k [.ref hm, .int (iZ x1), .int (iZ x2), .int (iZ x3)] [(hm, .inr (12, [.ref Ma, .ref Mn, .int (iZ Mst), .long Mtp, .long Mbt, .ref Ms, .ref My, .ref Mt, .ref Mp, .ref Mx, .int (iZ Mtd), .int (iZ Msz), .int (iZ Mtk), .int (iZ Mfr), .int (iZ Men), .int (iZ Mva), .int (iZ Mfk), .int (iZ Mfp), .int (iZ Mfs), .int (iZ Mse), .int (iZ Mlt), .ref Mo, .int (iZ Mdp), .int (iZ Mct), .ref Mk, .ref Ml, .ref Mb, .ref Mh, .ref Mc, .int (iZ Mdr), .int (iZ Mrs), .ref Mz, .ref Mr, .ref Mq, .int (iZ Mit), .int (iZ Mmk)])), (Ma, .inl (k 1, 5340, .inl Af))] (fun u => some (.int (iZ u.1.1))) (fun u => (((0 ≤ x1 ∧ x1 < (gz Af 0)) ∧ (0 ≤ x2 ∧ x2 < (gz Af 0)) ∧ (0 ≤ x3 ∧ x3 ≤ 400)) ∧ ((snF (sh Af 10) (sh Af 46) (gz Af 1) x1 x2 x3 = -1 ∧ (u.1.1 : Int) = -1) ∨ (¬ snF (sh Af 10) (sh Af 46) (gz Af 1) x1 x2 x3 = -1 ∧ (u.1.1 : Int) = pr (sh Af 10) x2 (snF (sh Af 10) (sh Af 46) (gz Af 1) x1 x2 x3)))) ∨ (¬ ((0 ≤ x1 ∧ x1 < (gz Af 0)) ∧ (0 ≤ x2 ∧ x2 < (gz Af 0)) ∧ (0 ≤ x3 ∧ x3 ≤ 400)) ∧ (u.1.1 : Int) = -1)) (fun u => [(hm, .inr (12, [.ref Ma, .ref Mn, .int (iZ u.1.2), .long Mtp, .long Mbt, .ref Ms, .ref My, .ref Mt, .ref Mp, .ref Mx, .int (iZ Mtd), .int (iZ Msz), .int (iZ Mtk), .int (iZ Mfr), .int (iZ Men), .int (iZ Mva), .int (iZ Mfk), .int (iZ Mfp), .int (iZ Mfs), .int (iZ Mse), .int (iZ Mlt), .ref Mo, .int (iZ Mdp), .int (iZ Mct), .ref Mk, .ref Ml, .ref Mb, .ref Mh, .ref Mc, .int (iZ Mdr), .int (iZ Mrs), .ref Mz, .ref Mr, .ref Mq, .int (iZ Mit), .int (iZ Mmk)])), (Ma, .inl (k 1, 5340, .inl Af))]) := by
  refine MW (by decide) (Nat.le_of_ble_eq_true rfl) (fun p e s m below meth c ls A hx hb hml hr hlocks hin hts hown hKK hP hD hS hA hl => ?_)
  have hK := hKK.1
  have hl : lv_has ls 5 [(0, .ref hm), (1, .int (iZ x1)), (2, .int (iZ x2)), (3, .int (iZ x3))] := hl
  obtain ⟨m0, m1, m3, m4, m5, mF, mO, mS⟩ := id hM
  refine lv_aload_n hx hb dX12_priceSeen_0 rfl (lv_at hl 0 rfl) ?_
  refine lv_iload_n hx hb dX12_priceSeen_1 rfl (lv_at hl 1 rfl) ?_
  refine lv_iload_n hx hb dX12_priceSeen_2 rfl (lv_at hl 3 rfl) ?_
  refine lv_iload_n hx hb dX12_priceSeen_3 rfl (lv_at hl 2 rfl) ?_
  refine CPV (As := [.int (iZ x1), .int (iZ x3), .int (iZ x2)]) (rest := []) hx hb hml hown hts hKK hP (m_isSent l D k ([.ref Ma, .ref Mn, .int (iZ Mst), .long Mtp, .long Mbt, .ref Ms, .ref My, .ref Mt, .ref Mp, .ref Mx, .int (iZ Mtd), .int (iZ Msz), .int (iZ Mtk), .int (iZ Mfr), .int (iZ Men), .int (iZ Mva), .int (iZ Mfk), .int (iZ Mfp), .int (iZ Mfs), .int (iZ Mse), .int (iZ Mlt), .ref Mo, .int (iZ Mdp), .int (iZ Mct), .ref Mk, .ref Ml, .ref Mb, .ref Mh, .ref Mc, .int (iZ Mdr), .int (iZ Mrs), .ref Mz, .ref Mr, .ref Mq, .int (iZ Mit), .int (iZ Mmk)]) hm Ma Af x1 x3 x2 rfl hM ⟨by omega, by omega⟩ ⟨by omega, by omega⟩ ⟨by omega, by omega⟩) ci_X12_isSent qm_X12_277 ⟨Nat.le_of_ble_eq_true rfl, Nat.le_of_ble_eq_true rfl⟩ ⟨Nat.le_of_ble_eq_true rfl, Nat.le_of_ble_eq_true rfl⟩ 0 rfl rfl rfl hl.1 rfl (Nat.le_of_ble_eq_true rfl) dX12_priceSeen_4 (fun z_1 hz_1 => ?_)
  rcases hz_1 with ⟨qz_1, hz_1⟩ | ⟨qz_1, hz_1⟩
  ·
    subst qz_1
    refine lv_if_ne (tgt := 16) hx hb dX12_priceSeen_7 rfl (fun _ => ?_) (fun c => absurd c (by decide))
    refine lv_aload_n hx hb dX12_priceSeen_16 rfl (lv_at hl 0 rfl) ?_
    refine lv_iload_n hx hb dX12_priceSeen_17 rfl (lv_at hl 1 rfl) ?_
    refine lv_iload_n hx hb dX12_priceSeen_18 rfl (lv_at hl 2 rfl) ?_
    refine lv_iload_n hx hb dX12_priceSeen_19 rfl (lv_at hl 3 rfl) ?_
    refine CPV (As := [.int (iZ x1), .int (iZ x2), .int (iZ x3)]) (rest := []) hx hb hml hown hts hKK hP (m_seen l D k ([.ref Ma, .ref Mn, .int (iZ Mst), .long Mtp, .long Mbt, .ref Ms, .ref My, .ref Mt, .ref Mp, .ref Mx, .int (iZ Mtd), .int (iZ Msz), .int (iZ Mtk), .int (iZ Mfr), .int (iZ Men), .int (iZ Mva), .int (iZ Mfk), .int (iZ Mfp), .int (iZ Mfs), .int (iZ Mse), .int (iZ Mlt), .ref Mo, .int (iZ Mdp), .int (iZ Mct), .ref Mk, .ref Ml, .ref Mb, .ref Mh, .ref Mc, .int (iZ Mdr), .int (iZ Mrs), .ref Mz, .ref Mr, .ref Mq, .int (iZ Mit), .int (iZ Mmk)]) hm Ma Af x1 x2 x3 rfl hM ⟨by omega, by omega⟩ ⟨by omega, by omega⟩ ⟨by omega, by omega⟩) ci_X12_seenBy qm_X12_287 ⟨Nat.le_of_ble_eq_true rfl, Nat.le_of_ble_eq_true rfl⟩ ⟨Nat.le_of_ble_eq_true rfl, Nat.le_of_ble_eq_true rfl⟩ 0 rfl rfl rfl hl.1 rfl (Nat.le_of_ble_eq_true rfl) dX12_priceSeen_20 (fun z_3 hz_3 => ?_)
    obtain ⟨ez_3, az_3⟩ := hz_3
    refine lv_istore (lv' := [(4, .int (iZ z_3)), (0, .ref hm), (1, .int (iZ x1)), (2, .int (iZ x2)), (3, .int (iZ x3))]) hx hb dX12_priceSeen_23 hl (bl rfl) rfl (fun ls hl => ?_)
    refine lv_iload hx hb dX12_priceSeen_25 (lv_at hl 0 rfl) ?_
    refine lv_iconst (v := iZ (-1)) hx hb dX12_priceSeen_27 rfl ?_
    refine lv_icmp_ne (tgt := 40) hx hb dX12_priceSeen_28 rfl (fun c_4 => ?_) (fun c_4 => ?_)
    ·
      have c_4 := mt (zeq (x := iZ z_3) (y := iZ (-1)) rfl rfl ⟨by omega, by omega⟩ wn_m1).mpr c_4
      refine lv_aload_n hx hb dX12_priceSeen_40 rfl (lv_at hl 1 rfl) ?_
      refine lv_aload_n hx hb dX12_priceSeen_41 rfl (lv_at hl 1 rfl) ?_
      refine lv_iload_n hx hb dX12_priceSeen_42 rfl (lv_at hl 3 rfl) ?_
      refine lv_iload hx hb dX12_priceSeen_43 (lv_at hl 0 rfl) ?_
      refine CRV (As := [.int (iZ x2), .int (iZ z_3)]) (rest := [.ref hm]) hx hb hml hown hts hKK hP (m_price l D k ([.ref Ma, .ref Mn, .int (iZ Mst), .long Mtp, .long Mbt, .ref Ms, .ref My, .ref Mt, .ref Mp, .ref Mx, .int (iZ Mtd), .int (iZ Msz), .int (iZ Mtk), .int (iZ Mfr), .int (iZ Men), .int (iZ Mva), .int (iZ Mfk), .int (iZ Mfp), .int (iZ Mfs), .int (iZ Mse), .int (iZ Mlt), .ref Mo, .int (iZ Mdp), .int (iZ Mct), .ref Mk, .ref Ml, .ref Mb, .ref Mh, .ref Mc, .int (iZ Mdr), .int (iZ Mrs), .ref Mz, .ref Mr, .ref Mq, .int (iZ Mit), .int (iZ Mmk)]) hm Ma Af x2 z_3 rfl hM ⟨by omega, by omega⟩ ⟨by omega, by omega⟩) ci_X12_priceOf qm_X12_353 ⟨Nat.le_of_ble_eq_true rfl, Nat.le_of_ble_eq_true rfl⟩ ⟨Nat.le_of_ble_eq_true rfl, Nat.le_of_ble_eq_true rfl⟩ 0 rfl rfl rfl hl.1 rfl (Nat.le_of_ble_eq_true rfl) dX12_priceSeen_45 ?_
      have hp_h_5 := pr_rg (f := (sh Af 10)) (a := x2) (w := z_3) hM.2.2.2.2.2.1 ⟨by omega, by omega⟩
      refine CWV (As := [.int (iZ (pr (sh Af 10) x2 z_3))]) (rest := []) (wc := _) (wr := [(Ma, .inl (k 1, 5340, .inl Af))]) hx hb hml hown hts hKK hP hD hS hA (m_gives l D k hm Ma Mn Ms My Mt Mp Mx Mo Mk Ml Mb Mh Mc Mz Mr Mq Mst Mtd Msz Mtk Mfr Men Mva Mfk Mfp Mfs Mse Mlt Mdp Mct Mdr Mrs Mit Mmk Mtp Mbt (pr (sh Af 10) x2 z_3)) ci_X12_gives qm_X12_85 ⟨Nat.le_of_ble_eq_true rfl, Nat.le_of_ble_eq_true rfl⟩ ⟨Nat.le_of_ble_eq_true rfl, Nat.le_of_ble_eq_true rfl⟩ [0] [1] rfl rfl rfl rfl rfl (dj rfl) 0 rfl rfl rfl hl.1 rfl (Nat.le_of_ble_eq_true rfl) dX12_priceSeen_48 (fun u_6 H locs hφ hP hD hS => ?_)
      refine W.eq (g2 := F0 m 51 ls [.int (iZ (pr (sh Af 10) x2 z_3))]) rfl ?_
      exact EWi hx hb hr hlocks hS (((pr (sh Af 10) x2 z_3), 0), 0, (), ()) rfl (show (((0 ≤ x1 ∧ x1 < (gz Af 0)) ∧ (0 ≤ x2 ∧ x2 < (gz Af 0)) ∧ (0 ≤ x3 ∧ x3 ≤ 400)) ∧ ((snF (sh Af 10) (sh Af 46) (gz Af 1) x1 x2 x3 = -1 ∧ ((pr (sh Af 10) x2 z_3) : Int) = -1) ∨ (¬ snF (sh Af 10) (sh Af 46) (gz Af 1) x1 x2 x3 = -1 ∧ ((pr (sh Af 10) x2 z_3) : Int) = pr (sh Af 10) x2 (snF (sh Af 10) (sh Af 46) (gz Af 1) x1 x2 x3)))) ∨ (¬ ((0 ≤ x1 ∧ x1 < (gz Af 0)) ∧ (0 ≤ x2 ∧ x2 < (gz Af 0)) ∧ (0 ≤ x3 ∧ x3 ≤ 400)) ∧ ((pr (sh Af 10) x2 z_3) : Int) = -1) from (Or.inl ⟨by omega, by rw [← ez_3]; first | exact Or.inl ⟨by omega, by omega⟩ | exact Or.inr ⟨by omega, by omega⟩⟩)) (hP.sub [1, 0] rfl) (hD.sub [1, 0] rfl rfl) dX12_priceSeen_51
    ·
      have c_4 := (zeq (x := iZ z_3) (y := iZ (-1)) rfl rfl ⟨by omega, by omega⟩ wn_m1).mp c_4
      refine lv_aload_n hx hb dX12_priceSeen_31 rfl (lv_at hl 1 rfl) ?_
      refine lv_bipush (v := iZ 6) hx hb dX12_priceSeen_32 bip_6 ?_
      refine CWV (As := [.int (iZ 6)]) (rest := []) (wc := _) (wr := [(Ma, .inl (k 1, 5340, .inl Af))]) hx hb hml hown hts hKK hP hD hS hA (m_refuse l D k hm Ma Mn Ms My Mt Mp Mx Mo Mk Ml Mb Mh Mc Mz Mr Mq Mst Mtd Msz Mtk Mfr Men Mva Mfk Mfp Mfs Mse Mlt Mdp Mct Mdr Mrs Mit Mmk Mtp Mbt 6) ci_X12_refuse qm_X12_81 ⟨Nat.le_of_ble_eq_true rfl, Nat.le_of_ble_eq_true rfl⟩ ⟨Nat.le_of_ble_eq_true rfl, Nat.le_of_ble_eq_true rfl⟩ [0] [1] rfl rfl rfl rfl rfl (dj rfl) 0 rfl rfl rfl hl.1 rfl (Nat.le_of_ble_eq_true rfl) dX12_priceSeen_34 (fun u_7 H locs hφ hP hD hS => ?_)
      refine W.eq (g2 := F0 m 37 ls [.int (iZ (-1))]) rfl ?_
      refine lv_goto (tgt := 51) hx hb dX12_priceSeen_37 rfl ?_
      exact EWi hx hb hr hlocks hS (((-1), 6), 0, (), ()) rfl (show (((0 ≤ x1 ∧ x1 < (gz Af 0)) ∧ (0 ≤ x2 ∧ x2 < (gz Af 0)) ∧ (0 ≤ x3 ∧ x3 ≤ 400)) ∧ ((snF (sh Af 10) (sh Af 46) (gz Af 1) x1 x2 x3 = -1 ∧ ((-1) : Int) = -1) ∨ (¬ snF (sh Af 10) (sh Af 46) (gz Af 1) x1 x2 x3 = -1 ∧ ((-1) : Int) = pr (sh Af 10) x2 (snF (sh Af 10) (sh Af 46) (gz Af 1) x1 x2 x3)))) ∨ (¬ ((0 ≤ x1 ∧ x1 < (gz Af 0)) ∧ (0 ≤ x2 ∧ x2 < (gz Af 0)) ∧ (0 ≤ x3 ∧ x3 ≤ 400)) ∧ ((-1) : Int) = -1) from (Or.inl ⟨by omega, by rw [← ez_3]; first | exact Or.inl ⟨by omega, by omega⟩ | exact Or.inr ⟨by omega, by omega⟩⟩)) (hP.sub [1, 0] rfl) (hD.sub [1, 0] rfl rfl) dX12_priceSeen_51
  ·
    subst qz_1
    refine lv_if_ne (tgt := 16) hx hb dX12_priceSeen_7 rfl (fun c => absurd (by decide) c) (fun _ => ?_)
    refine lv_aload_n hx hb dX12_priceSeen_10 rfl (lv_at hl 0 rfl) ?_
    refine lv_iconst (v := iZ 1) hx hb dX12_priceSeen_11 rfl ?_
    refine CWV (As := [.int (iZ 1)]) (rest := []) (wc := _) (wr := [(Ma, .inl (k 1, 5340, .inl Af))]) hx hb hml hown hts hKK hP hD hS hA (m_refuse l D k hm Ma Mn Ms My Mt Mp Mx Mo Mk Ml Mb Mh Mc Mz Mr Mq Mst Mtd Msz Mtk Mfr Men Mva Mfk Mfp Mfs Mse Mlt Mdp Mct Mdr Mrs Mit Mmk Mtp Mbt 1) ci_X12_refuse qm_X12_81 ⟨Nat.le_of_ble_eq_true rfl, Nat.le_of_ble_eq_true rfl⟩ ⟨Nat.le_of_ble_eq_true rfl, Nat.le_of_ble_eq_true rfl⟩ [0] [1] rfl rfl rfl rfl rfl (dj rfl) 0 rfl rfl rfl hl.1 rfl (Nat.le_of_ble_eq_true rfl) dX12_priceSeen_12 (fun u_9 H locs hφ hP hD hS => ?_)
    refine W.eq (g2 := F0 m 15 ls [.int (iZ (-1))]) rfl ?_
    exact EWi hx hb hr hlocks hS (((-1), 1), 0, (), ()) rfl (show (((0 ≤ x1 ∧ x1 < (gz Af 0)) ∧ (0 ≤ x2 ∧ x2 < (gz Af 0)) ∧ (0 ≤ x3 ∧ x3 ≤ 400)) ∧ ((snF (sh Af 10) (sh Af 46) (gz Af 1) x1 x2 x3 = -1 ∧ ((-1) : Int) = -1) ∨ (¬ snF (sh Af 10) (sh Af 46) (gz Af 1) x1 x2 x3 = -1 ∧ ((-1) : Int) = pr (sh Af 10) x2 (snF (sh Af 10) (sh Af 46) (gz Af 1) x1 x2 x3)))) ∨ (¬ ((0 ≤ x1 ∧ x1 < (gz Af 0)) ∧ (0 ≤ x2 ∧ x2 < (gz Af 0)) ∧ (0 ≤ x3 ∧ x3 ≤ 400)) ∧ ((-1) : Int) = -1) from (by omega)) (hP.sub [1, 0] rfl) (hD.sub [1, 0] rfl rfl) dX12_priceSeen_15
set_option maxHeartbeats 4000000 in
set_option maxRecDepth 100000 in
theorem q_hoped (l : Launch) (D : va_G) (k : Nat → ClassId) (hm : Nat) (Ma : Nat) (Mn : Nat) (Ms : Nat) (My : Nat) (Mt : Nat) (Mp : Nat) (Mx : Nat) (Mo : Nat) (Mk : Nat) (Ml : Nat) (Mb : Nat) (Mh : Nat) (Mc : Nat) (Mz : Nat) (Mr : Nat) (Mq : Nat) (Mst : Int) (Mtd : Int) (Msz : Int) (Mtk : Int) (Mfr : Int) (Men : Int) (Mva : Int) (Mfk : Int) (Mfp : Int) (Mfs : Int) (Mse : Int) (Mlt : Int) (Mdp : Int) (Mct : Int) (Mdr : Int) (Mrs : Int) (Mit : Int) (Mmk : Int) (Mtp : Int64) (Mbt : Int64) (Af : Nat → Int32) (x1 : Int) (x2 : Int) (x3 : Int) (hM : M0 Af) (h9x1 : -2147483648 ≤ x1 ∧ x1 < 2147483648) (h9x2 : -2147483648 ≤ x2 ∧ x2 < 2147483648) (h9x3 : -2147483648 ≤ x3 ∧ x3 < 2147483648) : WD (σ := ((Int × Int) × (Int64) × (Unit) × (Unit))) l yX12_hoped cX12_hoped 5 (some .int) 6 0 0 D k [.ref hm, .int (iZ x1), .int (iZ x2), .int (iZ x3)] [(hm, .inr (12, [.ref Ma, .ref Mn, .int (iZ Mst), .long Mtp, .long Mbt, .ref Ms, .ref My, .ref Mt, .ref Mp, .ref Mx, .int (iZ Mtd), .int (iZ Msz), .int (iZ Mtk), .int (iZ Mfr), .int (iZ Men), .int (iZ Mva), .int (iZ Mfk), .int (iZ Mfp), .int (iZ Mfs), .int (iZ Mse), .int (iZ Mlt), .ref Mo, .int (iZ Mdp), .int (iZ Mct), .ref Mk, .ref Ml, .ref Mb, .ref Mh, .ref Mc, .int (iZ Mdr), .int (iZ Mrs), .ref Mz, .ref Mr, .ref Mq, .int (iZ Mit), .int (iZ Mmk)])), (Ma, .inl (k 1, 5340, .inl Af))] (fun u => some (.int (iZ u.1.1))) (fun u => (((0 ≤ x1 ∧ x1 < (gz Af 0)) ∧ (0 ≤ x3 ∧ x3 < (gz Af 0)) ∧ ¬ x1 = x3 ∧ (0 ≤ x2 ∧ x2 ≤ 400)) ∧ ((snF (sh Af 10) (sh Af 46) (gz Af 1) x1 x3 x2 = -1 ∧ (u.1.1 : Int) = -1) ∨ (¬ snF (sh Af 10) (sh Af 46) (gz Af 1) x1 x3 x2 = -1 ∧ (u.1.1 : Int) = pr (sh Af 10) x3 (snF (sh Af 10) (sh Af 46) (gz Af 1) x1 x3 x2) - pr (sh Af 10) x1 x2))) ∨ (¬ ((0 ≤ x1 ∧ x1 < (gz Af 0)) ∧ (0 ≤ x3 ∧ x3 < (gz Af 0)) ∧ ¬ x1 = x3 ∧ (0 ≤ x2 ∧ x2 ≤ 400)) ∧ (u.1.1 : Int) = -1)) (fun u => [(hm, .inr (12, [.ref Ma, .ref Mn, .int (iZ u.1.2), .long Mtp, .long Mbt, .ref Ms, .ref My, .ref Mt, .ref Mp, .ref Mx, .int (iZ Mtd), .int (iZ Msz), .int (iZ Mtk), .int (iZ Mfr), .int (iZ Men), .int (iZ Mva), .int (iZ Mfk), .int (iZ Mfp), .int (iZ Mfs), .int (iZ Mse), .int (iZ Mlt), .ref Mo, .int (iZ Mdp), .int (iZ Mct), .ref Mk, .ref Ml, .ref Mb, .ref Mh, .ref Mc, .int (iZ Mdr), .int (iZ Mrs), .ref Mz, .ref Mr, .ref Mq, .int (iZ Mit), .int (iZ Mmk)])), (Ma, .inl (k 1, 5340, .inl Af))]) := by
  refine MW (by decide) (Nat.le_of_ble_eq_true rfl) (fun p e s m below meth c ls A hx hb hml hr hlocks hin hts hown hKK hP hD hS hA hl => ?_)
  have hK := hKK.1
  have hl : lv_has ls 5 [(0, .ref hm), (1, .int (iZ x1)), (2, .int (iZ x2)), (3, .int (iZ x3))] := hl
  obtain ⟨m0, m1, m3, m4, m5, mF, mO, mS⟩ := id hM
  refine lv_aload_n hx hb dX12_hoped_0 rfl (lv_at hl 0 rfl) ?_
  refine lv_iload_n hx hb dX12_hoped_1 rfl (lv_at hl 1 rfl) ?_
  refine lv_iload_n hx hb dX12_hoped_2 rfl (lv_at hl 3 rfl) ?_
  refine CPV (As := [.int (iZ x1), .int (iZ x3)]) (rest := []) hx hb hml hown hts hKK hP (m_areTwo l D k ([.ref Ma, .ref Mn, .int (iZ Mst), .long Mtp, .long Mbt, .ref Ms, .ref My, .ref Mt, .ref Mp, .ref Mx, .int (iZ Mtd), .int (iZ Msz), .int (iZ Mtk), .int (iZ Mfr), .int (iZ Men), .int (iZ Mva), .int (iZ Mfk), .int (iZ Mfp), .int (iZ Mfs), .int (iZ Mse), .int (iZ Mlt), .ref Mo, .int (iZ Mdp), .int (iZ Mct), .ref Mk, .ref Ml, .ref Mb, .ref Mh, .ref Mc, .int (iZ Mdr), .int (iZ Mrs), .ref Mz, .ref Mr, .ref Mq, .int (iZ Mit), .int (iZ Mmk)]) hm Ma Af x1 x3 rfl hM ⟨by omega, by omega⟩ ⟨by omega, by omega⟩) ci_X12_areTwo qm_X12_265 ⟨Nat.le_of_ble_eq_true rfl, Nat.le_of_ble_eq_true rfl⟩ ⟨Nat.le_of_ble_eq_true rfl, Nat.le_of_ble_eq_true rfl⟩ 0 rfl rfl rfl hl.1 rfl (Nat.le_of_ble_eq_true rfl) dX12_hoped_3 (fun z_1 hz_1 => ?_)
  rcases hz_1 with ⟨qz_1, hz_1⟩ | ⟨qz_1, hz_1⟩
  ·
    subst qz_1
    refine lv_if_eq (tgt := 16) hx hb dX12_hoped_6 rfl (fun c => absurd c (by decide)) (fun _ => ?_)
    refine lv_iload_n hx hb dX12_hoped_9 rfl (lv_at hl 2 rfl) ?_
    refine CPS (As := [.int (iZ x2)]) (rest := []) hx hb hml hown hts hKK (hP.sub (ws' := []) [] rfl) (m_isWeek l D k x2 ⟨by omega, by omega⟩) ci_X12_isWeek qm_X12_268 ⟨Nat.le_of_ble_eq_true rfl, Nat.le_of_ble_eq_true rfl⟩ ⟨Nat.le_of_ble_eq_true rfl, Nat.le_of_ble_eq_true rfl⟩ rfl hl.1 rfl (Nat.le_of_ble_eq_true rfl) dX12_hoped_10 (fun z_3 hz_3 => ?_)
    rcases hz_3 with ⟨qz_3, hz_3⟩ | ⟨qz_3, hz_3⟩
    ·
      subst qz_3
      refine lv_if_ne (tgt := 22) hx hb dX12_hoped_13 rfl (fun _ => ?_) (fun c => absurd c (by decide))
      refine lv_aload_n hx hb dX12_hoped_22 rfl (lv_at hl 0 rfl) ?_
      refine lv_iload_n hx hb dX12_hoped_23 rfl (lv_at hl 1 rfl) ?_
      refine lv_iload_n hx hb dX12_hoped_24 rfl (lv_at hl 3 rfl) ?_
      refine lv_iload_n hx hb dX12_hoped_25 rfl (lv_at hl 2 rfl) ?_
      refine CPV (As := [.int (iZ x1), .int (iZ x3), .int (iZ x2)]) (rest := []) hx hb hml hown hts hKK hP (m_seen l D k ([.ref Ma, .ref Mn, .int (iZ Mst), .long Mtp, .long Mbt, .ref Ms, .ref My, .ref Mt, .ref Mp, .ref Mx, .int (iZ Mtd), .int (iZ Msz), .int (iZ Mtk), .int (iZ Mfr), .int (iZ Men), .int (iZ Mva), .int (iZ Mfk), .int (iZ Mfp), .int (iZ Mfs), .int (iZ Mse), .int (iZ Mlt), .ref Mo, .int (iZ Mdp), .int (iZ Mct), .ref Mk, .ref Ml, .ref Mb, .ref Mh, .ref Mc, .int (iZ Mdr), .int (iZ Mrs), .ref Mz, .ref Mr, .ref Mq, .int (iZ Mit), .int (iZ Mmk)]) hm Ma Af x1 x3 x2 rfl hM ⟨by omega, by omega⟩ ⟨by omega, by omega⟩ ⟨by omega, by omega⟩) ci_X12_seenBy qm_X12_287 ⟨Nat.le_of_ble_eq_true rfl, Nat.le_of_ble_eq_true rfl⟩ ⟨Nat.le_of_ble_eq_true rfl, Nat.le_of_ble_eq_true rfl⟩ 0 rfl rfl rfl hl.1 rfl (Nat.le_of_ble_eq_true rfl) dX12_hoped_26 (fun z_5 hz_5 => ?_)
      obtain ⟨ez_5, az_5⟩ := hz_5
      refine lv_istore (lv' := [(4, .int (iZ z_5)), (0, .ref hm), (1, .int (iZ x1)), (2, .int (iZ x2)), (3, .int (iZ x3))]) hx hb dX12_hoped_29 hl (bl rfl) rfl (fun ls hl => ?_)
      refine lv_iload hx hb dX12_hoped_31 (lv_at hl 0 rfl) ?_
      refine lv_iconst (v := iZ (-1)) hx hb dX12_hoped_33 rfl ?_
      refine lv_icmp_ne (tgt := 46) hx hb dX12_hoped_34 rfl (fun c_6 => ?_) (fun c_6 => ?_)
      ·
        have c_6 := mt (zeq (x := iZ z_5) (y := iZ (-1)) rfl rfl ⟨by omega, by omega⟩ wn_m1).mpr c_6
        refine lv_aload_n hx hb dX12_hoped_46 rfl (lv_at hl 1 rfl) ?_
        refine lv_aload_n hx hb dX12_hoped_47 rfl (lv_at hl 1 rfl) ?_
        refine lv_iload_n hx hb dX12_hoped_48 rfl (lv_at hl 4 rfl) ?_
        refine lv_iload hx hb dX12_hoped_49 (lv_at hl 0 rfl) ?_
        refine CRV (As := [.int (iZ x3), .int (iZ z_5)]) (rest := [.ref hm]) hx hb hml hown hts hKK hP (m_price l D k ([.ref Ma, .ref Mn, .int (iZ Mst), .long Mtp, .long Mbt, .ref Ms, .ref My, .ref Mt, .ref Mp, .ref Mx, .int (iZ Mtd), .int (iZ Msz), .int (iZ Mtk), .int (iZ Mfr), .int (iZ Men), .int (iZ Mva), .int (iZ Mfk), .int (iZ Mfp), .int (iZ Mfs), .int (iZ Mse), .int (iZ Mlt), .ref Mo, .int (iZ Mdp), .int (iZ Mct), .ref Mk, .ref Ml, .ref Mb, .ref Mh, .ref Mc, .int (iZ Mdr), .int (iZ Mrs), .ref Mz, .ref Mr, .ref Mq, .int (iZ Mit), .int (iZ Mmk)]) hm Ma Af x3 z_5 rfl hM ⟨by omega, by omega⟩ ⟨by omega, by omega⟩) ci_X12_priceOf qm_X12_353 ⟨Nat.le_of_ble_eq_true rfl, Nat.le_of_ble_eq_true rfl⟩ ⟨Nat.le_of_ble_eq_true rfl, Nat.le_of_ble_eq_true rfl⟩ 0 rfl rfl rfl hl.1 rfl (Nat.le_of_ble_eq_true rfl) dX12_hoped_51 ?_
        have hp_h_7 := pr_rg (f := (sh Af 10)) (a := x3) (w := z_5) hM.2.2.2.2.2.1 ⟨by omega, by omega⟩
        refine lv_aload_n hx hb dX12_hoped_54 rfl (lv_at hl 1 rfl) ?_
        refine lv_iload_n hx hb dX12_hoped_55 rfl (lv_at hl 2 rfl) ?_
        refine lv_iload_n hx hb dX12_hoped_56 rfl (lv_at hl 3 rfl) ?_
        refine CRV (As := [.int (iZ x1), .int (iZ x2)]) (rest := [.int (iZ (pr (sh Af 10) x3 z_5)), .ref hm]) hx hb hml hown hts hKK hP (m_price l D k ([.ref Ma, .ref Mn, .int (iZ Mst), .long Mtp, .long Mbt, .ref Ms, .ref My, .ref Mt, .ref Mp, .ref Mx, .int (iZ Mtd), .int (iZ Msz), .int (iZ Mtk), .int (iZ Mfr), .int (iZ Men), .int (iZ Mva), .int (iZ Mfk), .int (iZ Mfp), .int (iZ Mfs), .int (iZ Mse), .int (iZ Mlt), .ref Mo, .int (iZ Mdp), .int (iZ Mct), .ref Mk, .ref Ml, .ref Mb, .ref Mh, .ref Mc, .int (iZ Mdr), .int (iZ Mrs), .ref Mz, .ref Mr, .ref Mq, .int (iZ Mit), .int (iZ Mmk)]) hm Ma Af x1 x2 rfl hM ⟨by omega, by omega⟩ ⟨by omega, by omega⟩) ci_X12_priceOf qm_X12_353 ⟨Nat.le_of_ble_eq_true rfl, Nat.le_of_ble_eq_true rfl⟩ ⟨Nat.le_of_ble_eq_true rfl, Nat.le_of_ble_eq_true rfl⟩ 0 rfl rfl rfl hl.1 rfl (Nat.le_of_ble_eq_true rfl) dX12_hoped_57 ?_
        have hp_h_8 := pr_rg (f := (sh Af 10)) (a := x1) (w := x2) hM.2.2.2.2.2.1 ⟨by omega, by omega⟩
        refine lv_isub hx hb dX12_hoped_60 ?_
        refine lv_topi (fun x_9 ex_9 => ?_)
        obtain rfl : x_9 = iZ ((pr (sh Af 10) x3 z_5) - (pr (sh Af 10) x1 x2)) := ex_9.trans (iZ_sub (pr (sh Af 10) x3 z_5) (pr (sh Af 10) x1 x2))
        refine CWV (As := [.int (iZ ((pr (sh Af 10) x3 z_5) - (pr (sh Af 10) x1 x2)))]) (rest := []) (wc := _) (wr := [(Ma, .inl (k 1, 5340, .inl Af))]) hx hb hml hown hts hKK hP hD hS hA (m_gives l D k hm Ma Mn Ms My Mt Mp Mx Mo Mk Ml Mb Mh Mc Mz Mr Mq Mst Mtd Msz Mtk Mfr Men Mva Mfk Mfp Mfs Mse Mlt Mdp Mct Mdr Mrs Mit Mmk Mtp Mbt ((pr (sh Af 10) x3 z_5) - (pr (sh Af 10) x1 x2))) ci_X12_gives qm_X12_85 ⟨Nat.le_of_ble_eq_true rfl, Nat.le_of_ble_eq_true rfl⟩ ⟨Nat.le_of_ble_eq_true rfl, Nat.le_of_ble_eq_true rfl⟩ [0] [1] rfl rfl rfl rfl rfl (dj rfl) 0 rfl rfl rfl hl.1 rfl (Nat.le_of_ble_eq_true rfl) dX12_hoped_61 (fun u_10 H locs hφ hP hD hS => ?_)
        refine W.eq (g2 := F0 m 64 ls [.int (iZ ((pr (sh Af 10) x3 z_5) - (pr (sh Af 10) x1 x2)))]) rfl ?_
        exact EWi hx hb hr hlocks hS ((((pr (sh Af 10) x3 z_5) - (pr (sh Af 10) x1 x2)), 0), 0, (), ()) rfl (show (((0 ≤ x1 ∧ x1 < (gz Af 0)) ∧ (0 ≤ x3 ∧ x3 < (gz Af 0)) ∧ ¬ x1 = x3 ∧ (0 ≤ x2 ∧ x2 ≤ 400)) ∧ ((snF (sh Af 10) (sh Af 46) (gz Af 1) x1 x3 x2 = -1 ∧ (((pr (sh Af 10) x3 z_5) - (pr (sh Af 10) x1 x2)) : Int) = -1) ∨ (¬ snF (sh Af 10) (sh Af 46) (gz Af 1) x1 x3 x2 = -1 ∧ (((pr (sh Af 10) x3 z_5) - (pr (sh Af 10) x1 x2)) : Int) = pr (sh Af 10) x3 (snF (sh Af 10) (sh Af 46) (gz Af 1) x1 x3 x2) - pr (sh Af 10) x1 x2))) ∨ (¬ ((0 ≤ x1 ∧ x1 < (gz Af 0)) ∧ (0 ≤ x3 ∧ x3 < (gz Af 0)) ∧ ¬ x1 = x3 ∧ (0 ≤ x2 ∧ x2 ≤ 400)) ∧ (((pr (sh Af 10) x3 z_5) - (pr (sh Af 10) x1 x2)) : Int) = -1) from (Or.inl ⟨by omega, by rw [← ez_5]; first | exact Or.inl ⟨by omega, by omega⟩ | exact Or.inr ⟨by omega, by omega⟩⟩)) (hP.sub [1, 0] rfl) (hD.sub [1, 0] rfl rfl) dX12_hoped_64
      ·
        have c_6 := (zeq (x := iZ z_5) (y := iZ (-1)) rfl rfl ⟨by omega, by omega⟩ wn_m1).mp c_6
        refine lv_aload_n hx hb dX12_hoped_37 rfl (lv_at hl 1 rfl) ?_
        refine lv_bipush (v := iZ 6) hx hb dX12_hoped_38 bip_6 ?_
        refine CWV (As := [.int (iZ 6)]) (rest := []) (wc := _) (wr := [(Ma, .inl (k 1, 5340, .inl Af))]) hx hb hml hown hts hKK hP hD hS hA (m_refuse l D k hm Ma Mn Ms My Mt Mp Mx Mo Mk Ml Mb Mh Mc Mz Mr Mq Mst Mtd Msz Mtk Mfr Men Mva Mfk Mfp Mfs Mse Mlt Mdp Mct Mdr Mrs Mit Mmk Mtp Mbt 6) ci_X12_refuse qm_X12_81 ⟨Nat.le_of_ble_eq_true rfl, Nat.le_of_ble_eq_true rfl⟩ ⟨Nat.le_of_ble_eq_true rfl, Nat.le_of_ble_eq_true rfl⟩ [0] [1] rfl rfl rfl rfl rfl (dj rfl) 0 rfl rfl rfl hl.1 rfl (Nat.le_of_ble_eq_true rfl) dX12_hoped_40 (fun u_11 H locs hφ hP hD hS => ?_)
        refine W.eq (g2 := F0 m 43 ls [.int (iZ (-1))]) rfl ?_
        refine lv_goto (tgt := 64) hx hb dX12_hoped_43 rfl ?_
        exact EWi hx hb hr hlocks hS (((-1), 6), 0, (), ()) rfl (show (((0 ≤ x1 ∧ x1 < (gz Af 0)) ∧ (0 ≤ x3 ∧ x3 < (gz Af 0)) ∧ ¬ x1 = x3 ∧ (0 ≤ x2 ∧ x2 ≤ 400)) ∧ ((snF (sh Af 10) (sh Af 46) (gz Af 1) x1 x3 x2 = -1 ∧ ((-1) : Int) = -1) ∨ (¬ snF (sh Af 10) (sh Af 46) (gz Af 1) x1 x3 x2 = -1 ∧ ((-1) : Int) = pr (sh Af 10) x3 (snF (sh Af 10) (sh Af 46) (gz Af 1) x1 x3 x2) - pr (sh Af 10) x1 x2))) ∨ (¬ ((0 ≤ x1 ∧ x1 < (gz Af 0)) ∧ (0 ≤ x3 ∧ x3 < (gz Af 0)) ∧ ¬ x1 = x3 ∧ (0 ≤ x2 ∧ x2 ≤ 400)) ∧ ((-1) : Int) = -1) from (Or.inl ⟨by omega, by rw [← ez_5]; first | exact Or.inl ⟨by omega, by omega⟩ | exact Or.inr ⟨by omega, by omega⟩⟩)) (hP.sub [1, 0] rfl) (hD.sub [1, 0] rfl rfl) dX12_hoped_64
    ·
      subst qz_3
      refine lv_if_ne (tgt := 22) hx hb dX12_hoped_13 rfl (fun c => absurd (by decide) c) (fun _ => ?_)
      refine lv_aload_n hx hb dX12_hoped_16 rfl (lv_at hl 0 rfl) ?_
      refine lv_iconst (v := iZ 1) hx hb dX12_hoped_17 rfl ?_
      refine CWV (As := [.int (iZ 1)]) (rest := []) (wc := _) (wr := [(Ma, .inl (k 1, 5340, .inl Af))]) hx hb hml hown hts hKK hP hD hS hA (m_refuse l D k hm Ma Mn Ms My Mt Mp Mx Mo Mk Ml Mb Mh Mc Mz Mr Mq Mst Mtd Msz Mtk Mfr Men Mva Mfk Mfp Mfs Mse Mlt Mdp Mct Mdr Mrs Mit Mmk Mtp Mbt 1) ci_X12_refuse qm_X12_81 ⟨Nat.le_of_ble_eq_true rfl, Nat.le_of_ble_eq_true rfl⟩ ⟨Nat.le_of_ble_eq_true rfl, Nat.le_of_ble_eq_true rfl⟩ [0] [1] rfl rfl rfl rfl rfl (dj rfl) 0 rfl rfl rfl hl.1 rfl (Nat.le_of_ble_eq_true rfl) dX12_hoped_18 (fun u_13 H locs hφ hP hD hS => ?_)
      refine W.eq (g2 := F0 m 21 ls [.int (iZ (-1))]) rfl ?_
      exact EWi hx hb hr hlocks hS (((-1), 1), 0, (), ()) rfl (show (((0 ≤ x1 ∧ x1 < (gz Af 0)) ∧ (0 ≤ x3 ∧ x3 < (gz Af 0)) ∧ ¬ x1 = x3 ∧ (0 ≤ x2 ∧ x2 ≤ 400)) ∧ ((snF (sh Af 10) (sh Af 46) (gz Af 1) x1 x3 x2 = -1 ∧ ((-1) : Int) = -1) ∨ (¬ snF (sh Af 10) (sh Af 46) (gz Af 1) x1 x3 x2 = -1 ∧ ((-1) : Int) = pr (sh Af 10) x3 (snF (sh Af 10) (sh Af 46) (gz Af 1) x1 x3 x2) - pr (sh Af 10) x1 x2))) ∨ (¬ ((0 ≤ x1 ∧ x1 < (gz Af 0)) ∧ (0 ≤ x3 ∧ x3 < (gz Af 0)) ∧ ¬ x1 = x3 ∧ (0 ≤ x2 ∧ x2 ≤ 400)) ∧ ((-1) : Int) = -1) from (by omega)) (hP.sub [1, 0] rfl) (hD.sub [1, 0] rfl rfl) dX12_hoped_21
  ·
    subst qz_1
    refine lv_if_eq (tgt := 16) hx hb dX12_hoped_6 rfl (fun _ => ?_) (fun c => absurd (by decide) c)
    refine lv_aload_n hx hb dX12_hoped_16 rfl (lv_at hl 0 rfl) ?_
    refine lv_iconst (v := iZ 1) hx hb dX12_hoped_17 rfl ?_
    refine CWV (As := [.int (iZ 1)]) (rest := []) (wc := _) (wr := [(Ma, .inl (k 1, 5340, .inl Af))]) hx hb hml hown hts hKK hP hD hS hA (m_refuse l D k hm Ma Mn Ms My Mt Mp Mx Mo Mk Ml Mb Mh Mc Mz Mr Mq Mst Mtd Msz Mtk Mfr Men Mva Mfk Mfp Mfs Mse Mlt Mdp Mct Mdr Mrs Mit Mmk Mtp Mbt 1) ci_X12_refuse qm_X12_81 ⟨Nat.le_of_ble_eq_true rfl, Nat.le_of_ble_eq_true rfl⟩ ⟨Nat.le_of_ble_eq_true rfl, Nat.le_of_ble_eq_true rfl⟩ [0] [1] rfl rfl rfl rfl rfl (dj rfl) 0 rfl rfl rfl hl.1 rfl (Nat.le_of_ble_eq_true rfl) dX12_hoped_18 (fun u_15 H locs hφ hP hD hS => ?_)
    refine W.eq (g2 := F0 m 21 ls [.int (iZ (-1))]) rfl ?_
    exact EWi hx hb hr hlocks hS (((-1), 1), 0, (), ()) rfl (show (((0 ≤ x1 ∧ x1 < (gz Af 0)) ∧ (0 ≤ x3 ∧ x3 < (gz Af 0)) ∧ ¬ x1 = x3 ∧ (0 ≤ x2 ∧ x2 ≤ 400)) ∧ ((snF (sh Af 10) (sh Af 46) (gz Af 1) x1 x3 x2 = -1 ∧ ((-1) : Int) = -1) ∨ (¬ snF (sh Af 10) (sh Af 46) (gz Af 1) x1 x3 x2 = -1 ∧ ((-1) : Int) = pr (sh Af 10) x3 (snF (sh Af 10) (sh Af 46) (gz Af 1) x1 x3 x2) - pr (sh Af 10) x1 x2))) ∨ (¬ ((0 ≤ x1 ∧ x1 < (gz Af 0)) ∧ (0 ≤ x3 ∧ x3 < (gz Af 0)) ∧ ¬ x1 = x3 ∧ (0 ≤ x2 ∧ x2 ≤ 400)) ∧ ((-1) : Int) = -1) from (by omega)) (hP.sub [1, 0] rfl) (hD.sub [1, 0] rfl rfl) dX12_hoped_21
set_option maxHeartbeats 4000000 in
set_option maxRecDepth 100000 in
theorem q_market (l : Launch) (D : va_G) (k : Nat → ClassId) (hm : Nat) (Ma : Nat) (Mn : Nat) (Ms : Nat) (My : Nat) (Mt : Nat) (Mp : Nat) (Mx : Nat) (Mo : Nat) (Mk : Nat) (Ml : Nat) (Mb : Nat) (Mh : Nat) (Mc : Nat) (Mz : Nat) (Mr : Nat) (Mq : Nat) (Mst : Int) (Mtd : Int) (Msz : Int) (Mtk : Int) (Mfr : Int) (Men : Int) (Mva : Int) (Mfk : Int) (Mfp : Int) (Mfs : Int) (Mse : Int) (Mlt : Int) (Mdp : Int) (Mct : Int) (Mdr : Int) (Mrs : Int) (Mit : Int) (Mmk : Int) (Mtp : Int64) (Mbt : Int64) (Af : Nat → Int32) (x1 : Int) (x2 : Int) (hM : M0 Af) (h9x1 : -2147483648 ≤ x1 ∧ x1 < 2147483648) (h9x2 : -2147483648 ≤ x2 ∧ x2 < 2147483648) : WD (σ := ((Int × Int) × (Int64) × (Unit) × (Unit))) l yX12_market cX12_market 5 (some .int) 5 0 0 D k [.ref hm, .int (iZ x1), .int (iZ x2)] [(hm, .inr (12, [.ref Ma, .ref Mn, .int (iZ Mst), .long Mtp, .long Mbt, .ref Ms, .ref My, .ref Mt, .ref Mp, .ref Mx, .int (iZ Mtd), .int (iZ Msz), .int (iZ Mtk), .int (iZ Mfr), .int (iZ Men), .int (iZ Mva), .int (iZ Mfk), .int (iZ Mfp), .int (iZ Mfs), .int (iZ Mse), .int (iZ Mlt), .ref Mo, .int (iZ Mdp), .int (iZ Mct), .ref Mk, .ref Ml, .ref Mb, .ref Mh, .ref Mc, .int (iZ Mdr), .int (iZ Mrs), .ref Mz, .ref Mr, .ref Mq, .int (iZ Mit), .int (iZ Mmk)])), (Ma, .inl (k 1, 5340, .inl Af))] (fun u => some (.int (iZ u.1.1))) (fun u => (((0 ≤ x1 ∧ x1 < (gz Af 0)) ∧ (0 ≤ x2 ∧ x2 ≤ 400)) ∧ isFB (fun j => -gnF (sh Af 10) x1 x2 j) x1 (gz Af 0) u.1.1) ∨ (¬ ((0 ≤ x1 ∧ x1 < (gz Af 0)) ∧ (0 ≤ x2 ∧ x2 ≤ 400)) ∧ (u.1.1 : Int) = -1)) (fun u => [(hm, .inr (12, [.ref Ma, .ref Mn, .int (iZ u.1.2), .long Mtp, .long Mbt, .ref Ms, .ref My, .ref Mt, .ref Mp, .ref Mx, .int (iZ Mtd), .int (iZ Msz), .int (iZ Mtk), .int (iZ Mfr), .int (iZ Men), .int (iZ Mva), .int (iZ Mfk), .int (iZ Mfp), .int (iZ Mfs), .int (iZ Mse), .int (iZ Mlt), .ref Mo, .int (iZ Mdp), .int (iZ Mct), .ref Mk, .ref Ml, .ref Mb, .ref Mh, .ref Mc, .int (iZ Mdr), .int (iZ Mrs), .ref Mz, .ref Mr, .ref Mq, .int (iZ Mit), .int (iZ Mmk)])), (Ma, .inl (k 1, 5340, .inl Af))]) := by
  refine MW (by decide) (Nat.le_of_ble_eq_true rfl) (fun p e s m below meth c ls A hx hb hml hr hlocks hin hts hown hKK hP hD hS hA hl => ?_)
  have hK := hKK.1
  have hl : lv_has ls 5 [(0, .ref hm), (1, .int (iZ x1)), (2, .int (iZ x2))] := hl
  obtain ⟨m0, m1, m3, m4, m5, mF, mO, mS⟩ := id hM
  refine lv_aload_n hx hb dX12_market_0 rfl (lv_at hl 0 rfl) ?_
  refine lv_iload_n hx hb dX12_market_1 rfl (lv_at hl 1 rfl) ?_
  refine CPV (As := [.int (iZ x1)]) (rest := []) hx hb hml hown hts hKK hP (m_isRock l D k ([.ref Ma, .ref Mn, .int (iZ Mst), .long Mtp, .long Mbt, .ref Ms, .ref My, .ref Mt, .ref Mp, .ref Mx, .int (iZ Mtd), .int (iZ Msz), .int (iZ Mtk), .int (iZ Mfr), .int (iZ Men), .int (iZ Mva), .int (iZ Mfk), .int (iZ Mfp), .int (iZ Mfs), .int (iZ Mse), .int (iZ Mlt), .ref Mo, .int (iZ Mdp), .int (iZ Mct), .ref Mk, .ref Ml, .ref Mb, .ref Mh, .ref Mc, .int (iZ Mdr), .int (iZ Mrs), .ref Mz, .ref Mr, .ref Mq, .int (iZ Mit), .int (iZ Mmk)]) hm Ma Af x1 rfl hM ⟨by omega, by omega⟩) ci_X12_isRock qm_X12_243 ⟨Nat.le_of_ble_eq_true rfl, Nat.le_of_ble_eq_true rfl⟩ ⟨Nat.le_of_ble_eq_true rfl, Nat.le_of_ble_eq_true rfl⟩ 0 rfl rfl rfl hl.1 rfl (Nat.le_of_ble_eq_true rfl) dX12_market_2 (fun z_1 hz_1 => ?_)
  rcases hz_1 with ⟨qz_1, hz_1⟩ | ⟨qz_1, hz_1⟩
  ·
    subst qz_1
    refine lv_if_eq (tgt := 15) hx hb dX12_market_5 rfl (fun c => absurd c (by decide)) (fun _ => ?_)
    refine lv_iload_n hx hb dX12_market_8 rfl (lv_at hl 2 rfl) ?_
    refine CPS (As := [.int (iZ x2)]) (rest := []) hx hb hml hown hts hKK (hP.sub (ws' := []) [] rfl) (m_isWeek l D k x2 ⟨by omega, by omega⟩) ci_X12_isWeek qm_X12_268 ⟨Nat.le_of_ble_eq_true rfl, Nat.le_of_ble_eq_true rfl⟩ ⟨Nat.le_of_ble_eq_true rfl, Nat.le_of_ble_eq_true rfl⟩ rfl hl.1 rfl (Nat.le_of_ble_eq_true rfl) dX12_market_9 (fun z_3 hz_3 => ?_)
    rcases hz_3 with ⟨qz_3, hz_3⟩ | ⟨qz_3, hz_3⟩
    ·
      subst qz_3
      refine lv_if_ne (tgt := 21) hx hb dX12_market_12 rfl (fun _ => ?_) (fun c => absurd c (by decide))
      refine lv_iconst (v := iZ (-1)) hx hb dX12_market_21 rfl ?_
      refine lv_istore_n (lv' := [(3, .int (iZ (-1))), (0, .ref hm), (1, .int (iZ x1)), (2, .int (iZ x2))]) hx hb dX12_market_22 rfl hl (bl rfl) rfl (fun ls hl => ?_)
      refine lv_iconst (v := iZ 0) hx hb dX12_market_23 rfl ?_
      refine lv_istore (lv' := [(4, .int (iZ 0)), (3, .int (iZ (-1))), (0, .ref hm), (1, .int (iZ x1)), (2, .int (iZ x2))]) hx hb dX12_market_24 hl (bl rfl) rfl (fun ls hl => ?_)
      have HL26 : ∀ (fu : Nat) (v3_26 : Int) (v4_26 : Int) (H : Heap) (locs : List Loc) (ls : Array Slot), ((gz Af 0) + 2 - v4_26) < (fu : Int) → ((0 ≤ v4_26 ∧ v4_26 ≤ (gz Af 0) + 1)) → (-1 ≤ v3_26 ∧ v3_26 < gz Af 0) → (isFB (fun j => -gnF (sh Af 10) x1 x2 j) x1 v4_26 v3_26) → (v4_26 ≤ gz Af 0) → va_P D vwCl [(hm, .inr (12, [.ref Ma, .ref Mn, .int (iZ Mst), .long Mtp, .long Mbt, .ref Ms, .ref My, .ref Mt, .ref Mp, .ref Mx, .int (iZ Mtd), .int (iZ Msz), .int (iZ Mtk), .int (iZ Mfr), .int (iZ Men), .int (iZ Mva), .int (iZ Mfk), .int (iZ Mfp), .int (iZ Mfs), .int (iZ Mse), .int (iZ Mlt), .ref Mo, .int (iZ Mdp), .int (iZ Mct), .ref Mk, .ref Ml, .ref Mb, .ref Mh, .ref Mc, .int (iZ Mdr), .int (iZ Mrs), .ref Mz, .ref Mr, .ref Mq, .int (iZ Mit), .int (iZ Mmk)])), (Ma, .inl (k 1, 5340, .inl Af))] H → va_D A [(hm, .inr (12, [.ref Ma, .ref Mn, .int (iZ Mst), .long Mtp, .long Mbt, .ref Ms, .ref My, .ref Mt, .ref Mp, .ref Mx, .int (iZ Mtd), .int (iZ Msz), .int (iZ Mtk), .int (iZ Mfr), .int (iZ Men), .int (iZ Mva), .int (iZ Mfk), .int (iZ Mfp), .int (iZ Mfs), .int (iZ Mse), .int (iZ Mlt), .ref Mo, .int (iZ Mdp), .int (iZ Mct), .ref Mk, .ref Ml, .ref Mb, .ref Mh, .ref Mc, .int (iZ Mdr), .int (iZ Mrs), .ref Mz, .ref Mr, .ref Mq, .int (iZ Mit), .int (iZ Mmk)])), (Ma, .inl (k 1, 5340, .inl Af))] → va_S A s.heap H locs → lv_has ls 5 [(4, .int (iZ v4_26)), (3, .int (iZ v3_26)), (0, .ref hm), (1, .int (iZ x1)), (2, .int (iZ x2))] → W p l e (rj 5 0 0) s m [.ref hm, .int (iZ x1), .int (iZ x2)].toArray below meth c H locs 0 0 (MQ below (QW (σ := ((Int × Int) × (Int64) × (Unit) × (Unit))) (fun u => some (.int (iZ u.1.1))) (fun u => (((0 ≤ x1 ∧ x1 < (gz Af 0)) ∧ (0 ≤ x2 ∧ x2 ≤ 400)) ∧ isFB (fun j => -gnF (sh Af 10) x1 x2 j) x1 (gz Af 0) u.1.1) ∨ (¬ ((0 ≤ x1 ∧ x1 < (gz Af 0)) ∧ (0 ≤ x2 ∧ x2 ≤ 400)) ∧ (u.1.1 : Int) = -1)) (fun u => [(hm, .inr (12, [.ref Ma, .ref Mn, .int (iZ u.1.2), .long Mtp, .long Mbt, .ref Ms, .ref My, .ref Mt, .ref Mp, .ref Mx, .int (iZ Mtd), .int (iZ Msz), .int (iZ Mtk), .int (iZ Mfr), .int (iZ Men), .int (iZ Mva), .int (iZ Mfk), .int (iZ Mfp), .int (iZ Mfs), .int (iZ Mse), .int (iZ Mlt), .ref Mo, .int (iZ Mdp), .int (iZ Mct), .ref Mk, .ref Ml, .ref Mb, .ref Mh, .ref Mc, .int (iZ Mdr), .int (iZ Mrs), .ref Mz, .ref Mr, .ref Mq, .int (iZ Mit), .int (iZ Mmk)])), (Ma, .inl (k 1, 5340, .inl Af))]) D A) [.ref hm, .int (iZ x1), .int (iZ x2)].toArray s 0 0 A) (F0 m 26 ls []) := by
        intro fu
        induction fu with
        | zero => intro v3_26 v4_26 H locs ls hμ26 hi26 hf0_26 hfb hbn hP hD hS hl; exact absurd hμ26 (by omega)
        | succ fu ih26 =>
          intro v3_26 v4_26 H locs ls hμ26 hi26 hf0_26 hfb hbn hP hD hS hl
          refine lv_iload hx hb dX12_market_26 (lv_at hl 0 rfl) ?_
          refine lv_aload_n hx hb dX12_market_28 rfl (lv_at hl 2 rfl) ?_
          refine va_get (D := D) (ci := 12) (v := .ref Ma) (C := RX12) (T := TX12) (N := 36) hx hb hts iX12 hown hK hP 0 rfl rfl 0 (bl rfl) (hts _ qf_X12_7) (fun _ h => h) rfl dX12_market_29 ?_
          refine lv_iconst (v := iZ 0) hx hb dX12_market_32 rfl ?_
          refine va_iald hx hb hK hP 1 1 rfl rfl (zin (e := 0) (n := 5340) ⟨by omega, by omega⟩ (bl rfl)) dX12_market_33 ?_
          refine lv_topi (fun x_5 ex_5 => ?_)
          obtain rfl : x_5 = iZ (gz Af 0) := ex_5.trans (gz_eq ⟨by omega, by omega⟩)
          have h_6 := gz_rg Af 0
          refine lv_icmp_ge (tgt := 75) hx hb dX12_market_34 rfl (fun c_7 => ?_) (fun c_7 => ?_)
          ·
            have c_7 := (zle (x := iZ (gz Af 0)) (y := iZ v4_26) rfl rfl (gz_rg Af 0) ⟨by omega, by omega⟩).mp c_7
            refine lv_aload_n hx hb dX12_market_75 rfl (lv_at hl 2 rfl) ?_
            refine lv_iload_n hx hb dX12_market_76 rfl (lv_at hl 1 rfl) ?_
            refine CWV (As := [.int (iZ v3_26)]) (rest := []) (wc := _) (wr := [(Ma, .inl (k 1, 5340, .inl Af))]) hx hb hml hown hts hKK hP hD hS hA (m_orNone l D k hm Ma Mn Ms My Mt Mp Mx Mo Mk Ml Mb Mh Mc Mz Mr Mq Mst Mtd Msz Mtk Mfr Men Mva Mfk Mfp Mfs Mse Mlt Mdp Mct Mdr Mrs Mit Mmk Mtp Mbt v3_26 ⟨by omega, by omega⟩) ci_X12_orNone qm_X12_290 ⟨Nat.le_of_ble_eq_true rfl, Nat.le_of_ble_eq_true rfl⟩ ⟨Nat.le_of_ble_eq_true rfl, Nat.le_of_ble_eq_true rfl⟩ [0] [1] rfl rfl rfl rfl rfl (dj rfl) 0 rfl rfl rfl hl.1 rfl (Nat.le_of_ble_eq_true rfl) dX12_market_77 (fun u_8 H locs hφ hP hD hS => ?_)
            have p_9 : ((v3_26 : Int) = -1 ∧ u_8.1.2 = 6) ∨ (¬ (v3_26 : Int) = -1 ∧ u_8.1.2 = 0) := hφ
            refine W.eq (g2 := F0 m 80 ls [.int (iZ v3_26)]) rfl ?_
            exact EWi hx hb hr hlocks hS ((v3_26, u_8.1.2), 0, (), ()) rfl (show (((0 ≤ x1 ∧ x1 < (gz Af 0)) ∧ (0 ≤ x2 ∧ x2 ≤ 400)) ∧ isFB (fun j => -gnF (sh Af 10) x1 x2 j) x1 (gz Af 0) v3_26) ∨ (¬ ((0 ≤ x1 ∧ x1 < (gz Af 0)) ∧ (0 ≤ x2 ∧ x2 ≤ 400)) ∧ (v3_26 : Int) = -1) from (Or.inl ⟨by omega, isFB_n hfb (by omega)⟩)) (hP.sub [1, 0] rfl) (hD.sub [1, 0] rfl rfl) dX12_market_80
          ·
            have c_7 := mt (zle (x := iZ (gz Af 0)) (y := iZ v4_26) rfl rfl (gz_rg Af 0) ⟨by omega, by omega⟩).mpr c_7
            refine lv_iload hx hb dX12_market_37 (lv_at hl 0 rfl) ?_
            refine lv_iload_n hx hb dX12_market_39 rfl (lv_at hl 3 rfl) ?_
            refine lv_icmp_eq (tgt := 69) hx hb dX12_market_40 rfl (fun c_10 => ?_) (fun c_10 => ?_)
            ·
              have c_10 := (zeq (x := iZ v4_26) (y := iZ x1) rfl rfl ⟨by omega, by omega⟩ ⟨by omega, by omega⟩).mp c_10
              refine lv_iinc (v := iZ (v4_26 + 1)) (lv' := [(4, .int (iZ (v4_26 + 1))), (3, .int (iZ v3_26)), (0, .ref hm), (1, .int (iZ x1)), (2, .int (iZ x2))]) hx hb dX12_market_69 hl (k := 0) rfl (iZ_add v4_26 1) (by decide) rfl (fun ls hl => ?_)
              refine lv_goto (tgt := 26) hx hb dX12_market_72 rfl ?_
              exact ih26  v3_26 (v4_26 + 1) _ _ _ (by omega) (show (0 ≤ (v4_26 + 1) ∧ (v4_26 + 1) ≤ (gz Af 0) + 1) from ⟨by omega, by omega⟩) (show -1 ≤ v3_26 ∧ v3_26 < gz Af 0 from (by omega)) (show isFB (fun j => -gnF (sh Af 10) x1 x2 j) x1 (v4_26 + 1) v3_26 from (by first | exact isFB_1 hfb (by omega) | exact isFB_3 hfb (by omega) (by omega))) (show (v4_26 + 1) ≤ gz Af 0 from (by omega)) (hP.sub [0, 1] rfl) (hD.sub [0, 1] rfl rfl) hS (lv_sub hl [0, 1, 2, 3, 4] rfl)
            ·
              have c_10 := mt (zeq (x := iZ v4_26) (y := iZ x1) rfl rfl ⟨by omega, by omega⟩ ⟨by omega, by omega⟩).mpr c_10
              refine lv_iload_n hx hb dX12_market_43 rfl (lv_at hl 1 rfl) ?_
              refine lv_iconst (v := iZ (-1)) hx hb dX12_market_44 rfl ?_
              refine lv_icmp_eq (tgt := 66) hx hb dX12_market_45 rfl (fun c_11 => ?_) (fun c_11 => ?_)
              ·
                have c_11 := (zeq (x := iZ v3_26) (y := iZ (-1)) rfl rfl ⟨by omega, by omega⟩ wn_m1).mp c_11
                refine lv_iload hx hb dX12_market_66 (lv_at hl 0 rfl) ?_
                refine lv_istore_n (lv' := [(3, .int (iZ v4_26)), (4, .int (iZ v4_26)), (0, .ref hm), (1, .int (iZ x1)), (2, .int (iZ x2))]) hx hb dX12_market_68 rfl hl (bl rfl) rfl (fun ls hl => ?_)
                refine lv_iinc (v := iZ (v4_26 + 1)) (lv' := [(4, .int (iZ (v4_26 + 1))), (3, .int (iZ v4_26)), (0, .ref hm), (1, .int (iZ x1)), (2, .int (iZ x2))]) hx hb dX12_market_69 hl (k := 1) rfl (iZ_add v4_26 1) (by decide) rfl (fun ls hl => ?_)
                refine lv_goto (tgt := 26) hx hb dX12_market_72 rfl ?_
                exact ih26  v4_26 (v4_26 + 1) _ _ _ (by omega) (show (0 ≤ (v4_26 + 1) ∧ (v4_26 + 1) ≤ (gz Af 0) + 1) from ⟨by omega, by omega⟩) (show -1 ≤ v4_26 ∧ v4_26 < gz Af 0 from (by omega)) (show isFB (fun j => -gnF (sh Af 10) x1 x2 j) x1 (v4_26 + 1) v4_26 from (isFB_2 hfb (by omega) (by omega) (by omega))) (show (v4_26 + 1) ≤ gz Af 0 from (by omega)) (hP.sub [0, 1] rfl) (hD.sub [0, 1] rfl rfl) hS (lv_sub hl [0, 1, 2, 3, 4] rfl)
              ·
                have c_11 := mt (zeq (x := iZ v3_26) (y := iZ (-1)) rfl rfl ⟨by omega, by omega⟩ wn_m1).mpr c_11
                refine lv_aload_n hx hb dX12_market_48 rfl (lv_at hl 2 rfl) ?_
                refine lv_iload_n hx hb dX12_market_49 rfl (lv_at hl 3 rfl) ?_
                refine lv_iload_n hx hb dX12_market_50 rfl (lv_at hl 4 rfl) ?_
                refine lv_iload hx hb dX12_market_51 (lv_at hl 0 rfl) ?_
                refine CPV (As := [.int (iZ x1), .int (iZ x2), .int (iZ v4_26)]) (rest := []) hx hb hml hown hts hKK hP (m_gain l D k ([.ref Ma, .ref Mn, .int (iZ Mst), .long Mtp, .long Mbt, .ref Ms, .ref My, .ref Mt, .ref Mp, .ref Mx, .int (iZ Mtd), .int (iZ Msz), .int (iZ Mtk), .int (iZ Mfr), .int (iZ Men), .int (iZ Mva), .int (iZ Mfk), .int (iZ Mfp), .int (iZ Mfs), .int (iZ Mse), .int (iZ Mlt), .ref Mo, .int (iZ Mdp), .int (iZ Mct), .ref Mk, .ref Ml, .ref Mb, .ref Mh, .ref Mc, .int (iZ Mdr), .int (iZ Mrs), .ref Mz, .ref Mr, .ref Mq, .int (iZ Mit), .int (iZ Mmk)]) hm Ma Af x1 x2 v4_26 rfl hM ⟨by omega, by omega⟩ ⟨by omega, by omega⟩ ⟨by omega, by omega⟩) ci_X12_gainOf qm_X12_356 ⟨Nat.le_of_ble_eq_true rfl, Nat.le_of_ble_eq_true rfl⟩ ⟨Nat.le_of_ble_eq_true rfl, Nat.le_of_ble_eq_true rfl⟩ 0 rfl rfl rfl hl.1 rfl (Nat.le_of_ble_eq_true rfl) dX12_market_53 (fun z_12 hz_12 => ?_)
                obtain ⟨ez_12, az_12⟩ := hz_12
                refine lv_aload_n hx hb dX12_market_56 rfl (lv_at hl 2 rfl) ?_
                refine lv_iload_n hx hb dX12_market_57 rfl (lv_at hl 3 rfl) ?_
                refine lv_iload_n hx hb dX12_market_58 rfl (lv_at hl 4 rfl) ?_
                refine lv_iload_n hx hb dX12_market_59 rfl (lv_at hl 1 rfl) ?_
                refine CPV (As := [.int (iZ x1), .int (iZ x2), .int (iZ v3_26)]) (rest := [.int (iZ z_12)]) hx hb hml hown hts hKK hP (m_gain l D k ([.ref Ma, .ref Mn, .int (iZ Mst), .long Mtp, .long Mbt, .ref Ms, .ref My, .ref Mt, .ref Mp, .ref Mx, .int (iZ Mtd), .int (iZ Msz), .int (iZ Mtk), .int (iZ Mfr), .int (iZ Men), .int (iZ Mva), .int (iZ Mfk), .int (iZ Mfp), .int (iZ Mfs), .int (iZ Mse), .int (iZ Mlt), .ref Mo, .int (iZ Mdp), .int (iZ Mct), .ref Mk, .ref Ml, .ref Mb, .ref Mh, .ref Mc, .int (iZ Mdr), .int (iZ Mrs), .ref Mz, .ref Mr, .ref Mq, .int (iZ Mit), .int (iZ Mmk)]) hm Ma Af x1 x2 v3_26 rfl hM ⟨by omega, by omega⟩ ⟨by omega, by omega⟩ ⟨by omega, by omega⟩) ci_X12_gainOf qm_X12_356 ⟨Nat.le_of_ble_eq_true rfl, Nat.le_of_ble_eq_true rfl⟩ ⟨Nat.le_of_ble_eq_true rfl, Nat.le_of_ble_eq_true rfl⟩ 0 rfl rfl rfl hl.1 rfl (Nat.le_of_ble_eq_true rfl) dX12_market_60 (fun z_13 hz_13 => ?_)
                obtain ⟨ez_13, az_13⟩ := hz_13
                refine lv_icmp_le (tgt := 69) hx hb dX12_market_63 rfl (fun c_14 => ?_) (fun c_14 => ?_)
                ·
                  have c_14 := (zle (x := iZ z_12) (y := iZ z_13) rfl rfl ⟨by omega, by omega⟩ ⟨by omega, by omega⟩).mp c_14
                  refine lv_iinc (v := iZ (v4_26 + 1)) (lv' := [(4, .int (iZ (v4_26 + 1))), (3, .int (iZ v3_26)), (0, .ref hm), (1, .int (iZ x1)), (2, .int (iZ x2))]) hx hb dX12_market_69 hl (k := 0) rfl (iZ_add v4_26 1) (by decide) rfl (fun ls hl => ?_)
                  refine lv_goto (tgt := 26) hx hb dX12_market_72 rfl ?_
                  exact ih26  v3_26 (v4_26 + 1) _ _ _ (by omega) (show (0 ≤ (v4_26 + 1) ∧ (v4_26 + 1) ≤ (gz Af 0) + 1) from ⟨by omega, by omega⟩) (show -1 ≤ v3_26 ∧ v3_26 < gz Af 0 from (by omega)) (show isFB (fun j => -gnF (sh Af 10) x1 x2 j) x1 (v4_26 + 1) v3_26 from (by first | exact isFB_1 hfb (by omega) | exact isFB_3 hfb (by omega) (by omega))) (show (v4_26 + 1) ≤ gz Af 0 from (by omega)) (hP.sub [0, 1] rfl) (hD.sub [0, 1] rfl rfl) hS (lv_sub hl [0, 1, 2, 3, 4] rfl)
                ·
                  have c_14 := mt (zle (x := iZ z_12) (y := iZ z_13) rfl rfl ⟨by omega, by omega⟩ ⟨by omega, by omega⟩).mpr c_14
                  refine lv_iload hx hb dX12_market_66 (lv_at hl 0 rfl) ?_
                  refine lv_istore_n (lv' := [(3, .int (iZ v4_26)), (4, .int (iZ v4_26)), (0, .ref hm), (1, .int (iZ x1)), (2, .int (iZ x2))]) hx hb dX12_market_68 rfl hl (bl rfl) rfl (fun ls hl => ?_)
                  refine lv_iinc (v := iZ (v4_26 + 1)) (lv' := [(4, .int (iZ (v4_26 + 1))), (3, .int (iZ v4_26)), (0, .ref hm), (1, .int (iZ x1)), (2, .int (iZ x2))]) hx hb dX12_market_69 hl (k := 1) rfl (iZ_add v4_26 1) (by decide) rfl (fun ls hl => ?_)
                  refine lv_goto (tgt := 26) hx hb dX12_market_72 rfl ?_
                  exact ih26  v4_26 (v4_26 + 1) _ _ _ (by omega) (show (0 ≤ (v4_26 + 1) ∧ (v4_26 + 1) ≤ (gz Af 0) + 1) from ⟨by omega, by omega⟩) (show -1 ≤ v4_26 ∧ v4_26 < gz Af 0 from (by omega)) (show isFB (fun j => -gnF (sh Af 10) x1 x2 j) x1 (v4_26 + 1) v4_26 from (isFB_2 hfb (by omega) (by omega) (by omega))) (show (v4_26 + 1) ≤ gz Af 0 from (by omega)) (hP.sub [0, 1] rfl) (hD.sub [0, 1] rfl rfl) hS (lv_sub hl [0, 1, 2, 3, 4] rfl)
      exact HL26 9 (-1) 0 _ _ _ (by omega) (show (0 ≤ 0 ∧ 0 ≤ (gz Af 0) + 1) from ⟨by omega, by omega⟩) (show -1 ≤ (-1) ∧ (-1) < gz Af 0 from (by omega)) (show isFB (fun j => -gnF (sh Af 10) x1 x2 j) x1 0 (-1) from isFB_0) (show 0 ≤ gz Af 0 from (by omega)) (hP.sub [0, 1] rfl) (hD.sub [0, 1] rfl rfl) hS (lv_sub hl [0, 1, 2, 3, 4] rfl)
    ·
      subst qz_3
      refine lv_if_ne (tgt := 21) hx hb dX12_market_12 rfl (fun c => absurd (by decide) c) (fun _ => ?_)
      refine lv_aload_n hx hb dX12_market_15 rfl (lv_at hl 0 rfl) ?_
      refine lv_iconst (v := iZ 1) hx hb dX12_market_16 rfl ?_
      refine CWV (As := [.int (iZ 1)]) (rest := []) (wc := _) (wr := [(Ma, .inl (k 1, 5340, .inl Af))]) hx hb hml hown hts hKK hP hD hS hA (m_refuse l D k hm Ma Mn Ms My Mt Mp Mx Mo Mk Ml Mb Mh Mc Mz Mr Mq Mst Mtd Msz Mtk Mfr Men Mva Mfk Mfp Mfs Mse Mlt Mdp Mct Mdr Mrs Mit Mmk Mtp Mbt 1) ci_X12_refuse qm_X12_81 ⟨Nat.le_of_ble_eq_true rfl, Nat.le_of_ble_eq_true rfl⟩ ⟨Nat.le_of_ble_eq_true rfl, Nat.le_of_ble_eq_true rfl⟩ [0] [1] rfl rfl rfl rfl rfl (dj rfl) 0 rfl rfl rfl hl.1 rfl (Nat.le_of_ble_eq_true rfl) dX12_market_17 (fun u_16 H locs hφ hP hD hS => ?_)
      refine W.eq (g2 := F0 m 20 ls [.int (iZ (-1))]) rfl ?_
      exact EWi hx hb hr hlocks hS (((-1), 1), 0, (), ()) rfl (show (((0 ≤ x1 ∧ x1 < (gz Af 0)) ∧ (0 ≤ x2 ∧ x2 ≤ 400)) ∧ isFB (fun j => -gnF (sh Af 10) x1 x2 j) x1 (gz Af 0) (-1)) ∨ (¬ ((0 ≤ x1 ∧ x1 < (gz Af 0)) ∧ (0 ≤ x2 ∧ x2 ≤ 400)) ∧ ((-1) : Int) = -1) from (Or.inr ⟨by omega, rfl⟩)) (hP.sub [1, 0] rfl) (hD.sub [1, 0] rfl rfl) dX12_market_20
  ·
    subst qz_1
    refine lv_if_eq (tgt := 15) hx hb dX12_market_5 rfl (fun _ => ?_) (fun c => absurd (by decide) c)
    refine lv_aload_n hx hb dX12_market_15 rfl (lv_at hl 0 rfl) ?_
    refine lv_iconst (v := iZ 1) hx hb dX12_market_16 rfl ?_
    refine CWV (As := [.int (iZ 1)]) (rest := []) (wc := _) (wr := [(Ma, .inl (k 1, 5340, .inl Af))]) hx hb hml hown hts hKK hP hD hS hA (m_refuse l D k hm Ma Mn Ms My Mt Mp Mx Mo Mk Ml Mb Mh Mc Mz Mr Mq Mst Mtd Msz Mtk Mfr Men Mva Mfk Mfp Mfs Mse Mlt Mdp Mct Mdr Mrs Mit Mmk Mtp Mbt 1) ci_X12_refuse qm_X12_81 ⟨Nat.le_of_ble_eq_true rfl, Nat.le_of_ble_eq_true rfl⟩ ⟨Nat.le_of_ble_eq_true rfl, Nat.le_of_ble_eq_true rfl⟩ [0] [1] rfl rfl rfl rfl rfl (dj rfl) 0 rfl rfl rfl hl.1 rfl (Nat.le_of_ble_eq_true rfl) dX12_market_17 (fun u_18 H locs hφ hP hD hS => ?_)
    refine W.eq (g2 := F0 m 20 ls [.int (iZ (-1))]) rfl ?_
    exact EWi hx hb hr hlocks hS (((-1), 1), 0, (), ()) rfl (show (((0 ≤ x1 ∧ x1 < (gz Af 0)) ∧ (0 ≤ x2 ∧ x2 ≤ 400)) ∧ isFB (fun j => -gnF (sh Af 10) x1 x2 j) x1 (gz Af 0) (-1)) ∨ (¬ ((0 ≤ x1 ∧ x1 < (gz Af 0)) ∧ (0 ≤ x2 ∧ x2 ≤ 400)) ∧ ((-1) : Int) = -1) from (Or.inr ⟨by omega, rfl⟩)) (hP.sub [1, 0] rfl) (hD.sub [1, 0] rfl rfl) dX12_market_20
end
