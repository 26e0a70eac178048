theorem qc_X12_lightOf : Cond.code yX12_lightOf cX12_lightOf 8 (some .int) ∈ gw := tbt (tb7 (List.mem_of_getElem? (i := 124) rfl)) rfl
theorem qi_yX12_lightOf : Cond.instanceMethod yX12_lightOf ∈ gw := tbt (tb7 (List.mem_of_getElem? (i := 123) rfl)) rfl
theorem qs_X12_lightOf : Cond.selects (yX12_lightOf).cls yX12_lightOf yX12_lightOf ∈ gw := tb0 (List.mem_of_getElem? (i := 67) rfl) rfl
theorem ci_X12_lightOf : CIv yX12_lightOf cX12_lightOf 8 (some .int) 4 := ⟨qc_X12_lightOf, qi_yX12_lightOf, qs_X12_lightOf, qz_X12, by decide +kernel⟩
theorem qm_X12_261 : Cond.methodLink RX12 261 yX12_lightOf ∈ gw := tbt (tb7 (List.mem_of_getElem? (i := 121) rfl)) rfl
theorem qk_X12_88 : Cond.constant RX12 88 (1000000) ∈ gw := tbt (tb7 (List.mem_of_getElem? (i := 156) rfl)) rfl
theorem qc_X12_isIced : Cond.code yX12_isIced cX12_isIced 7 (some .boolean) ∈ gw := tbt (tb7 (List.mem_of_getElem? (i := 143) rfl)) rfl
theorem qi_yX12_isIced : Cond.instanceMethod yX12_isIced ∈ gw := tbt (tb7 (List.mem_of_getElem? (i := 142) rfl)) rfl
theorem qs_X12_isIced : Cond.selects (yX12_isIced).cls yX12_isIced yX12_isIced ∈ gw := tb0 (List.mem_of_getElem? (i := 69) rfl) rfl
theorem ci_X12_isIced : CIv yX12_isIced cX12_isIced 7 (some .boolean) 3 := ⟨qc_X12_isIced, qi_yX12_isIced, qs_X12_isIced, qz_X12, by decide +kernel⟩
theorem qm_X12_271 : Cond.methodLink RX12 271 yX12_isIced ∈ gw := tbt (tb7 (List.mem_of_getElem? (i := 140) rfl)) rfl
theorem qc_X12_comes : Cond.code yX12_comes cX12_comes 6 (some .int) ∈ gw := tbt (tb7 (List.mem_of_getElem? (i := 160) rfl)) rfl
theorem qi_yX12_comes : Cond.instanceMethod yX12_comes ∈ gw := tbt (tb7 (List.mem_of_getElem? (i := 159) rfl)) rfl
theorem qs_X12_comes : Cond.selects (yX12_comes).cls yX12_comes yX12_comes ∈ gw := tb0 (List.mem_of_getElem? (i := 72) rfl) rfl
theorem ci_X12_comes : CIv yX12_comes cX12_comes 6 (some .int) 4 := ⟨qc_X12_comes, qi_yX12_comes, qs_X12_comes, qz_X12, by decide +kernel⟩
theorem qm_X12_274 : Cond.methodLink RX12 274 yX12_comes ∈ gw := tbt (tb7 (List.mem_of_getElem? (i := 157) rfl)) rfl
theorem qc_X12_arrival : Cond.code yX12_arrival cX12_arrival 4 (some .int) ∈ gw := tbt (tb7 (List.mem_of_getElem? (i := 155) rfl)) rfl
theorem qi_yX12_arrival : Cond.instanceMethod yX12_arrival ∈ gw := tbt (tb7 (List.mem_of_getElem? (i := 154) rfl)) rfl
theorem qs_X12_arrival : Cond.selects (yX12_arrival).cls yX12_arrival yX12_arrival ∈ gw := tb0 (List.mem_of_getElem? (i := 71) rfl) rfl
theorem ci_X12_arrival : CIv yX12_arrival cX12_arrival 4 (some .int) 3 := ⟨qc_X12_arrival, qi_yX12_arrival, qs_X12_arrival, qz_X12, by decide +kernel⟩
theorem qm_X12_280 : Cond.methodLink RX12 280 yX12_arrival ∈ gw := tbt (tb7 (List.mem_of_getElem? (i := 152) rfl)) rfl
theorem qc_X12_seenBy : Cond.code yX12_seenBy cX12_seenBy 5 (some .int) ∈ gw := tbt (tb7 (List.mem_of_getElem? (i := 176) rfl)) rfl
theorem qi_yX12_seenBy : Cond.instanceMethod yX12_seenBy ∈ gw := tbt (tb7 (List.mem_of_getElem? (i := 175) rfl)) rfl
theorem qs_X12_seenBy : Cond.selects (yX12_seenBy).cls yX12_seenBy yX12_seenBy ∈ gw := tb0 (List.mem_of_getElem? (i := 74) rfl) rfl
theorem ci_X12_seenBy : CIv yX12_seenBy cX12_seenBy 5 (some .int) 3 := ⟨qc_X12_seenBy, qi_yX12_seenBy, qs_X12_seenBy, qz_X12, by decide +kernel⟩
theorem qm_X12_287 : Cond.methodLink RX12 287 yX12_seenBy ∈ gw := tbt (tb7 (List.mem_of_getElem? (i := 173) rfl)) rfl
def fb_X12_arrival_0 : List UInt8 := [0x1b, 0x1d, 0xa0, 0x00, 0x05, 0x1c, 0xac, 0x1c, 0x11, 0x01, 0x90, 0xa3, 0x00, 0x0d, 0x2a, 0x1b, 0x1d, 0x1c, 0xb6, 0x01, 0x0f, 0x99, 0x00, 0x08, 0x12, 0x58, 0xa7, 0x00, 0x0b, 0x2a, 0x1b, 0x1c, 0x1d, 0x04, 0xb6, 0x01, 0x12, 0xac]
theorem fl_X12_arrival_0 {p j : Nat} {b : UInt8} (e : p = 0 + j) (h : fb_X12_arrival_0[j]? = some b) : cX12_arrival.data.toList[p]? = some b := fq_l (n := 64) (show (cX12_arrival.data.toList.drop 0).take 64 = fb_X12_arrival_0 by decide +kernel) e h
theorem dX12_arrival_0 : decode cX12_arrival 0 = .ok (.iload_n 1, 1) := fq1_27 (fl_X12_arrival_0 (j := 0) rfl rfl)
theorem dX12_arrival_1 : decode cX12_arrival 1 = .ok (.iload_n 3, 1) := fq1_29 (fl_X12_arrival_0 (j := 1) rfl rfl)
theorem dX12_arrival_2 : decode cX12_arrival 2 = .ok (.if_icmp .ne 5, 3) := fq3_160 (fl_X12_arrival_0 (j := 2) rfl rfl) (fl_X12_arrival_0 (j := 3) rfl rfl) (fl_X12_arrival_0 (j := 4) rfl rfl) (s2p rfl (bl rfl))
theorem dX12_arrival_5 : decode cX12_arrival 5 = .ok (.iload_n 2, 1) := fq1_28 (fl_X12_arrival_0 (j := 5) rfl rfl)
theorem dX12_arrival_6 : decode cX12_arrival 6 = .ok (.ireturn, 1) := fq1_172 (fl_X12_arrival_0 (j := 6) rfl rfl)
theorem dX12_arrival_7 : decode cX12_arrival 7 = .ok (.iload_n 2, 1) := fq1_28 (fl_X12_arrival_0 (j := 7) rfl rfl)
theorem dX12_arrival_8 : decode cX12_arrival 8 = .ok (.sipush 400, 3) := fq3_17 (fl_X12_arrival_0 (j := 8) rfl rfl) (fl_X12_arrival_0 (j := 9) rfl rfl) (fl_X12_arrival_0 (j := 10) rfl rfl) (s2p rfl (bl rfl))
theorem dX12_arrival_11 : decode cX12_arrival 11 = .ok (.if_icmp .gt 13, 3) := fq3_163 (fl_X12_arrival_0 (j := 11) rfl rfl) (fl_X12_arrival_0 (j := 12) rfl rfl) (fl_X12_arrival_0 (j := 13) rfl rfl) (s2p rfl (bl rfl))
theorem dX12_arrival_14 : decode cX12_arrival 14 = .ok (.aload_n 0, 1) := fq1_42 (fl_X12_arrival_0 (j := 14) rfl rfl)
theorem dX12_arrival_15 : decode cX12_arrival 15 = .ok (.iload_n 1, 1) := fq1_27 (fl_X12_arrival_0 (j := 15) rfl rfl)
theorem dX12_arrival_16 : decode cX12_arrival 16 = .ok (.iload_n 3, 1) := fq1_29 (fl_X12_arrival_0 (j := 16) rfl rfl)
theorem dX12_arrival_17 : decode cX12_arrival 17 = .ok (.iload_n 2, 1) := fq1_28 (fl_X12_arrival_0 (j := 17) rfl rfl)
theorem dX12_arrival_18 : decode cX12_arrival 18 = .ok (.invokevirtual 271, 3) := fq3_182 (fl_X12_arrival_0 (j := 18) rfl rfl) (fl_X12_arrival_0 (j := 19) rfl rfl) (fl_X12_arrival_0 (j := 20) rfl rfl) rfl
theorem dX12_arrival_21 : decode cX12_arrival 21 = .ok (.ifCond .eq 8, 3) := fq3_153 (fl_X12_arrival_0 (j := 21) rfl rfl) (fl_X12_arrival_0 (j := 22) rfl rfl) (fl_X12_arrival_0 (j := 23) rfl rfl) (s2p rfl (bl rfl))
theorem dX12_arrival_24 : decode cX12_arrival 24 = .ok (.ldc 88, 2) := fq2_18 (fl_X12_arrival_0 (j := 24) rfl rfl) (fl_X12_arrival_0 (j := 25) rfl rfl) rfl
theorem dX12_arrival_26 : decode cX12_arrival 26 = .ok (.goto 11, 3) := fq3_167 (fl_X12_arrival_0 (j := 26) rfl rfl) (fl_X12_arrival_0 (j := 27) rfl rfl) (fl_X12_arrival_0 (j := 28) rfl rfl) (s2p rfl (bl rfl))
theorem dX12_arrival_29 : decode cX12_arrival 29 = .ok (.aload_n 0, 1) := fq1_42 (fl_X12_arrival_0 (j := 29) rfl rfl)
theorem dX12_arrival_30 : decode cX12_arrival 30 = .ok (.iload_n 1, 1) := fq1_27 (fl_X12_arrival_0 (j := 30) rfl rfl)
theorem dX12_arrival_31 : decode cX12_arrival 31 = .ok (.iload_n 2, 1) := fq1_28 (fl_X12_arrival_0 (j := 31) rfl rfl)
theorem dX12_arrival_32 : decode cX12_arrival 32 = .ok (.iload_n 3, 1) := fq1_29 (fl_X12_arrival_0 (j := 32) rfl rfl)
theorem dX12_arrival_33 : decode cX12_arrival 33 = .ok (.iconst 1, 1) := fq1_4 (fl_X12_arrival_0 (j := 33) rfl rfl)
theorem dX12_arrival_34 : decode cX12_arrival 34 = .ok (.invokevirtual 274, 3) := fq3_182 (fl_X12_arrival_0 (j := 34) rfl rfl) (fl_X12_arrival_0 (j := 35) rfl rfl) (fl_X12_arrival_0 (j := 36) rfl rfl) rfl
theorem dX12_arrival_37 : decode cX12_arrival 37 = .ok (.ireturn, 1) := fq1_172 (fl_X12_arrival_0 (j := 37) rfl rfl)
def fb_X12_comes_0 : List UInt8 := [0x1c, 0x36, 0x05, 0x15, 0x04, 0x2a, 0x1b, 0x1c, 0x1d, 0x15, 0x05, 0xb6, 0x01, 0x05, 0x68, 0x15, 0x05, 0x1c, 0x64, 0xa4, 0x00, 0x09, 0x84, 0x05, 0x01, 0xa7, 0xff, 0xea, 0x15, 0x05, 0xac]
theorem fl_X12_comes_0 {p j : Nat} {b : UInt8} (e : p = 0 + j) (h : fb_X12_comes_0[j]? = some b) : cX12_comes.data.toList[p]? = some b := fq_l (n := 64) (show (cX12_comes.data.toList.drop 0).take 64 = fb_X12_comes_0 by decide +kernel) e h
theorem dX12_comes_0 : decode cX12_comes 0 = .ok (.iload_n 2, 1) := fq1_28 (fl_X12_comes_0 (j := 0) rfl rfl)
theorem dX12_comes_1 : decode cX12_comes 1 = .ok (.istore 5, 2) := fq2_54 (fl_X12_comes_0 (j := 1) rfl rfl) (fl_X12_comes_0 (j := 2) rfl rfl) rfl
theorem dX12_comes_3 : decode cX12_comes 3 = .ok (.iload 4, 2) := fq2_21 (fl_X12_comes_0 (j := 3) rfl rfl) (fl_X12_comes_0 (j := 4) rfl rfl) rfl
theorem dX12_comes_5 : decode cX12_comes 5 = .ok (.aload_n 0, 1) := fq1_42 (fl_X12_comes_0 (j := 5) rfl rfl)
theorem dX12_comes_6 : decode cX12_comes 6 = .ok (.iload_n 1, 1) := fq1_27 (fl_X12_comes_0 (j := 6) rfl rfl)
theorem dX12_comes_7 : decode cX12_comes 7 = .ok (.iload_n 2, 1) := fq1_28 (fl_X12_comes_0 (j := 7) rfl rfl)
theorem dX12_comes_8 : decode cX12_comes 8 = .ok (.iload_n 3, 1) := fq1_29 (fl_X12_comes_0 (j := 8) rfl rfl)
theorem dX12_comes_9 : decode cX12_comes 9 = .ok (.iload 5, 2) := fq2_21 (fl_X12_comes_0 (j := 9) rfl rfl) (fl_X12_comes_0 (j := 10) rfl rfl) rfl
theorem dX12_comes_11 : decode cX12_comes 11 = .ok (.invokevirtual 261, 3) := fq3_182 (fl_X12_comes_0 (j := 11) rfl rfl) (fl_X12_comes_0 (j := 12) rfl rfl) (fl_X12_comes_0 (j := 13) rfl rfl) rfl
theorem dX12_comes_14 : decode cX12_comes 14 = .ok (.imul, 1) := fq1_104 (fl_X12_comes_0 (j := 14) rfl rfl)
theorem dX12_comes_15 : decode cX12_comes 15 = .ok (.iload 5, 2) := fq2_21 (fl_X12_comes_0 (j := 15) rfl rfl) (fl_X12_comes_0 (j := 16) rfl rfl) rfl
theorem dX12_comes_17 : decode cX12_comes 17 = .ok (.iload_n 2, 1) := fq1_28 (fl_X12_comes_0 (j := 17) rfl rfl)
theorem dX12_comes_18 : decode cX12_comes 18 = .ok (.isub, 1) := fq1_100 (fl_X12_comes_0 (j := 18) rfl rfl)
theorem dX12_comes_19 : decode cX12_comes 19 = .ok (.if_icmp .le 9, 3) := fq3_164 (fl_X12_comes_0 (j := 19) rfl rfl) (fl_X12_comes_0 (j := 20) rfl rfl) (fl_X12_comes_0 (j := 21) rfl rfl) (s2p rfl (bl rfl))
theorem dX12_comes_22 : decode cX12_comes 22 = .ok (.iinc 5 1, 3) := fq3_132 (fl_X12_comes_0 (j := 22) rfl rfl) (fl_X12_comes_0 (j := 23) rfl rfl) (fl_X12_comes_0 (j := 24) rfl rfl) rfl (s1p rfl (bl rfl))
theorem dX12_comes_25 : decode cX12_comes 25 = .ok (.goto (-22), 3) := fq3_167 (fl_X12_comes_0 (j := 25) rfl rfl) (fl_X12_comes_0 (j := 26) rfl rfl) (fl_X12_comes_0 (j := 27) rfl rfl) (by decide)
theorem dX12_comes_28 : decode cX12_comes 28 = .ok (.iload 5, 2) := fq2_21 (fl_X12_comes_0 (j := 28) rfl rfl) (fl_X12_comes_0 (j := 29) rfl rfl) rfl
theorem dX12_comes_30 : decode cX12_comes 30 = .ok (.ireturn, 1) := fq1_172 (fl_X12_comes_0 (j := 30) rfl rfl)
def fb_X12_echoOf_0 : List UInt8 := [0x2a, 0x1b, 0x1c, 0x1d, 0xb6, 0x01, 0x18, 0x36, 0x04, 0x15, 0x04, 0x12, 0x58, 0xa0, 0x00, 0x08, 0x12, 0x58, 0xa7, 0x00, 0x0b, 0x2a, 0x1d, 0x15, 0x04, 0x1b, 0xb6, 0x01, 0x18, 0xac]
theorem fl_X12_echoOf_0 {p j : Nat} {b : UInt8} (e : p = 0 + j) (h : fb_X12_echoOf_0[j]? = some b) : cX12_echoOf.data.toList[p]? = some b := fq_l (n := 64) (show (cX12_echoOf.data.toList.drop 0).take 64 = fb_X12_echoOf_0 by decide +kernel) e h
theorem dX12_echoOf_0 : decode cX12_echoOf 0 = .ok (.aload_n 0, 1) := fq1_42 (fl_X12_echoOf_0 (j := 0) rfl rfl)
theorem dX12_echoOf_1 : decode cX12_echoOf 1 = .ok (.iload_n 1, 1) := fq1_27 (fl_X12_echoOf_0 (j := 1) rfl rfl)
theorem dX12_echoOf_2 : decode cX12_echoOf 2 = .ok (.iload_n 2, 1) := fq1_28 (fl_X12_echoOf_0 (j := 2) rfl rfl)
theorem dX12_echoOf_3 : decode cX12_echoOf 3 = .ok (.iload_n 3, 1) := fq1_29 (fl_X12_echoOf_0 (j := 3) rfl rfl)
theorem dX12_echoOf_4 : decode cX12_echoOf 4 = .ok (.invokevirtual 280, 3) := fq3_182 (fl_X12_echoOf_0 (j := 4) rfl rfl) (fl_X12_echoOf_0 (j := 5) rfl rfl) (fl_X12_echoOf_0 (j := 6) rfl rfl) rfl
theorem dX12_echoOf_7 : decode cX12_echoOf 7 = .ok (.istore 4, 2) := fq2_54 (fl_X12_echoOf_0 (j := 7) rfl rfl) (fl_X12_echoOf_0 (j := 8) rfl rfl) rfl
theorem dX12_echoOf_9 : decode cX12_echoOf 9 = .ok (.iload 4, 2) := fq2_21 (fl_X12_echoOf_0 (j := 9) rfl rfl) (fl_X12_echoOf_0 (j := 10) rfl rfl) rfl
theorem dX12_echoOf_11 : decode cX12_echoOf 11 = .ok (.ldc 88, 2) := fq2_18 (fl_X12_echoOf_0 (j := 11) rfl rfl) (fl_X12_echoOf_0 (j := 12) rfl rfl) rfl
theorem dX12_echoOf_13 : decode cX12_echoOf 13 = .ok (.if_icmp .ne 8, 3) := fq3_160 (fl_X12_echoOf_0 (j := 13) rfl rfl) (fl_X12_echoOf_0 (j := 14) rfl rfl) (fl_X12_echoOf_0 (j := 15) rfl rfl) (s2p rfl (bl rfl))
theorem dX12_echoOf_16 : decode cX12_echoOf 16 = .ok (.ldc 88, 2) := fq2_18 (fl_X12_echoOf_0 (j := 16) rfl rfl) (fl_X12_echoOf_0 (j := 17) rfl rfl) rfl
theorem dX12_echoOf_18 : decode cX12_echoOf 18 = .ok (.goto 11, 3) := fq3_167 (fl_X12_echoOf_0 (j := 18) rfl rfl) (fl_X12_echoOf_0 (j := 19) rfl rfl) (fl_X12_echoOf_0 (j := 20) rfl rfl) (s2p rfl (bl rfl))
theorem dX12_echoOf_21 : decode cX12_echoOf 21 = .ok (.aload_n 0, 1) := fq1_42 (fl_X12_echoOf_0 (j := 21) rfl rfl)
theorem dX12_echoOf_22 : decode cX12_echoOf 22 = .ok (.iload_n 3, 1) := fq1_29 (fl_X12_echoOf_0 (j := 22) rfl rfl)
theorem dX12_echoOf_23 : decode cX12_echoOf 23 = .ok (.iload 4, 2) := fq2_21 (fl_X12_echoOf_0 (j := 23) rfl rfl) (fl_X12_echoOf_0 (j := 24) rfl rfl) rfl
theorem dX12_echoOf_25 : decode cX12_echoOf 25 = .ok (.iload_n 1, 1) := fq1_27 (fl_X12_echoOf_0 (j := 25) rfl rfl)
theorem dX12_echoOf_26 : decode cX12_echoOf 26 = .ok (.invokevirtual 280, 3) := fq3_182 (fl_X12_echoOf_0 (j := 26) rfl rfl) (fl_X12_echoOf_0 (j := 27) rfl rfl) (fl_X12_echoOf_0 (j := 28) rfl rfl) rfl
theorem dX12_echoOf_29 : decode cX12_echoOf 29 = .ok (.ireturn, 1) := fq1_172 (fl_X12_echoOf_0 (j := 29) rfl rfl)
def fb_X12_seenBy_0 : List UInt8 := [0x1d, 0x36, 0x04, 0x15, 0x04, 0x9b, 0x00, 0x15, 0x2a, 0x1c, 0x15, 0x04, 0x1b, 0xb6, 0x01, 0x18, 0x1d, 0xa4, 0x00, 0x09, 0x84, 0x04, 0xff, 0xa7, 0xff, 0xec, 0x15, 0x04, 0xac]
theorem fl_X12_seenBy_0 {p j : Nat} {b : UInt8} (e : p = 0 + j) (h : fb_X12_seenBy_0[j]? = some b) : cX12_seenBy.data.toList[p]? = some b := fq_l (n := 64) (show (cX12_seenBy.data.toList.drop 0).take 64 = fb_X12_seenBy_0 by decide +kernel) e h
theorem dX12_seenBy_0 : decode cX12_seenBy 0 = .ok (.iload_n 3, 1) := fq1_29 (fl_X12_seenBy_0 (j := 0) rfl rfl)
theorem dX12_seenBy_1 : decode cX12_seenBy 1 = .ok (.istore 4, 2) := fq2_54 (fl_X12_seenBy_0 (j := 1) rfl rfl) (fl_X12_seenBy_0 (j := 2) rfl rfl) rfl
theorem dX12_seenBy_3 : decode cX12_seenBy 3 = .ok (.iload 4, 2) := fq2_21 (fl_X12_seenBy_0 (j := 3) rfl rfl) (fl_X12_seenBy_0 (j := 4) rfl rfl) rfl
theorem dX12_seenBy_5 : decode cX12_seenBy 5 = .ok (.ifCond .lt 21, 3) := fq3_155 (fl_X12_seenBy_0 (j := 5) rfl rfl) (fl_X12_seenBy_0 (j := 6) rfl rfl) (fl_X12_seenBy_0 (j := 7) rfl rfl) (s2p rfl (bl rfl))
theorem dX12_seenBy_8 : decode cX12_seenBy 8 = .ok (.aload_n 0, 1) := fq1_42 (fl_X12_seenBy_0 (j := 8) rfl rfl)
theorem dX12_seenBy_9 : decode cX12_seenBy 9 = .ok (.iload_n 2, 1) := fq1_28 (fl_X12_seenBy_0 (j := 9) rfl rfl)
theorem dX12_seenBy_10 : decode cX12_seenBy 10 = .ok (.iload 4, 2) := fq2_21 (fl_X12_seenBy_0 (j := 10) rfl rfl) (fl_X12_seenBy_0 (j := 11) rfl rfl) rfl
theorem dX12_seenBy_12 : decode cX12_seenBy 12 = .ok (.iload_n 1, 1) := fq1_27 (fl_X12_seenBy_0 (j := 12) rfl rfl)
theorem dX12_seenBy_13 : decode cX12_seenBy 13 = .ok (.invokevirtual 280, 3) := fq3_182 (fl_X12_seenBy_0 (j := 13) rfl rfl) (fl_X12_seenBy_0 (j := 14) rfl rfl) (fl_X12_seenBy_0 (j := 15) rfl rfl) rfl
theorem dX12_seenBy_16 : decode cX12_seenBy 16 = .ok (.iload_n 3, 1) := fq1_29 (fl_X12_seenBy_0 (j := 16) rfl rfl)
theorem dX12_seenBy_17 : decode cX12_seenBy 17 = .ok (.if_icmp .le 9, 3) := fq3_164 (fl_X12_seenBy_0 (j := 17) rfl rfl) (fl_X12_seenBy_0 (j := 18) rfl rfl) (fl_X12_seenBy_0 (j := 19) rfl rfl) (s2p rfl (bl rfl))
theorem dX12_seenBy_20 : decode cX12_seenBy 20 = .ok (.iinc 4 (-1), 3) := fq3_132 (fl_X12_seenBy_0 (j := 20) rfl rfl) (fl_X12_seenBy_0 (j := 21) rfl rfl) (fl_X12_seenBy_0 (j := 22) rfl rfl) rfl (by decide)
theorem dX12_seenBy_23 : decode cX12_seenBy 23 = .ok (.goto (-20), 3) := fq3_167 (fl_X12_seenBy_0 (j := 23) rfl rfl) (fl_X12_seenBy_0 (j := 24) rfl rfl) (fl_X12_seenBy_0 (j := 25) rfl rfl) (by decide)
theorem dX12_seenBy_26 : decode cX12_seenBy 26 = .ok (.iload 4, 2) := fq2_21 (fl_X12_seenBy_0 (j := 26) rfl rfl) (fl_X12_seenBy_0 (j := 27) rfl rfl) rfl
theorem dX12_seenBy_28 : decode cX12_seenBy 28 = .ok (.ireturn, 1) := fq1_172 (fl_X12_seenBy_0 (j := 28) rfl rfl)