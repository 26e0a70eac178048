theorem qf_X12_7 : Cond.fieldLink RX12 7 "SlowWorldsModel" "at" "[I" ∈ gw := tbt (tb6 (List.mem_of_getElem? (i := 44) rfl)) rfl
theorem iX12 : ∀ w ∈ u_ws RX12 TX12 36, w ∈ gw := by
  intro w hw
  obtain ⟨k, hk, rfl⟩ := List.mem_map.mp hw
  have hk := List.mem_range.mp hk
  match k, hk with
  | 0, _ => exact tbt (tb6 (List.mem_of_getElem? (i := 80) rfl)) rfl
  | 1, _ => exact tbt (tb6 (List.mem_of_getElem? (i := 82) rfl)) rfl
  | 2, _ => exact tbt (tb6 (List.mem_of_getElem? (i := 84) rfl)) rfl
  | 3, _ => exact tbt (tb6 (List.mem_of_getElem? (i := 86) rfl)) rfl
  | 4, _ => exact tbt (tb6 (List.mem_of_getElem? (i := 88) rfl)) rfl
  | 5, _ => exact tbt (tb6 (List.mem_of_getElem? (i := 90) rfl)) rfl
  | 6, _ => exact tbt (tb6 (List.mem_of_getElem? (i := 92) rfl)) rfl
  | 7, _ => exact tbt (tb6 (List.mem_of_getElem? (i := 94) rfl)) rfl
  | 8, _ => exact tbt (tb6 (List.mem_of_getElem? (i := 96) rfl)) rfl
  | 9, _ => exact tbt (tb6 (List.mem_of_getElem? (i := 98) rfl)) rfl
  | 10, _ => exact tbt (tb6 (List.mem_of_getElem? (i := 100) rfl)) rfl
  | 11, _ => exact tbt (tb6 (List.mem_of_getElem? (i := 102) rfl)) rfl
  | 12, _ => exact tbt (tb6 (List.mem_of_getElem? (i := 104) rfl)) rfl
  | 13, _ => exact tbt (tb6 (List.mem_of_getElem? (i := 106) rfl)) rfl
  | 14, _ => exact tbt (tb6 (List.mem_of_getElem? (i := 108) rfl)) rfl
  | 15, _ => exact tbt (tb6 (List.mem_of_getElem? (i := 110) rfl)) rfl
  | 16, _ => exact tbt (tb6 (List.mem_of_getElem? (i := 112) rfl)) rfl
  | 17, _ => exact tbt (tb6 (List.mem_of_getElem? (i := 114) rfl)) rfl
  | 18, _ => exact tbt (tb6 (List.mem_of_getElem? (i := 116) rfl)) rfl
  | 19, _ => exact tbt (tb6 (List.mem_of_getElem? (i := 118) rfl)) rfl
  | 20, _ => exact tbt (tb6 (List.mem_of_getElem? (i := 120) rfl)) rfl
  | 21, _ => exact tbt (tb6 (List.mem_of_getElem? (i := 122) rfl)) rfl
  | 22, _ => exact tbt (tb6 (List.mem_of_getElem? (i := 124) rfl)) rfl
  | 23, _ => exact tbt (tb6 (List.mem_of_getElem? (i := 126) rfl)) rfl
  | 24, _ => exact tbt (tb6 (List.mem_of_getElem? (i := 128) rfl)) rfl
  | 25, _ => exact tbt (tb6 (List.mem_of_getElem? (i := 130) rfl)) rfl
  | 26, _ => exact tbt (tb6 (List.mem_of_getElem? (i := 132) rfl)) rfl
  | 27, _ => exact tbt (tb6 (List.mem_of_getElem? (i := 134) rfl)) rfl
  | 28, _ => exact tbt (tb6 (List.mem_of_getElem? (i := 136) rfl)) rfl
  | 29, _ => exact tbt (tb6 (List.mem_of_getElem? (i := 138) rfl)) rfl
  | 30, _ => exact tbt (tb6 (List.mem_of_getElem? (i := 140) rfl)) rfl
  | 31, _ => exact tbt (tb6 (List.mem_of_getElem? (i := 142) rfl)) rfl
  | 32, _ => exact tbt (tb6 (List.mem_of_getElem? (i := 144) rfl)) rfl
  | 33, _ => exact tbt (tb6 (List.mem_of_getElem? (i := 146) rfl)) rfl
  | 34, _ => exact tbt (tb6 (List.mem_of_getElem? (i := 148) rfl)) rfl
  | 35, _ => exact tbt (tb6 (List.mem_of_getElem? (i := 150) rfl)) rfl
  | (k + 36), hk => exact absurd hk (by omega)
theorem qc_X12_isRock : Cond.code yX12_isRock cX12_isRock 2 (some .boolean) ∈ gw := tbt (tb7 (List.mem_of_getElem? (i := 98) rfl)) rfl
theorem qi_yX12_isRock : Cond.instanceMethod yX12_isRock ∈ gw := tbt (tb7 (List.mem_of_getElem? (i := 97) rfl)) rfl
theorem qs_X12_isRock : Cond.selects (yX12_isRock).cls yX12_isRock yX12_isRock ∈ gw := tb0 (List.mem_of_getElem? (i := 65) rfl) rfl
theorem qz_X12 : Cond.initialized RX12 ∈ gw := tbt (tb1 (List.mem_of_getElem? (i := 17) rfl)) rfl
theorem ci_X12_isRock : CIv yX12_isRock cX12_isRock 2 (some .boolean) 1 := ⟨qc_X12_isRock, qi_yX12_isRock, qs_X12_isRock, qz_X12, by decide +kernel⟩
theorem qm_X12_243 : Cond.methodLink RX12 243 yX12_isRock ∈ gw := tbt (tb7 (List.mem_of_getElem? (i := 95) rfl)) rfl
theorem qc_X12_isWeek : Cond.code yX12_isWeek cX12_isWeek 1 (some .boolean) ∈ gw := tbt (tb7 (List.mem_of_getElem? (i := 139) rfl)) rfl
theorem qt_yX12_isWeek : Cond.static yX12_isWeek ∈ gw := tbt (tb7 (List.mem_of_getElem? (i := 138) rfl)) rfl
theorem ci_X12_isWeek : CIs yX12_isWeek cX12_isWeek 1 (some .boolean) 1 := ⟨qc_X12_isWeek, qt_yX12_isWeek, qz_X12, by decide +kernel⟩
theorem qm_X12_268 : Cond.methodLink RX12 268 yX12_isWeek ∈ gw := tbt (tb7 (List.mem_of_getElem? (i := 137) rfl)) rfl
theorem qc_X12_rockRow : Cond.code yX12_rockRow cX12_rockRow 1 (some .int) ∈ gw := tbt (tb7 (List.mem_of_getElem? (i := 101) rfl)) rfl
theorem qt_yX12_rockRow : Cond.static yX12_rockRow ∈ gw := tbt (tb7 (List.mem_of_getElem? (i := 100) rfl)) rfl
theorem ci_X12_rockRow : CIs yX12_rockRow cX12_rockRow 1 (some .int) 1 := ⟨qc_X12_rockRow, qt_yX12_rockRow, qz_X12, by decide +kernel⟩
theorem qm_X12_246 : Cond.methodLink RX12 246 yX12_rockRow ∈ gw := tbt (tb7 (List.mem_of_getElem? (i := 99) rfl)) rfl
theorem qc_X12_directionOf : Cond.code yX12_directionOf cX12_directionOf 3 (some .int) ∈ gw := tbt (tb7 (List.mem_of_getElem? (i := 116) rfl)) rfl
theorem qi_yX12_directionOf : Cond.instanceMethod yX12_directionOf ∈ gw := tbt (tb7 (List.mem_of_getElem? (i := 115) rfl)) rfl
theorem qs_X12_directionOf : Cond.selects (yX12_directionOf).cls yX12_directionOf yX12_directionOf ∈ gw := tb0 (List.mem_of_getElem? (i := 66) rfl) rfl
theorem ci_X12_directionOf : CIv yX12_directionOf cX12_directionOf 3 (some .int) 2 := ⟨qc_X12_directionOf, qi_yX12_directionOf, qs_X12_directionOf, qz_X12, by decide +kernel⟩
theorem qm_X12_249 : Cond.methodLink RX12 249 yX12_directionOf ∈ gw := tbt (tb7 (List.mem_of_getElem? (i := 113) rfl)) rfl
theorem qm_X12_252 : Cond.methodLink RX12 252 yJ9_abs_0f7a4 ∈ gw := tbt (tb7 (List.mem_of_getElem? (i := 125) rfl)) rfl
theorem qt_yJ9_abs_0f7a4 : Cond.static yJ9_abs_0f7a4 ∈ gw := tbt (tb7 (List.mem_of_getElem? (i := 126) rfl)) rfl
theorem qc_J9_abs_0f7a4 : Cond.code yJ9_abs_0f7a4 cJ9_abs_0f7a4 1 (some .int) ∈ gw := tbt (tb7 (List.mem_of_getElem? (i := 127) rfl)) rfl
theorem qm_X12_137 : Cond.methodLink RX12 137 yJ9_min_7cf53 ∈ gw := tbt (tb6 (List.mem_of_getElem? (i := 231) rfl)) rfl
theorem qm_X12_255 : Cond.methodLink RX12 255 yJ9_max_7cf53 ∈ gw := tbt (tb7 (List.mem_of_getElem? (i := 128) rfl)) rfl
def fb_X12_areTwo_0 : List UInt8 := [0x2a, 0x1b, 0xb6, 0x00, 0xf3, 0x99, 0x00, 0x14, 0x2a, 0x1c, 0xb6, 0x00, 0xf3, 0x99, 0x00, 0x0c, 0x1b, 0x1c, 0x9f, 0x00, 0x07, 0x04, 0xa7, 0x00, 0x04, 0x03, 0xac]
theorem fl_X12_areTwo_0 {p j : Nat} {b : UInt8} (e : p = 0 + j) (h : fb_X12_areTwo_0[j]? = some b) : cX12_areTwo.data.toList[p]? = some b := fq_l (n := 64) (show (cX12_areTwo.data.toList.drop 0).take 64 = fb_X12_areTwo_0 by decide +kernel) e h
theorem dX12_areTwo_0 : decode cX12_areTwo 0 = .ok (.aload_n 0, 1) := fq1_42 (fl_X12_areTwo_0 (j := 0) rfl rfl)
theorem dX12_areTwo_1 : decode cX12_areTwo 1 = .ok (.iload_n 1, 1) := fq1_27 (fl_X12_areTwo_0 (j := 1) rfl rfl)
theorem dX12_areTwo_2 : decode cX12_areTwo 2 = .ok (.invokevirtual 243, 3) := fq3_182 (fl_X12_areTwo_0 (j := 2) rfl rfl) (fl_X12_areTwo_0 (j := 3) rfl rfl) (fl_X12_areTwo_0 (j := 4) rfl rfl) rfl
theorem dX12_areTwo_5 : decode cX12_areTwo 5 = .ok (.ifCond .eq 20, 3) := fq3_153 (fl_X12_areTwo_0 (j := 5) rfl rfl) (fl_X12_areTwo_0 (j := 6) rfl rfl) (fl_X12_areTwo_0 (j := 7) rfl rfl) (s2p rfl (bl rfl))
theorem dX12_areTwo_8 : decode cX12_areTwo 8 = .ok (.aload_n 0, 1) := fq1_42 (fl_X12_areTwo_0 (j := 8) rfl rfl)
theorem dX12_areTwo_9 : decode cX12_areTwo 9 = .ok (.iload_n 2, 1) := fq1_28 (fl_X12_areTwo_0 (j := 9) rfl rfl)
theorem dX12_areTwo_10 : decode cX12_areTwo 10 = .ok (.invokevirtual 243, 3) := fq3_182 (fl_X12_areTwo_0 (j := 10) rfl rfl) (fl_X12_areTwo_0 (j := 11) rfl rfl) (fl_X12_areTwo_0 (j := 12) rfl rfl) rfl
theorem dX12_areTwo_13 : decode cX12_areTwo 13 = .ok (.ifCond .eq 12, 3) := fq3_153 (fl_X12_areTwo_0 (j := 13) rfl rfl) (fl_X12_areTwo_0 (j := 14) rfl rfl) (fl_X12_areTwo_0 (j := 15) rfl rfl) (s2p rfl (bl rfl))
theorem dX12_areTwo_16 : decode cX12_areTwo 16 = .ok (.iload_n 1, 1) := fq1_27 (fl_X12_areTwo_0 (j := 16) rfl rfl)
theorem dX12_areTwo_17 : decode cX12_areTwo 17 = .ok (.iload_n 2, 1) := fq1_28 (fl_X12_areTwo_0 (j := 17) rfl rfl)
theorem dX12_areTwo_18 : decode cX12_areTwo 18 = .ok (.if_icmp .eq 7, 3) := fq3_159 (fl_X12_areTwo_0 (j := 18) rfl rfl) (fl_X12_areTwo_0 (j := 19) rfl rfl) (fl_X12_areTwo_0 (j := 20) rfl rfl) (s2p rfl (bl rfl))
theorem dX12_areTwo_21 : decode cX12_areTwo 21 = .ok (.iconst 1, 1) := fq1_4 (fl_X12_areTwo_0 (j := 21) rfl rfl)
theorem dX12_areTwo_22 : decode cX12_areTwo 22 = .ok (.goto 4, 3) := fq3_167 (fl_X12_areTwo_0 (j := 22) rfl rfl) (fl_X12_areTwo_0 (j := 23) rfl rfl) (fl_X12_areTwo_0 (j := 24) rfl rfl) (s2p rfl (bl rfl))
theorem dX12_areTwo_25 : decode cX12_areTwo 25 = .ok (.iconst 0, 1) := fq1_3 (fl_X12_areTwo_0 (j := 25) rfl rfl)
theorem dX12_areTwo_26 : decode cX12_areTwo 26 = .ok (.ireturn, 1) := fq1_172 (fl_X12_areTwo_0 (j := 26) rfl rfl)
def fb_X12_directionOf_0 : List UInt8 := [0x2a, 0xb4, 0x00, 0x07, 0x1b, 0xb8, 0x00, 0xf6, 0x05, 0x60, 0x2e, 0x10, 0x0c, 0x1c, 0x68, 0x2a, 0xb4, 0x00, 0x07, 0x1b, 0xb8, 0x00, 0xf6, 0x04, 0x60, 0x2e, 0x6c, 0x60, 0x10, 0x0c, 0x70, 0xac]
theorem fl_X12_directionOf_0 {p j : Nat} {b : UInt8} (e : p = 0 + j) (h : fb_X12_directionOf_0[j]? = some b) : cX12_directionOf.data.toList[p]? = some b := fq_l (n := 64) (show (cX12_directionOf.data.toList.drop 0).take 64 = fb_X12_directionOf_0 by decide +kernel) e h
theorem dX12_directionOf_0 : decode cX12_directionOf 0 = .ok (.aload_n 0, 1) := fq1_42 (fl_X12_directionOf_0 (j := 0) rfl rfl)
theorem dX12_directionOf_1 : decode cX12_directionOf 1 = .ok (.getfield 7, 3) := fq3_180 (fl_X12_directionOf_0 (j := 1) rfl rfl) (fl_X12_directionOf_0 (j := 2) rfl rfl) (fl_X12_directionOf_0 (j := 3) rfl rfl) rfl
theorem dX12_directionOf_4 : decode cX12_directionOf 4 = .ok (.iload_n 1, 1) := fq1_27 (fl_X12_directionOf_0 (j := 4) rfl rfl)
theorem dX12_directionOf_5 : decode cX12_directionOf 5 = .ok (.invokestatic 246, 3) := fq3_184 (fl_X12_directionOf_0 (j := 5) rfl rfl) (fl_X12_directionOf_0 (j := 6) rfl rfl) (fl_X12_directionOf_0 (j := 7) rfl rfl) rfl
theorem dX12_directionOf_8 : decode cX12_directionOf 8 = .ok (.iconst 2, 1) := fq1_5 (fl_X12_directionOf_0 (j := 8) rfl rfl)
theorem dX12_directionOf_9 : decode cX12_directionOf 9 = .ok (.iadd, 1) := fq1_96 (fl_X12_directionOf_0 (j := 9) rfl rfl)
theorem dX12_directionOf_10 : decode cX12_directionOf 10 = .ok (.iaload, 1) := fq1_46 (fl_X12_directionOf_0 (j := 10) rfl rfl)
theorem dX12_directionOf_11 : decode cX12_directionOf 11 = .ok (.bipush 12, 2) := fq2_16 (fl_X12_directionOf_0 (j := 11) rfl rfl) (fl_X12_directionOf_0 (j := 12) rfl rfl) (s1p rfl (bl rfl))
theorem dX12_directionOf_13 : decode cX12_directionOf 13 = .ok (.iload_n 2, 1) := fq1_28 (fl_X12_directionOf_0 (j := 13) rfl rfl)
theorem dX12_directionOf_14 : decode cX12_directionOf 14 = .ok (.imul, 1) := fq1_104 (fl_X12_directionOf_0 (j := 14) rfl rfl)
theorem dX12_directionOf_15 : decode cX12_directionOf 15 = .ok (.aload_n 0, 1) := fq1_42 (fl_X12_directionOf_0 (j := 15) rfl rfl)
theorem dX12_directionOf_16 : decode cX12_directionOf 16 = .ok (.getfield 7, 3) := fq3_180 (fl_X12_directionOf_0 (j := 16) rfl rfl) (fl_X12_directionOf_0 (j := 17) rfl rfl) (fl_X12_directionOf_0 (j := 18) rfl rfl) rfl
theorem dX12_directionOf_19 : decode cX12_directionOf 19 = .ok (.iload_n 1, 1) := fq1_27 (fl_X12_directionOf_0 (j := 19) rfl rfl)
theorem dX12_directionOf_20 : decode cX12_directionOf 20 = .ok (.invokestatic 246, 3) := fq3_184 (fl_X12_directionOf_0 (j := 20) rfl rfl) (fl_X12_directionOf_0 (j := 21) rfl rfl) (fl_X12_directionOf_0 (j := 22) rfl rfl) rfl
theorem dX12_directionOf_23 : decode cX12_directionOf 23 = .ok (.iconst 1, 1) := fq1_4 (fl_X12_directionOf_0 (j := 23) rfl rfl)
theorem dX12_directionOf_24 : decode cX12_directionOf 24 = .ok (.iadd, 1) := fq1_96 (fl_X12_directionOf_0 (j := 24) rfl rfl)
theorem dX12_directionOf_25 : decode cX12_directionOf 25 = .ok (.iaload, 1) := fq1_46 (fl_X12_directionOf_0 (j := 25) rfl rfl)
theorem dX12_directionOf_26 : decode cX12_directionOf 26 = .ok (.idiv, 1) := fq1_108 (fl_X12_directionOf_0 (j := 26) rfl rfl)
theorem dX12_directionOf_27 : decode cX12_directionOf 27 = .ok (.iadd, 1) := fq1_96 (fl_X12_directionOf_0 (j := 27) rfl rfl)
theorem dX12_directionOf_28 : decode cX12_directionOf 28 = .ok (.bipush 12, 2) := fq2_16 (fl_X12_directionOf_0 (j := 28) rfl rfl) (fl_X12_directionOf_0 (j := 29) rfl rfl) (s1p rfl (bl rfl))
theorem dX12_directionOf_30 : decode cX12_directionOf 30 = .ok (.irem, 1) := fq1_112 (fl_X12_directionOf_0 (j := 30) rfl rfl)
theorem dX12_directionOf_31 : decode cX12_directionOf 31 = .ok (.ireturn, 1) := fq1_172 (fl_X12_directionOf_0 (j := 31) rfl rfl)
def fb_X12_isAsked_0 : List UInt8 := [0x1a, 0x9b, 0x00, 0x0e, 0x1a, 0x11, 0x01, 0xf4, 0xa3, 0x00, 0x07, 0x04, 0xa7, 0x00, 0x04, 0x03, 0xac]
theorem fl_X12_isAsked_0 {p j : Nat} {b : UInt8} (e : p = 0 + j) (h : fb_X12_isAsked_0[j]? = some b) : cX12_isAsked.data.toList[p]? = some b := fq_l (n := 64) (show (cX12_isAsked.data.toList.drop 0).take 64 = fb_X12_isAsked_0 by decide +kernel) e h
theorem dX12_isAsked_0 : decode cX12_isAsked 0 = .ok (.iload_n 0, 1) := fq1_26 (fl_X12_isAsked_0 (j := 0) rfl rfl)
theorem dX12_isAsked_1 : decode cX12_isAsked 1 = .ok (.ifCond .lt 14, 3) := fq3_155 (fl_X12_isAsked_0 (j := 1) rfl rfl) (fl_X12_isAsked_0 (j := 2) rfl rfl) (fl_X12_isAsked_0 (j := 3) rfl rfl) (s2p rfl (bl rfl))
theorem dX12_isAsked_4 : decode cX12_isAsked 4 = .ok (.iload_n 0, 1) := fq1_26 (fl_X12_isAsked_0 (j := 4) rfl rfl)
theorem dX12_isAsked_5 : decode cX12_isAsked 5 = .ok (.sipush 500, 3) := fq3_17 (fl_X12_isAsked_0 (j := 5) rfl rfl) (fl_X12_isAsked_0 (j := 6) rfl rfl) (fl_X12_isAsked_0 (j := 7) rfl rfl) (s2p rfl (bl rfl))
theorem dX12_isAsked_8 : decode cX12_isAsked 8 = .ok (.if_icmp .gt 7, 3) := fq3_163 (fl_X12_isAsked_0 (j := 8) rfl rfl) (fl_X12_isAsked_0 (j := 9) rfl rfl) (fl_X12_isAsked_0 (j := 10) rfl rfl) (s2p rfl (bl rfl))
theorem dX12_isAsked_11 : decode cX12_isAsked 11 = .ok (.iconst 1, 1) := fq1_4 (fl_X12_isAsked_0 (j := 11) rfl rfl)
theorem dX12_isAsked_12 : decode cX12_isAsked 12 = .ok (.goto 4, 3) := fq3_167 (fl_X12_isAsked_0 (j := 12) rfl rfl) (fl_X12_isAsked_0 (j := 13) rfl rfl) (fl_X12_isAsked_0 (j := 14) rfl rfl) (s2p rfl (bl rfl))
theorem dX12_isAsked_15 : decode cX12_isAsked 15 = .ok (.iconst 0, 1) := fq1_3 (fl_X12_isAsked_0 (j := 15) rfl rfl)
theorem dX12_isAsked_16 : decode cX12_isAsked 16 = .ok (.ireturn, 1) := fq1_172 (fl_X12_isAsked_0 (j := 16) rfl rfl)
def fb_X12_isIced_0 : List UInt8 := [0x03, 0x36, 0x04, 0x15, 0x04, 0x2a, 0xb4, 0x00, 0x07, 0x04, 0x2e, 0xa2, 0x00, 0x6a, 0x10, 0x2e, 0x07, 0x15, 0x04, 0x68, 0x60, 0x36, 0x05, 0x2a, 0xb4, 0x00, 0x07, 0x15, 0x05, 0x2e, 0x1b, 0xa0, 0x00, 0x10, 0x2a, 0xb4, 0x00, 0x07, 0x15, 0x05, 0x04, 0x60, 0x2e, 0x1c, 0x9f, 0x00, 0x1b, 0x2a, 0xb4, 0x00, 0x07, 0x15, 0x05, 0x2e, 0x1c, 0xa0, 0x00, 0x14, 0x2a, 0xb4, 0x00, 0x07, 0x15, 0x05]
theorem fl_X12_isIced_0 {p j : Nat} {b : UInt8} (e : p = 0 + j) (h : fb_X12_isIced_0[j]? = some b) : cX12_isIced.data.toList[p]? = some b := fq_l (n := 64) (show (cX12_isIced.data.toList.drop 0).take 64 = fb_X12_isIced_0 by decide +kernel) e h
theorem dX12_isIced_0 : decode cX12_isIced 0 = .ok (.iconst 0, 1) := fq1_3 (fl_X12_isIced_0 (j := 0) rfl rfl)
theorem dX12_isIced_1 : decode cX12_isIced 1 = .ok (.istore 4, 2) := fq2_54 (fl_X12_isIced_0 (j := 1) rfl rfl) (fl_X12_isIced_0 (j := 2) rfl rfl) rfl
theorem dX12_isIced_3 : decode cX12_isIced 3 = .ok (.iload 4, 2) := fq2_21 (fl_X12_isIced_0 (j := 3) rfl rfl) (fl_X12_isIced_0 (j := 4) rfl rfl) rfl
theorem dX12_isIced_5 : decode cX12_isIced 5 = .ok (.aload_n 0, 1) := fq1_42 (fl_X12_isIced_0 (j := 5) rfl rfl)
theorem dX12_isIced_6 : decode cX12_isIced 6 = .ok (.getfield 7, 3) := fq3_180 (fl_X12_isIced_0 (j := 6) rfl rfl) (fl_X12_isIced_0 (j := 7) rfl rfl) (fl_X12_isIced_0 (j := 8) rfl rfl) rfl
theorem dX12_isIced_9 : decode cX12_isIced 9 = .ok (.iconst 1, 1) := fq1_4 (fl_X12_isIced_0 (j := 9) rfl rfl)
theorem dX12_isIced_10 : decode cX12_isIced 10 = .ok (.iaload, 1) := fq1_46 (fl_X12_isIced_0 (j := 10) rfl rfl)
theorem dX12_isIced_11 : decode cX12_isIced 11 = .ok (.if_icmp .ge 106, 3) := fq3_162 (fl_X12_isIced_0 (j := 11) rfl rfl) (fl_X12_isIced_0 (j := 12) rfl rfl) (fl_X12_isIced_0 (j := 13) rfl rfl) (s2p rfl (bl rfl))
theorem dX12_isIced_14 : decode cX12_isIced 14 = .ok (.bipush 46, 2) := fq2_16 (fl_X12_isIced_0 (j := 14) rfl rfl) (fl_X12_isIced_0 (j := 15) rfl rfl) (s1p rfl (bl rfl))
theorem dX12_isIced_16 : decode cX12_isIced 16 = .ok (.iconst 4, 1) := fq1_7 (fl_X12_isIced_0 (j := 16) rfl rfl)
theorem dX12_isIced_17 : decode cX12_isIced 17 = .ok (.iload 4, 2) := fq2_21 (fl_X12_isIced_0 (j := 17) rfl rfl) (fl_X12_isIced_0 (j := 18) rfl rfl) rfl
theorem dX12_isIced_19 : decode cX12_isIced 19 = .ok (.imul, 1) := fq1_104 (fl_X12_isIced_0 (j := 19) rfl rfl)
theorem dX12_isIced_20 : decode cX12_isIced 20 = .ok (.iadd, 1) := fq1_96 (fl_X12_isIced_0 (j := 20) rfl rfl)
theorem dX12_isIced_21 : decode cX12_isIced 21 = .ok (.istore 5, 2) := fq2_54 (fl_X12_isIced_0 (j := 21) rfl rfl) (fl_X12_isIced_0 (j := 22) rfl rfl) rfl
theorem dX12_isIced_23 : decode cX12_isIced 23 = .ok (.aload_n 0, 1) := fq1_42 (fl_X12_isIced_0 (j := 23) rfl rfl)
theorem dX12_isIced_24 : decode cX12_isIced 24 = .ok (.getfield 7, 3) := fq3_180 (fl_X12_isIced_0 (j := 24) rfl rfl) (fl_X12_isIced_0 (j := 25) rfl rfl) (fl_X12_isIced_0 (j := 26) rfl rfl) rfl
theorem dX12_isIced_27 : decode cX12_isIced 27 = .ok (.iload 5, 2) := fq2_21 (fl_X12_isIced_0 (j := 27) rfl rfl) (fl_X12_isIced_0 (j := 28) rfl rfl) rfl
theorem dX12_isIced_29 : decode cX12_isIced 29 = .ok (.iaload, 1) := fq1_46 (fl_X12_isIced_0 (j := 29) rfl rfl)
theorem dX12_isIced_30 : decode cX12_isIced 30 = .ok (.iload_n 1, 1) := fq1_27 (fl_X12_isIced_0 (j := 30) rfl rfl)
theorem dX12_isIced_31 : decode cX12_isIced 31 = .ok (.if_icmp .ne 16, 3) := fq3_160 (fl_X12_isIced_0 (j := 31) rfl rfl) (fl_X12_isIced_0 (j := 32) rfl rfl) (fl_X12_isIced_0 (j := 33) rfl rfl) (s2p rfl (bl rfl))
theorem dX12_isIced_34 : decode cX12_isIced 34 = .ok (.aload_n 0, 1) := fq1_42 (fl_X12_isIced_0 (j := 34) rfl rfl)
theorem dX12_isIced_35 : decode cX12_isIced 35 = .ok (.getfield 7, 3) := fq3_180 (fl_X12_isIced_0 (j := 35) rfl rfl) (fl_X12_isIced_0 (j := 36) rfl rfl) (fl_X12_isIced_0 (j := 37) rfl rfl) rfl
theorem dX12_isIced_38 : decode cX12_isIced 38 = .ok (.iload 5, 2) := fq2_21 (fl_X12_isIced_0 (j := 38) rfl rfl) (fl_X12_isIced_0 (j := 39) rfl rfl) rfl
theorem dX12_isIced_40 : decode cX12_isIced 40 = .ok (.iconst 1, 1) := fq1_4 (fl_X12_isIced_0 (j := 40) rfl rfl)
theorem dX12_isIced_41 : decode cX12_isIced 41 = .ok (.iadd, 1) := fq1_96 (fl_X12_isIced_0 (j := 41) rfl rfl)
theorem dX12_isIced_42 : decode cX12_isIced 42 = .ok (.iaload, 1) := fq1_46 (fl_X12_isIced_0 (j := 42) rfl rfl)
theorem dX12_isIced_43 : decode cX12_isIced 43 = .ok (.iload_n 2, 1) := fq1_28 (fl_X12_isIced_0 (j := 43) rfl rfl)
theorem dX12_isIced_44 : decode cX12_isIced 44 = .ok (.if_icmp .eq 27, 3) := fq3_159 (fl_X12_isIced_0 (j := 44) rfl rfl) (fl_X12_isIced_0 (j := 45) rfl rfl) (fl_X12_isIced_0 (j := 46) rfl rfl) (s2p rfl (bl rfl))
theorem dX12_isIced_47 : decode cX12_isIced 47 = .ok (.aload_n 0, 1) := fq1_42 (fl_X12_isIced_0 (j := 47) rfl rfl)
theorem dX12_isIced_48 : decode cX12_isIced 48 = .ok (.getfield 7, 3) := fq3_180 (fl_X12_isIced_0 (j := 48) rfl rfl) (fl_X12_isIced_0 (j := 49) rfl rfl) (fl_X12_isIced_0 (j := 50) rfl rfl) rfl
theorem dX12_isIced_51 : decode cX12_isIced 51 = .ok (.iload 5, 2) := fq2_21 (fl_X12_isIced_0 (j := 51) rfl rfl) (fl_X12_isIced_0 (j := 52) rfl rfl) rfl
theorem dX12_isIced_53 : decode cX12_isIced 53 = .ok (.iaload, 1) := fq1_46 (fl_X12_isIced_0 (j := 53) rfl rfl)
theorem dX12_isIced_54 : decode cX12_isIced 54 = .ok (.iload_n 2, 1) := fq1_28 (fl_X12_isIced_0 (j := 54) rfl rfl)
theorem dX12_isIced_55 : decode cX12_isIced 55 = .ok (.if_icmp .ne 20, 3) := fq3_160 (fl_X12_isIced_0 (j := 55) rfl rfl) (fl_X12_isIced_0 (j := 56) rfl rfl) (fl_X12_isIced_0 (j := 57) rfl rfl) (s2p rfl (bl rfl))
theorem dX12_isIced_58 : decode cX12_isIced 58 = .ok (.aload_n 0, 1) := fq1_42 (fl_X12_isIced_0 (j := 58) rfl rfl)
theorem dX12_isIced_59 : decode cX12_isIced 59 = .ok (.getfield 7, 3) := fq3_180 (fl_X12_isIced_0 (j := 59) rfl rfl) (fl_X12_isIced_0 (j := 60) rfl rfl) (fl_X12_isIced_0 (j := 61) rfl rfl) rfl
theorem dX12_isIced_62 : decode cX12_isIced 62 = .ok (.iload 5, 2) := fq2_21 (fl_X12_isIced_0 (j := 62) rfl rfl) (fl_X12_isIced_0 (j := 63) rfl rfl) rfl
def fb_X12_isIced_1 : List UInt8 := [0x04, 0x60, 0x2e, 0x1b, 0xa0, 0x00, 0x07, 0x04, 0xa7, 0x00, 0x04, 0x03, 0x36, 0x06, 0x15, 0x06, 0x99, 0x00, 0x1f, 0x1d, 0x2a, 0xb4, 0x00, 0x07, 0x15, 0x05, 0x05, 0x60, 0x2e, 0xa1, 0x00, 0x12, 0x1d, 0x2a, 0xb4, 0x00, 0x07, 0x15, 0x05, 0x06, 0x60, 0x2e, 0xa3, 0x00, 0x05, 0x04, 0xac, 0x84, 0x04, 0x01, 0xa7, 0xff, 0x91, 0x03, 0xac]
theorem fl_X12_isIced_1 {p j : Nat} {b : UInt8} (e : p = 64 + j) (h : fb_X12_isIced_1[j]? = some b) : cX12_isIced.data.toList[p]? = some b := fq_l (n := 64) (show (cX12_isIced.data.toList.drop 64).take 64 = fb_X12_isIced_1 by decide +kernel) e h
theorem dX12_isIced_64 : decode cX12_isIced 64 = .ok (.iconst 1, 1) := fq1_4 (fl_X12_isIced_1 (j := 0) rfl rfl)
theorem dX12_isIced_65 : decode cX12_isIced 65 = .ok (.iadd, 1) := fq1_96 (fl_X12_isIced_1 (j := 1) rfl rfl)
theorem dX12_isIced_66 : decode cX12_isIced 66 = .ok (.iaload, 1) := fq1_46 (fl_X12_isIced_1 (j := 2) rfl rfl)
theorem dX12_isIced_67 : decode cX12_isIced 67 = .ok (.iload_n 1, 1) := fq1_27 (fl_X12_isIced_1 (j := 3) rfl rfl)
theorem dX12_isIced_68 : decode cX12_isIced 68 = .ok (.if_icmp .ne 7, 3) := fq3_160 (fl_X12_isIced_1 (j := 4) rfl rfl) (fl_X12_isIced_1 (j := 5) rfl rfl) (fl_X12_isIced_1 (j := 6) rfl rfl) (s2p rfl (bl rfl))
theorem dX12_isIced_71 : decode cX12_isIced 71 = .ok (.iconst 1, 1) := fq1_4 (fl_X12_isIced_1 (j := 7) rfl rfl)
theorem dX12_isIced_72 : decode cX12_isIced 72 = .ok (.goto 4, 3) := fq3_167 (fl_X12_isIced_1 (j := 8) rfl rfl) (fl_X12_isIced_1 (j := 9) rfl rfl) (fl_X12_isIced_1 (j := 10) rfl rfl) (s2p rfl (bl rfl))
theorem dX12_isIced_75 : decode cX12_isIced 75 = .ok (.iconst 0, 1) := fq1_3 (fl_X12_isIced_1 (j := 11) rfl rfl)
theorem dX12_isIced_76 : decode cX12_isIced 76 = .ok (.istore 6, 2) := fq2_54 (fl_X12_isIced_1 (j := 12) rfl rfl) (fl_X12_isIced_1 (j := 13) rfl rfl) rfl
theorem dX12_isIced_78 : decode cX12_isIced 78 = .ok (.iload 6, 2) := fq2_21 (fl_X12_isIced_1 (j := 14) rfl rfl) (fl_X12_isIced_1 (j := 15) rfl rfl) rfl
theorem dX12_isIced_80 : decode cX12_isIced 80 = .ok (.ifCond .eq 31, 3) := fq3_153 (fl_X12_isIced_1 (j := 16) rfl rfl) (fl_X12_isIced_1 (j := 17) rfl rfl) (fl_X12_isIced_1 (j := 18) rfl rfl) (s2p rfl (bl rfl))
theorem dX12_isIced_83 : decode cX12_isIced 83 = .ok (.iload_n 3, 1) := fq1_29 (fl_X12_isIced_1 (j := 19) rfl rfl)
theorem dX12_isIced_84 : decode cX12_isIced 84 = .ok (.aload_n 0, 1) := fq1_42 (fl_X12_isIced_1 (j := 20) rfl rfl)
theorem dX12_isIced_85 : decode cX12_isIced 85 = .ok (.getfield 7, 3) := fq3_180 (fl_X12_isIced_1 (j := 21) rfl rfl) (fl_X12_isIced_1 (j := 22) rfl rfl) (fl_X12_isIced_1 (j := 23) rfl rfl) rfl
theorem dX12_isIced_88 : decode cX12_isIced 88 = .ok (.iload 5, 2) := fq2_21 (fl_X12_isIced_1 (j := 24) rfl rfl) (fl_X12_isIced_1 (j := 25) rfl rfl) rfl
theorem dX12_isIced_90 : decode cX12_isIced 90 = .ok (.iconst 2, 1) := fq1_5 (fl_X12_isIced_1 (j := 26) rfl rfl)
theorem dX12_isIced_91 : decode cX12_isIced 91 = .ok (.iadd, 1) := fq1_96 (fl_X12_isIced_1 (j := 27) rfl rfl)
theorem dX12_isIced_92 : decode cX12_isIced 92 = .ok (.iaload, 1) := fq1_46 (fl_X12_isIced_1 (j := 28) rfl rfl)
theorem dX12_isIced_93 : decode cX12_isIced 93 = .ok (.if_icmp .lt 18, 3) := fq3_161 (fl_X12_isIced_1 (j := 29) rfl rfl) (fl_X12_isIced_1 (j := 30) rfl rfl) (fl_X12_isIced_1 (j := 31) rfl rfl) (s2p rfl (bl rfl))
theorem dX12_isIced_96 : decode cX12_isIced 96 = .ok (.iload_n 3, 1) := fq1_29 (fl_X12_isIced_1 (j := 32) rfl rfl)
theorem dX12_isIced_97 : decode cX12_isIced 97 = .ok (.aload_n 0, 1) := fq1_42 (fl_X12_isIced_1 (j := 33) rfl rfl)
theorem dX12_isIced_98 : decode cX12_isIced 98 = .ok (.getfield 7, 3) := fq3_180 (fl_X12_isIced_1 (j := 34) rfl rfl) (fl_X12_isIced_1 (j := 35) rfl rfl) (fl_X12_isIced_1 (j := 36) rfl rfl) rfl
theorem dX12_isIced_101 : decode cX12_isIced 101 = .ok (.iload 5, 2) := fq2_21 (fl_X12_isIced_1 (j := 37) rfl rfl) (fl_X12_isIced_1 (j := 38) rfl rfl) rfl
theorem dX12_isIced_103 : decode cX12_isIced 103 = .ok (.iconst 3, 1) := fq1_6 (fl_X12_isIced_1 (j := 39) rfl rfl)
theorem dX12_isIced_104 : decode cX12_isIced 104 = .ok (.iadd, 1) := fq1_96 (fl_X12_isIced_1 (j := 40) rfl rfl)
theorem dX12_isIced_105 : decode cX12_isIced 105 = .ok (.iaload, 1) := fq1_46 (fl_X12_isIced_1 (j := 41) rfl rfl)
theorem dX12_isIced_106 : decode cX12_isIced 106 = .ok (.if_icmp .gt 5, 3) := fq3_163 (fl_X12_isIced_1 (j := 42) rfl rfl) (fl_X12_isIced_1 (j := 43) rfl rfl) (fl_X12_isIced_1 (j := 44) rfl rfl) (s2p rfl (bl rfl))
theorem dX12_isIced_109 : decode cX12_isIced 109 = .ok (.iconst 1, 1) := fq1_4 (fl_X12_isIced_1 (j := 45) rfl rfl)
theorem dX12_isIced_110 : decode cX12_isIced 110 = .ok (.ireturn, 1) := fq1_172 (fl_X12_isIced_1 (j := 46) rfl rfl)
theorem dX12_isIced_111 : decode cX12_isIced 111 = .ok (.iinc 4 1, 3) := fq3_132 (fl_X12_isIced_1 (j := 47) rfl rfl) (fl_X12_isIced_1 (j := 48) rfl rfl) (fl_X12_isIced_1 (j := 49) rfl rfl) rfl (s1p rfl (bl rfl))
theorem dX12_isIced_114 : decode cX12_isIced 114 = .ok (.goto (-111), 3) := fq3_167 (fl_X12_isIced_1 (j := 50) rfl rfl) (fl_X12_isIced_1 (j := 51) rfl rfl) (fl_X12_isIced_1 (j := 52) rfl rfl) (by decide)
theorem dX12_isIced_117 : decode cX12_isIced 117 = .ok (.iconst 0, 1) := fq1_3 (fl_X12_isIced_1 (j := 53) rfl rfl)
theorem dX12_isIced_118 : decode cX12_isIced 118 = .ok (.ireturn, 1) := fq1_172 (fl_X12_isIced_1 (j := 54) rfl rfl)
def fb_X12_isNews_0 : List UInt8 := [0x2a, 0x1b, 0xb6, 0x00, 0xf3, 0x99, 0x00, 0x0e, 0x1c, 0xb8, 0x01, 0x0c, 0x99, 0x00, 0x07, 0x04, 0xa7, 0x00, 0x04, 0x03, 0xac]
theorem fl_X12_isNews_0 {p j : Nat} {b : UInt8} (e : p = 0 + j) (h : fb_X12_isNews_0[j]? = some b) : cX12_isNews.data.toList[p]? = some b := fq_l (n := 64) (show (cX12_isNews.data.toList.drop 0).take 64 = fb_X12_isNews_0 by decide +kernel) e h
theorem dX12_isNews_0 : decode cX12_isNews 0 = .ok (.aload_n 0, 1) := fq1_42 (fl_X12_isNews_0 (j := 0) rfl rfl)
theorem dX12_isNews_1 : decode cX12_isNews 1 = .ok (.iload_n 1, 1) := fq1_27 (fl_X12_isNews_0 (j := 1) rfl rfl)
theorem dX12_isNews_2 : decode cX12_isNews 2 = .ok (.invokevirtual 243, 3) := fq3_182 (fl_X12_isNews_0 (j := 2) rfl rfl) (fl_X12_isNews_0 (j := 3) rfl rfl) (fl_X12_isNews_0 (j := 4) rfl rfl) rfl
theorem dX12_isNews_5 : decode cX12_isNews 5 = .ok (.ifCond .eq 14, 3) := fq3_153 (fl_X12_isNews_0 (j := 5) rfl rfl) (fl_X12_isNews_0 (j := 6) rfl rfl) (fl_X12_isNews_0 (j := 7) rfl rfl) (s2p rfl (bl rfl))
theorem dX12_isNews_8 : decode cX12_isNews 8 = .ok (.iload_n 2, 1) := fq1_28 (fl_X12_isNews_0 (j := 8) rfl rfl)
theorem dX12_isNews_9 : decode cX12_isNews 9 = .ok (.invokestatic 268, 3) := fq3_184 (fl_X12_isNews_0 (j := 9) rfl rfl) (fl_X12_isNews_0 (j := 10) rfl rfl) (fl_X12_isNews_0 (j := 11) rfl rfl) rfl
theorem dX12_isNews_12 : decode cX12_isNews 12 = .ok (.ifCond .eq 7, 3) := fq3_153 (fl_X12_isNews_0 (j := 12) rfl rfl) (fl_X12_isNews_0 (j := 13) rfl rfl) (fl_X12_isNews_0 (j := 14) rfl rfl) (s2p rfl (bl rfl))
theorem dX12_isNews_15 : decode cX12_isNews 15 = .ok (.iconst 1, 1) := fq1_4 (fl_X12_isNews_0 (j := 15) rfl rfl)
theorem dX12_isNews_16 : decode cX12_isNews 16 = .ok (.goto 4, 3) := fq3_167 (fl_X12_isNews_0 (j := 16) rfl rfl) (fl_X12_isNews_0 (j := 17) rfl rfl) (fl_X12_isNews_0 (j := 18) rfl rfl) (s2p rfl (bl rfl))
theorem dX12_isNews_19 : decode cX12_isNews 19 = .ok (.iconst 0, 1) := fq1_3 (fl_X12_isNews_0 (j := 19) rfl rfl)
theorem dX12_isNews_20 : decode cX12_isNews 20 = .ok (.ireturn, 1) := fq1_172 (fl_X12_isNews_0 (j := 20) rfl rfl)
def fb_X12_isRock_0 : List UInt8 := [0x1b, 0x9b, 0x00, 0x11, 0x1b, 0x2a, 0xb4, 0x00, 0x07, 0x03, 0x2e, 0xa2, 0x00, 0x07, 0x04, 0xa7, 0x00, 0x04, 0x03, 0xac]
theorem fl_X12_isRock_0 {p j : Nat} {b : UInt8} (e : p = 0 + j) (h : fb_X12_isRock_0[j]? = some b) : cX12_isRock.data.toList[p]? = some b := fq_l (n := 64) (show (cX12_isRock.data.toList.drop 0).take 64 = fb_X12_isRock_0 by decide +kernel) e h
theorem dX12_isRock_0 : decode cX12_isRock 0 = .ok (.iload_n 1, 1) := fq1_27 (fl_X12_isRock_0 (j := 0) rfl rfl)
theorem dX12_isRock_1 : decode cX12_isRock 1 = .ok (.ifCond .lt 17, 3) := fq3_155 (fl_X12_isRock_0 (j := 1) rfl rfl) (fl_X12_isRock_0 (j := 2) rfl rfl) (fl_X12_isRock_0 (j := 3) rfl rfl) (s2p rfl (bl rfl))
theorem dX12_isRock_4 : decode cX12_isRock 4 = .ok (.iload_n 1, 1) := fq1_27 (fl_X12_isRock_0 (j := 4) rfl rfl)
theorem dX12_isRock_5 : decode cX12_isRock 5 = .ok (.aload_n 0, 1) := fq1_42 (fl_X12_isRock_0 (j := 5) rfl rfl)
theorem dX12_isRock_6 : decode cX12_isRock 6 = .ok (.getfield 7, 3) := fq3_180 (fl_X12_isRock_0 (j := 6) rfl rfl) (fl_X12_isRock_0 (j := 7) rfl rfl) (fl_X12_isRock_0 (j := 8) rfl rfl) rfl
theorem dX12_isRock_9 : decode cX12_isRock 9 = .ok (.iconst 0, 1) := fq1_3 (fl_X12_isRock_0 (j := 9) rfl rfl)
theorem dX12_isRock_10 : decode cX12_isRock 10 = .ok (.iaload, 1) := fq1_46 (fl_X12_isRock_0 (j := 10) rfl rfl)
theorem dX12_isRock_11 : decode cX12_isRock 11 = .ok (.if_icmp .ge 7, 3) := fq3_162 (fl_X12_isRock_0 (j := 11) rfl rfl) (fl_X12_isRock_0 (j := 12) rfl rfl) (fl_X12_isRock_0 (j := 13) rfl rfl) (s2p rfl (bl rfl))
theorem dX12_isRock_14 : decode cX12_isRock 14 = .ok (.iconst 1, 1) := fq1_4 (fl_X12_isRock_0 (j := 14) rfl rfl)
theorem dX12_isRock_15 : decode cX12_isRock 15 = .ok (.goto 4, 3) := fq3_167 (fl_X12_isRock_0 (j := 15) rfl rfl) (fl_X12_isRock_0 (j := 16) rfl rfl) (fl_X12_isRock_0 (j := 17) rfl rfl) (s2p rfl (bl rfl))
theorem dX12_isRock_18 : decode cX12_isRock 18 = .ok (.iconst 0, 1) := fq1_3 (fl_X12_isRock_0 (j := 18) rfl rfl)
theorem dX12_isRock_19 : decode cX12_isRock 19 = .ok (.ireturn, 1) := fq1_172 (fl_X12_isRock_0 (j := 19) rfl rfl)
def fb_X12_isWeek_0 : List UInt8 := [0x1a, 0x9b, 0x00, 0x0e, 0x1a, 0x11, 0x01, 0x90, 0xa3, 0x00, 0x07, 0x04, 0xa7, 0x00, 0x04, 0x03, 0xac]
theorem fl_X12_isWeek_0 {p j : Nat} {b : UInt8} (e : p = 0 + j) (h : fb_X12_isWeek_0[j]? = some b) : cX12_isWeek.data.toList[p]? = some b := fq_l (n := 64) (show (cX12_isWeek.data.toList.drop 0).take 64 = fb_X12_isWeek_0 by decide +kernel) e h
theorem dX12_isWeek_0 : decode cX12_isWeek 0 = .ok (.iload_n 0, 1) := fq1_26 (fl_X12_isWeek_0 (j := 0) rfl rfl)
theorem dX12_isWeek_1 : decode cX12_isWeek 1 = .ok (.ifCond .lt 14, 3) := fq3_155 (fl_X12_isWeek_0 (j := 1) rfl rfl) (fl_X12_isWeek_0 (j := 2) rfl rfl) (fl_X12_isWeek_0 (j := 3) rfl rfl) (s2p rfl (bl rfl))
theorem dX12_isWeek_4 : decode cX12_isWeek 4 = .ok (.iload_n 0, 1) := fq1_26 (fl_X12_isWeek_0 (j := 4) rfl rfl)
theorem dX12_isWeek_5 : decode cX12_isWeek 5 = .ok (.sipush 400, 3) := fq3_17 (fl_X12_isWeek_0 (j := 5) rfl rfl) (fl_X12_isWeek_0 (j := 6) rfl rfl) (fl_X12_isWeek_0 (j := 7) rfl rfl) (s2p rfl (bl rfl))
theorem dX12_isWeek_8 : decode cX12_isWeek 8 = .ok (.if_icmp .gt 7, 3) := fq3_163 (fl_X12_isWeek_0 (j := 8) rfl rfl) (fl_X12_isWeek_0 (j := 9) rfl rfl) (fl_X12_isWeek_0 (j := 10) rfl rfl) (s2p rfl (bl rfl))
theorem dX12_isWeek_11 : decode cX12_isWeek 11 = .ok (.iconst 1, 1) := fq1_4 (fl_X12_isWeek_0 (j := 11) rfl rfl)
theorem dX12_isWeek_12 : decode cX12_isWeek 12 = .ok (.goto 4, 3) := fq3_167 (fl_X12_isWeek_0 (j := 12) rfl rfl) (fl_X12_isWeek_0 (j := 13) rfl rfl) (fl_X12_isWeek_0 (j := 14) rfl rfl) (s2p rfl (bl rfl))
theorem dX12_isWeek_15 : decode cX12_isWeek 15 = .ok (.iconst 0, 1) := fq1_3 (fl_X12_isWeek_0 (j := 15) rfl rfl)
theorem dX12_isWeek_16 : decode cX12_isWeek 16 = .ok (.ireturn, 1) := fq1_172 (fl_X12_isWeek_0 (j := 16) rfl rfl)
def fb_X12_lightOf_0 : List UInt8 := [0x1b, 0x1d, 0xa0, 0x00, 0x05, 0x03, 0xac, 0x2a, 0xb4, 0x00, 0x07, 0x1b, 0xb8, 0x00, 0xf6, 0x2e, 0x36, 0x05, 0x2a, 0xb4, 0x00, 0x07, 0x1d, 0xb8, 0x00, 0xf6, 0x2e, 0x36, 0x06, 0x2a, 0x1b, 0x1c, 0xb6, 0x00, 0xf9, 0x2a, 0x1d, 0x15, 0x04, 0xb6, 0x00, 0xf9, 0x64, 0xb8, 0x00, 0xfc, 0x36, 0x07, 0x15, 0x07, 0x10, 0x06, 0xa4, 0x00, 0x0a, 0x10, 0x0c, 0x15, 0x07, 0x64, 0x36, 0x07, 0x04, 0x15]
theorem fl_X12_lightOf_0 {p j : Nat} {b : UInt8} (e : p = 0 + j) (h : fb_X12_lightOf_0[j]? = some b) : cX12_lightOf.data.toList[p]? = some b := fq_l (n := 64) (show (cX12_lightOf.data.toList.drop 0).take 64 = fb_X12_lightOf_0 by decide +kernel) e h
theorem dX12_lightOf_0 : decode cX12_lightOf 0 = .ok (.iload_n 1, 1) := fq1_27 (fl_X12_lightOf_0 (j := 0) rfl rfl)
theorem dX12_lightOf_1 : decode cX12_lightOf 1 = .ok (.iload_n 3, 1) := fq1_29 (fl_X12_lightOf_0 (j := 1) rfl rfl)
theorem dX12_lightOf_2 : decode cX12_lightOf 2 = .ok (.if_icmp .ne 5, 3) := fq3_160 (fl_X12_lightOf_0 (j := 2) rfl rfl) (fl_X12_lightOf_0 (j := 3) rfl rfl) (fl_X12_lightOf_0 (j := 4) rfl rfl) (s2p rfl (bl rfl))
theorem dX12_lightOf_5 : decode cX12_lightOf 5 = .ok (.iconst 0, 1) := fq1_3 (fl_X12_lightOf_0 (j := 5) rfl rfl)
theorem dX12_lightOf_6 : decode cX12_lightOf 6 = .ok (.ireturn, 1) := fq1_172 (fl_X12_lightOf_0 (j := 6) rfl rfl)
theorem dX12_lightOf_7 : decode cX12_lightOf 7 = .ok (.aload_n 0, 1) := fq1_42 (fl_X12_lightOf_0 (j := 7) rfl rfl)
theorem dX12_lightOf_8 : decode cX12_lightOf 8 = .ok (.getfield 7, 3) := fq3_180 (fl_X12_lightOf_0 (j := 8) rfl rfl) (fl_X12_lightOf_0 (j := 9) rfl rfl) (fl_X12_lightOf_0 (j := 10) rfl rfl) rfl
theorem dX12_lightOf_11 : decode cX12_lightOf 11 = .ok (.iload_n 1, 1) := fq1_27 (fl_X12_lightOf_0 (j := 11) rfl rfl)
theorem dX12_lightOf_12 : decode cX12_lightOf 12 = .ok (.invokestatic 246, 3) := fq3_184 (fl_X12_lightOf_0 (j := 12) rfl rfl) (fl_X12_lightOf_0 (j := 13) rfl rfl) (fl_X12_lightOf_0 (j := 14) rfl rfl) rfl
theorem dX12_lightOf_15 : decode cX12_lightOf 15 = .ok (.iaload, 1) := fq1_46 (fl_X12_lightOf_0 (j := 15) rfl rfl)
theorem dX12_lightOf_16 : decode cX12_lightOf 16 = .ok (.istore 5, 2) := fq2_54 (fl_X12_lightOf_0 (j := 16) rfl rfl) (fl_X12_lightOf_0 (j := 17) rfl rfl) rfl
theorem dX12_lightOf_18 : decode cX12_lightOf 18 = .ok (.aload_n 0, 1) := fq1_42 (fl_X12_lightOf_0 (j := 18) rfl rfl)
theorem dX12_lightOf_19 : decode cX12_lightOf 19 = .ok (.getfield 7, 3) := fq3_180 (fl_X12_lightOf_0 (j := 19) rfl rfl) (fl_X12_lightOf_0 (j := 20) rfl rfl) (fl_X12_lightOf_0 (j := 21) rfl rfl) rfl
theorem dX12_lightOf_22 : decode cX12_lightOf 22 = .ok (.iload_n 3, 1) := fq1_29 (fl_X12_lightOf_0 (j := 22) rfl rfl)
theorem dX12_lightOf_23 : decode cX12_lightOf 23 = .ok (.invokestatic 246, 3) := fq3_184 (fl_X12_lightOf_0 (j := 23) rfl rfl) (fl_X12_lightOf_0 (j := 24) rfl rfl) (fl_X12_lightOf_0 (j := 25) rfl rfl) rfl
theorem dX12_lightOf_26 : decode cX12_lightOf 26 = .ok (.iaload, 1) := fq1_46 (fl_X12_lightOf_0 (j := 26) rfl rfl)
theorem dX12_lightOf_27 : decode cX12_lightOf 27 = .ok (.istore 6, 2) := fq2_54 (fl_X12_lightOf_0 (j := 27) rfl rfl) (fl_X12_lightOf_0 (j := 28) rfl rfl) rfl
theorem dX12_lightOf_29 : decode cX12_lightOf 29 = .ok (.aload_n 0, 1) := fq1_42 (fl_X12_lightOf_0 (j := 29) rfl rfl)
theorem dX12_lightOf_30 : decode cX12_lightOf 30 = .ok (.iload_n 1, 1) := fq1_27 (fl_X12_lightOf_0 (j := 30) rfl rfl)
theorem dX12_lightOf_31 : decode cX12_lightOf 31 = .ok (.iload_n 2, 1) := fq1_28 (fl_X12_lightOf_0 (j := 31) rfl rfl)
theorem dX12_lightOf_32 : decode cX12_lightOf 32 = .ok (.invokevirtual 249, 3) := fq3_182 (fl_X12_lightOf_0 (j := 32) rfl rfl) (fl_X12_lightOf_0 (j := 33) rfl rfl) (fl_X12_lightOf_0 (j := 34) rfl rfl) rfl
theorem dX12_lightOf_35 : decode cX12_lightOf 35 = .ok (.aload_n 0, 1) := fq1_42 (fl_X12_lightOf_0 (j := 35) rfl rfl)
theorem dX12_lightOf_36 : decode cX12_lightOf 36 = .ok (.iload_n 3, 1) := fq1_29 (fl_X12_lightOf_0 (j := 36) rfl rfl)
theorem dX12_lightOf_37 : decode cX12_lightOf 37 = .ok (.iload 4, 2) := fq2_21 (fl_X12_lightOf_0 (j := 37) rfl rfl) (fl_X12_lightOf_0 (j := 38) rfl rfl) rfl
theorem dX12_lightOf_39 : decode cX12_lightOf 39 = .ok (.invokevirtual 249, 3) := fq3_182 (fl_X12_lightOf_0 (j := 39) rfl rfl) (fl_X12_lightOf_0 (j := 40) rfl rfl) (fl_X12_lightOf_0 (j := 41) rfl rfl) rfl
theorem dX12_lightOf_42 : decode cX12_lightOf 42 = .ok (.isub, 1) := fq1_100 (fl_X12_lightOf_0 (j := 42) rfl rfl)
theorem dX12_lightOf_43 : decode cX12_lightOf 43 = .ok (.invokestatic 252, 3) := fq3_184 (fl_X12_lightOf_0 (j := 43) rfl rfl) (fl_X12_lightOf_0 (j := 44) rfl rfl) (fl_X12_lightOf_0 (j := 45) rfl rfl) rfl
theorem dX12_lightOf_46 : decode cX12_lightOf 46 = .ok (.istore 7, 2) := fq2_54 (fl_X12_lightOf_0 (j := 46) rfl rfl) (fl_X12_lightOf_0 (j := 47) rfl rfl) rfl
theorem dX12_lightOf_48 : decode cX12_lightOf 48 = .ok (.iload 7, 2) := fq2_21 (fl_X12_lightOf_0 (j := 48) rfl rfl) (fl_X12_lightOf_0 (j := 49) rfl rfl) rfl
theorem dX12_lightOf_50 : decode cX12_lightOf 50 = .ok (.bipush 6, 2) := fq2_16 (fl_X12_lightOf_0 (j := 50) rfl rfl) (fl_X12_lightOf_0 (j := 51) rfl rfl) (s1p rfl (bl rfl))
theorem dX12_lightOf_52 : decode cX12_lightOf 52 = .ok (.if_icmp .le 10, 3) := fq3_164 (fl_X12_lightOf_0 (j := 52) rfl rfl) (fl_X12_lightOf_0 (j := 53) rfl rfl) (fl_X12_lightOf_0 (j := 54) rfl rfl) (s2p rfl (bl rfl))
theorem dX12_lightOf_55 : decode cX12_lightOf 55 = .ok (.bipush 12, 2) := fq2_16 (fl_X12_lightOf_0 (j := 55) rfl rfl) (fl_X12_lightOf_0 (j := 56) rfl rfl) (s1p rfl (bl rfl))
theorem dX12_lightOf_57 : decode cX12_lightOf 57 = .ok (.iload 7, 2) := fq2_21 (fl_X12_lightOf_0 (j := 57) rfl rfl) (fl_X12_lightOf_0 (j := 58) rfl rfl) rfl
theorem dX12_lightOf_59 : decode cX12_lightOf 59 = .ok (.isub, 1) := fq1_100 (fl_X12_lightOf_0 (j := 59) rfl rfl)
theorem dX12_lightOf_60 : decode cX12_lightOf 60 = .ok (.istore 7, 2) := fq2_54 (fl_X12_lightOf_0 (j := 60) rfl rfl) (fl_X12_lightOf_0 (j := 61) rfl rfl) rfl
theorem dX12_lightOf_62 : decode cX12_lightOf 62 = .ok (.iconst 1, 1) := fq1_4 (fl_X12_lightOf_0 (j := 62) rfl rfl)
def fb_X12_lightOf_1 : List UInt8 := [0x05, 0x15, 0x06, 0x64, 0xb8, 0x00, 0xfc, 0x15, 0x07, 0x15, 0x05, 0x15, 0x06, 0xb8, 0x00, 0x89, 0x68, 0x10, 0x06, 0x6c, 0x60, 0xb8, 0x00, 0xff, 0xac]
theorem fl_X12_lightOf_1 {p j : Nat} {b : UInt8} (e : p = 64 + j) (h : fb_X12_lightOf_1[j]? = some b) : cX12_lightOf.data.toList[p]? = some b := fq_l (n := 64) (show (cX12_lightOf.data.toList.drop 64).take 64 = fb_X12_lightOf_1 by decide +kernel) e h
theorem dX12_lightOf_63 : decode cX12_lightOf 63 = .ok (.iload 5, 2) := fq2_21 (fl_X12_lightOf_0 (j := 63) rfl rfl) (fl_X12_lightOf_1 (j := 0) rfl rfl) rfl
theorem dX12_lightOf_65 : decode cX12_lightOf 65 = .ok (.iload 6, 2) := fq2_21 (fl_X12_lightOf_1 (j := 1) rfl rfl) (fl_X12_lightOf_1 (j := 2) rfl rfl) rfl
theorem dX12_lightOf_67 : decode cX12_lightOf 67 = .ok (.isub, 1) := fq1_100 (fl_X12_lightOf_1 (j := 3) rfl rfl)
theorem dX12_lightOf_68 : decode cX12_lightOf 68 = .ok (.invokestatic 252, 3) := fq3_184 (fl_X12_lightOf_1 (j := 4) rfl rfl) (fl_X12_lightOf_1 (j := 5) rfl rfl) (fl_X12_lightOf_1 (j := 6) rfl rfl) rfl
theorem dX12_lightOf_71 : decode cX12_lightOf 71 = .ok (.iload 7, 2) := fq2_21 (fl_X12_lightOf_1 (j := 7) rfl rfl) (fl_X12_lightOf_1 (j := 8) rfl rfl) rfl
theorem dX12_lightOf_73 : decode cX12_lightOf 73 = .ok (.iload 5, 2) := fq2_21 (fl_X12_lightOf_1 (j := 9) rfl rfl) (fl_X12_lightOf_1 (j := 10) rfl rfl) rfl
theorem dX12_lightOf_75 : decode cX12_lightOf 75 = .ok (.iload 6, 2) := fq2_21 (fl_X12_lightOf_1 (j := 11) rfl rfl) (fl_X12_lightOf_1 (j := 12) rfl rfl) rfl
theorem dX12_lightOf_77 : decode cX12_lightOf 77 = .ok (.invokestatic 137, 3) := fq3_184 (fl_X12_lightOf_1 (j := 13) rfl rfl) (fl_X12_lightOf_1 (j := 14) rfl rfl) (fl_X12_lightOf_1 (j := 15) rfl rfl) rfl
theorem dX12_lightOf_80 : decode cX12_lightOf 80 = .ok (.imul, 1) := fq1_104 (fl_X12_lightOf_1 (j := 16) rfl rfl)
theorem dX12_lightOf_81 : decode cX12_lightOf 81 = .ok (.bipush 6, 2) := fq2_16 (fl_X12_lightOf_1 (j := 17) rfl rfl) (fl_X12_lightOf_1 (j := 18) rfl rfl) (s1p rfl (bl rfl))
theorem dX12_lightOf_83 : decode cX12_lightOf 83 = .ok (.idiv, 1) := fq1_108 (fl_X12_lightOf_1 (j := 19) rfl rfl)
theorem dX12_lightOf_84 : decode cX12_lightOf 84 = .ok (.iadd, 1) := fq1_96 (fl_X12_lightOf_1 (j := 20) rfl rfl)
theorem dX12_lightOf_85 : decode cX12_lightOf 85 = .ok (.invokestatic 255, 3) := fq3_184 (fl_X12_lightOf_1 (j := 21) rfl rfl) (fl_X12_lightOf_1 (j := 22) rfl rfl) (fl_X12_lightOf_1 (j := 23) rfl rfl) rfl
theorem dX12_lightOf_88 : decode cX12_lightOf 88 = .ok (.ireturn, 1) := fq1_172 (fl_X12_lightOf_1 (j := 24) rfl rfl)
def fb_X12_rockRow_0 : List UInt8 := [0x10, 0x0a, 0x10, 0x06, 0x1a, 0x68, 0x60, 0xac]
theorem fl_X12_rockRow_0 {p j : Nat} {b : UInt8} (e : p = 0 + j) (h : fb_X12_rockRow_0[j]? = some b) : cX12_rockRow.data.toList[p]? = some b := fq_l (n := 64) (show (cX12_rockRow.data.toList.drop 0).take 64 = fb_X12_rockRow_0 by decide +kernel) e h
theorem dX12_rockRow_0 : decode cX12_rockRow 0 = .ok (.bipush 10, 2) := fq2_16 (fl_X12_rockRow_0 (j := 0) rfl rfl) (fl_X12_rockRow_0 (j := 1) rfl rfl) (s1p rfl (bl rfl))
theorem dX12_rockRow_2 : decode cX12_rockRow 2 = .ok (.bipush 6, 2) := fq2_16 (fl_X12_rockRow_0 (j := 2) rfl rfl) (fl_X12_rockRow_0 (j := 3) rfl rfl) (s1p rfl (bl rfl))
theorem dX12_rockRow_4 : decode cX12_rockRow 4 = .ok (.iload_n 0, 1) := fq1_26 (fl_X12_rockRow_0 (j := 4) rfl rfl)
theorem dX12_rockRow_5 : decode cX12_rockRow 5 = .ok (.imul, 1) := fq1_104 (fl_X12_rockRow_0 (j := 5) rfl rfl)
theorem dX12_rockRow_6 : decode cX12_rockRow 6 = .ok (.iadd, 1) := fq1_96 (fl_X12_rockRow_0 (j := 6) rfl rfl)
theorem dX12_rockRow_7 : decode cX12_rockRow 7 = .ok (.ireturn, 1) := fq1_172 (fl_X12_rockRow_0 (j := 7) rfl rfl)
