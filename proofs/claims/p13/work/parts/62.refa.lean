section
theorem qf_X12_7 : Cond.fieldLink RX12 7 "SlowWorldsModel" "at" "[I" ∈ gw := tbt (tb6 (List.mem_of_getElem? (i := 44) rfl)) rfl
theorem iX12 : ∀ w ∈ u_ws RX12 TX12 36, w ∈ gw := by
  intro w hw
  obtain ⟨k, hk, rfl⟩ := List.mem_map.mp hw
  have hk := List.mem_range.mp hk
  match k, hk with
  | 0, _ => exact tbt (tb6 (List.mem_of_getElem? (i := 80) rfl)) rfl
  | 1, _ => exact tbt (tb6 (List.mem_of_getElem? (i := 82) rfl)) rfl
  | 2, _ => exact tbt (tb6 (List.mem_of_getElem? (i := 84) rfl)) rfl
  | 3, _ => exact tbt (tb6 (List.mem_of_getElem? (i := 86) rfl)) rfl
  | 4, _ => exact tbt (tb6 (List.mem_of_getElem? (i := 88) rfl)) rfl
  | 5, _ => exact tbt (tb6 (List.mem_of_getElem? (i := 90) rfl)) rfl
  | 6, _ => exact tbt (tb6 (List.mem_of_getElem? (i := 92) rfl)) rfl
  | 7, _ => exact tbt (tb6 (List.mem_of_getElem? (i := 94) rfl)) rfl
  | 8, _ => exact tbt (tb6 (List.mem_of_getElem? (i := 96) rfl)) rfl
  | 9, _ => exact tbt (tb6 (List.mem_of_getElem? (i := 98) rfl)) rfl
  | 10, _ => exact tbt (tb6 (List.mem_of_getElem? (i := 100) rfl)) rfl
  | 11, _ => exact tbt (tb6 (List.mem_of_getElem? (i := 102) rfl)) rfl
  | 12, _ => exact tbt (tb6 (List.mem_of_getElem? (i := 104) rfl)) rfl
  | 13, _ => exact tbt (tb6 (List.mem_of_getElem? (i := 106) rfl)) rfl
  | 14, _ => exact tbt (tb6 (List.mem_of_getElem? (i := 108) rfl)) rfl
  | 15, _ => exact tbt (tb6 (List.mem_of_getElem? (i := 110) rfl)) rfl
  | 16, _ => exact tbt (tb6 (List.mem_of_getElem? (i := 112) rfl)) rfl
  | 17, _ => exact tbt (tb6 (List.mem_of_getElem? (i := 114) rfl)) rfl
  | 18, _ => exact tbt (tb6 (List.mem_of_getElem? (i := 116) rfl)) rfl
  | 19, _ => exact tbt (tb6 (List.mem_of_getElem? (i := 118) rfl)) rfl
  | 20, _ => exact tbt (tb6 (List.mem_of_getElem? (i := 120) rfl)) rfl
  | 21, _ => exact tbt (tb6 (List.mem_of_getElem? (i := 122) rfl)) rfl
  | 22, _ => exact tbt (tb6 (List.mem_of_getElem? (i := 124) rfl)) rfl
  | 23, _ => exact tbt (tb6 (List.mem_of_getElem? (i := 126) rfl)) rfl
  | 24, _ => exact tbt (tb6 (List.mem_of_getElem? (i := 128) rfl)) rfl
  | 25, _ => exact tbt (tb6 (List.mem_of_getElem? (i := 130) rfl)) rfl
  | 26, _ => exact tbt (tb6 (List.mem_of_getElem? (i := 132) rfl)) rfl
  | 27, _ => exact tbt (tb6 (List.mem_of_getElem? (i := 134) rfl)) rfl
  | 28, _ => exact tbt (tb6 (List.mem_of_getElem? (i := 136) rfl)) rfl
  | 29, _ => exact tbt (tb6 (List.mem_of_getElem? (i := 138) rfl)) rfl
  | 30, _ => exact tbt (tb6 (List.mem_of_getElem? (i := 140) rfl)) rfl
  | 31, _ => exact tbt (tb6 (List.mem_of_getElem? (i := 142) rfl)) rfl
  | 32, _ => exact tbt (tb6 (List.mem_of_getElem? (i := 144) rfl)) rfl
  | 33, _ => exact tbt (tb6 (List.mem_of_getElem? (i := 146) rfl)) rfl
  | 34, _ => exact tbt (tb6 (List.mem_of_getElem? (i := 148) rfl)) rfl
  | 35, _ => exact tbt (tb6 (List.mem_of_getElem? (i := 150) rfl)) rfl
  | (k + 36), hk => exact absurd hk (by omega)
theorem qc_X12_isRock : Cond.code yX12_isRock cX12_isRock 2 (some .boolean) ∈ gw := tbt (tb7 (List.mem_of_getElem? (i := 98) rfl)) rfl
theorem qi_yX12_isRock : Cond.instanceMethod yX12_isRock ∈ gw := tbt (tb7 (List.mem_of_getElem? (i := 97) rfl)) rfl
theorem qs_X12_isRock : Cond.selects (yX12_isRock).cls yX12_isRock yX12_isRock ∈ gw := tb0 (List.mem_of_getElem? (i := 65) rfl) rfl
theorem qz_X12 : Cond.initialized RX12 ∈ gw := tbt (tb1 (List.mem_of_getElem? (i := 17) rfl)) rfl
theorem ci_X12_isRock : CIv yX12_isRock cX12_isRock 2 (some .boolean) 1 := ⟨qc_X12_isRock, qi_yX12_isRock, qs_X12_isRock, qz_X12, by decide +kernel⟩
theorem qm_X12_243 : Cond.methodLink RX12 243 yX12_isRock ∈ gw := tbt (tb7 (List.mem_of_getElem? (i := 95) rfl)) rfl
theorem qc_X12_isWeek : Cond.code yX12_isWeek cX12_isWeek 1 (some .boolean) ∈ gw := tbt (tb7 (List.mem_of_getElem? (i := 139) rfl)) rfl
theorem qt_yX12_isWeek : Cond.static yX12_isWeek ∈ gw := tbt (tb7 (List.mem_of_getElem? (i := 138) rfl)) rfl
theorem ci_X12_isWeek : CIs yX12_isWeek cX12_isWeek 1 (some .boolean) 1 := ⟨qc_X12_isWeek, qt_yX12_isWeek, qz_X12, by decide +kernel⟩
theorem qm_X12_268 : Cond.methodLink RX12 268 yX12_isWeek ∈ gw := tbt (tb7 (List.mem_of_getElem? (i := 137) rfl)) rfl
theorem qc_X12_isOrder : Cond.code yX12_isOrder cX12_isOrder 2 (some .boolean) ∈ gw := tbt (tb8 (List.mem_of_getElem? (i := 49) rfl)) rfl
theorem qi_yX12_isOrder : Cond.instanceMethod yX12_isOrder ∈ gw := tbt (tb8 (List.mem_of_getElem? (i := 48) rfl)) rfl
theorem qs_X12_isOrder : Cond.selects (yX12_isOrder).cls yX12_isOrder yX12_isOrder ∈ gw := tb0 (List.mem_of_getElem? (i := 81) rfl) rfl
theorem ci_X12_isOrder : CIv yX12_isOrder cX12_isOrder 2 (some .boolean) 1 := ⟨qc_X12_isOrder, qi_yX12_isOrder, qs_X12_isOrder, qz_X12, by decide +kernel⟩
theorem qm_X12_324 : Cond.methodLink RX12 324 yX12_isOrder ∈ gw := tbt (tb8 (List.mem_of_getElem? (i := 46) rfl)) rfl
theorem qc_X12_rockRow : Cond.code yX12_rockRow cX12_rockRow 1 (some .int) ∈ gw := tbt (tb7 (List.mem_of_getElem? (i := 101) rfl)) rfl
theorem qt_yX12_rockRow : Cond.static yX12_rockRow ∈ gw := tbt (tb7 (List.mem_of_getElem? (i := 100) rfl)) rfl
theorem ci_X12_rockRow : CIs yX12_rockRow cX12_rockRow 1 (some .int) 1 := ⟨qc_X12_rockRow, qt_yX12_rockRow, qz_X12, by decide +kernel⟩
theorem qm_X12_246 : Cond.methodLink RX12 246 yX12_rockRow ∈ gw := tbt (tb7 (List.mem_of_getElem? (i := 99) rfl)) rfl
theorem qc_X12_directionOf : Cond.code yX12_directionOf cX12_directionOf 3 (some .int) ∈ gw := tbt (tb7 (List.mem_of_getElem? (i := 116) rfl)) rfl
theorem qi_yX12_directionOf : Cond.instanceMethod yX12_directionOf ∈ gw := tbt (tb7 (List.mem_of_getElem? (i := 115) rfl)) rfl
theorem qs_X12_directionOf : Cond.selects (yX12_directionOf).cls yX12_directionOf yX12_directionOf ∈ gw := tb0 (List.mem_of_getElem? (i := 66) rfl) rfl
theorem ci_X12_directionOf : CIv yX12_directionOf cX12_directionOf 3 (some .int) 2 := ⟨qc_X12_directionOf, qi_yX12_directionOf, qs_X12_directionOf, qz_X12, by decide +kernel⟩
theorem qm_X12_249 : Cond.methodLink RX12 249 yX12_directionOf ∈ gw := tbt (tb7 (List.mem_of_getElem? (i := 113) rfl)) rfl
theorem qm_X12_252 : Cond.methodLink RX12 252 yJ9_abs_0f7a4 ∈ gw := tbt (tb7 (List.mem_of_getElem? (i := 125) rfl)) rfl
theorem qt_yJ9_abs_0f7a4 : Cond.static yJ9_abs_0f7a4 ∈ gw := tbt (tb7 (List.mem_of_getElem? (i := 126) rfl)) rfl
theorem qc_J9_abs_0f7a4 : Cond.code yJ9_abs_0f7a4 cJ9_abs_0f7a4 1 (some .int) ∈ gw := tbt (tb7 (List.mem_of_getElem? (i := 127) rfl)) rfl
theorem qm_X12_137 : Cond.methodLink RX12 137 yJ9_min_7cf53 ∈ gw := tbt (tb6 (List.mem_of_getElem? (i := 231) rfl)) rfl
theorem qm_X12_255 : Cond.methodLink RX12 255 yJ9_max_7cf53 ∈ gw := tbt (tb7 (List.mem_of_getElem? (i := 128) rfl)) rfl
def fb_X12_areOrders_0 : List UInt8 := [0x2a, 0x1b, 0xb6, 0x01, 0x44, 0x99, 0x00, 0x14, 0x2a, 0x1c, 0xb6, 0x01, 0x44, 0x99, 0x00, 0x0c, 0x1b, 0x1c, 0x9f, 0x00, 0x07, 0x04, 0xa7, 0x00, 0x04, 0x03, 0xac]
theorem fl_X12_areOrders_0 {p j : Nat} {b : UInt8} (e : p = 0 + j) (h : fb_X12_areOrders_0[j]? = some b) : cX12_areOrders.data.toList[p]? = some b := fq_l (n := 64) (show (cX12_areOrders.data.toList.drop 0).take 64 = fb_X12_areOrders_0 by decide +kernel) e h
theorem dX12_areOrders_0 : decode cX12_areOrders 0 = .ok (.aload_n 0, 1) := fq1_42 (fl_X12_areOrders_0 (j := 0) rfl rfl)
theorem dX12_areOrders_1 : decode cX12_areOrders 1 = .ok (.iload_n 1, 1) := fq1_27 (fl_X12_areOrders_0 (j := 1) rfl rfl)
theorem dX12_areOrders_2 : decode cX12_areOrders 2 = .ok (.invokevirtual 324, 3) := fq3_182 (fl_X12_areOrders_0 (j := 2) rfl rfl) (fl_X12_areOrders_0 (j := 3) rfl rfl) (fl_X12_areOrders_0 (j := 4) rfl rfl) rfl
theorem dX12_areOrders_5 : decode cX12_areOrders 5 = .ok (.ifCond .eq 20, 3) := fq3_153 (fl_X12_areOrders_0 (j := 5) rfl rfl) (fl_X12_areOrders_0 (j := 6) rfl rfl) (fl_X12_areOrders_0 (j := 7) rfl rfl) (s2p rfl (bl rfl))
theorem dX12_areOrders_8 : decode cX12_areOrders 8 = .ok (.aload_n 0, 1) := fq1_42 (fl_X12_areOrders_0 (j := 8) rfl rfl)
theorem dX12_areOrders_9 : decode cX12_areOrders 9 = .ok (.iload_n 2, 1) := fq1_28 (fl_X12_areOrders_0 (j := 9) rfl rfl)
theorem dX12_areOrders_10 : decode cX12_areOrders 10 = .ok (.invokevirtual 324, 3) := fq3_182 (fl_X12_areOrders_0 (j := 10) rfl rfl) (fl_X12_areOrders_0 (j := 11) rfl rfl) (fl_X12_areOrders_0 (j := 12) rfl rfl) rfl
theorem dX12_areOrders_13 : decode cX12_areOrders 13 = .ok (.ifCond .eq 12, 3) := fq3_153 (fl_X12_areOrders_0 (j := 13) rfl rfl) (fl_X12_areOrders_0 (j := 14) rfl rfl) (fl_X12_areOrders_0 (j := 15) rfl rfl) (s2p rfl (bl rfl))
theorem dX12_areOrders_16 : decode cX12_areOrders 16 = .ok (.iload_n 1, 1) := fq1_27 (fl_X12_areOrders_0 (j := 16) rfl rfl)
theorem dX12_areOrders_17 : decode cX12_areOrders 17 = .ok (.iload_n 2, 1) := fq1_28 (fl_X12_areOrders_0 (j := 17) rfl rfl)
theorem dX12_areOrders_18 : decode cX12_areOrders 18 = .ok (.if_icmp .eq 7, 3) := fq3_159 (fl_X12_areOrders_0 (j := 18) rfl rfl) (fl_X12_areOrders_0 (j := 19) rfl rfl) (fl_X12_areOrders_0 (j := 20) rfl rfl) (s2p rfl (bl rfl))
theorem dX12_areOrders_21 : decode cX12_areOrders 21 = .ok (.iconst 1, 1) := fq1_4 (fl_X12_areOrders_0 (j := 21) rfl rfl)
theorem dX12_areOrders_22 : decode cX12_areOrders 22 = .ok (.goto 4, 3) := fq3_167 (fl_X12_areOrders_0 (j := 22) rfl rfl) (fl_X12_areOrders_0 (j := 23) rfl rfl) (fl_X12_areOrders_0 (j := 24) rfl rfl) (s2p rfl (bl rfl))
theorem dX12_areOrders_25 : decode cX12_areOrders 25 = .ok (.iconst 0, 1) := fq1_3 (fl_X12_areOrders_0 (j := 25) rfl rfl)
theorem dX12_areOrders_26 : decode cX12_areOrders 26 = .ok (.ireturn, 1) := fq1_172 (fl_X12_areOrders_0 (j := 26) rfl rfl)
def fb_X12_areTwo_0 : List UInt8 := [0x2a, 0x1b, 0xb6, 0x00, 0xf3, 0x99, 0x00, 0x14, 0x2a, 0x1c, 0xb6, 0x00, 0xf3, 0x99, 0x00, 0x0c, 0x1b, 0x1c, 0x9f, 0x00, 0x07, 0x04, 0xa7, 0x00, 0x04, 0x03, 0xac]
theorem fl_X12_areTwo_0 {p j : Nat} {b : UInt8} (e : p = 0 + j) (h : fb_X12_areTwo_0[j]? = some b) : cX12_areTwo.data.toList[p]? = some b := fq_l (n := 64) (show (cX12_areTwo.data.toList.drop 0).take 64 = fb_X12_areTwo_0 by decide +kernel) e h
theorem dX12_areTwo_0 : decode cX12_areTwo 0 = .ok (.aload_n 0, 1) := fq1_42 (fl_X12_areTwo_0 (j := 0) rfl rfl)
theorem dX12_areTwo_1 : decode cX12_areTwo 1 = .ok (.iload_n 1, 1) := fq1_27 (fl_X12_areTwo_0 (j := 1) rfl rfl)
theorem dX12_areTwo_2 : decode cX12_areTwo 2 = .ok (.invokevirtual 243, 3) := fq3_182 (fl_X12_areTwo_0 (j := 2) rfl rfl) (fl_X12_areTwo_0 (j := 3) rfl rfl) (fl_X12_areTwo_0 (j := 4) rfl rfl) rfl
theorem dX12_areTwo_5 : decode cX12_areTwo 5 = .ok (.ifCond .eq 20, 3) := fq3_153 (fl_X12_areTwo_0 (j := 5) rfl rfl) (fl_X12_areTwo_0 (j := 6) rfl rfl) (fl_X12_areTwo_0 (j := 7) rfl rfl) (s2p rfl (bl rfl))
theorem dX12_areTwo_8 : decode cX12_areTwo 8 = .ok (.aload_n 0, 1) := fq1_42 (fl_X12_areTwo_0 (j := 8) rfl rfl)
theorem dX12_areTwo_9 : decode cX12_areTwo 9 = .ok (.iload_n 2, 1) := fq1_28 (fl_X12_areTwo_0 (j := 9) rfl rfl)
theorem dX12_areTwo_10 : decode cX12_areTwo 10 = .ok (.invokevirtual 243, 3) := fq3_182 (fl_X12_areTwo_0 (j := 10) rfl rfl) (fl_X12_areTwo_0 (j := 11) rfl rfl) (fl_X12_areTwo_0 (j := 12) rfl rfl) rfl
theorem dX12_areTwo_13 : decode cX12_areTwo 13 = .ok (.ifCond .eq 12, 3) := fq3_153 (fl_X12_areTwo_0 (j := 13) rfl rfl) (fl_X12_areTwo_0 (j := 14) rfl rfl) (fl_X12_areTwo_0 (j := 15) rfl rfl) (s2p rfl (bl rfl))
theorem dX12_areTwo_16 : decode cX12_areTwo 16 = .ok (.iload_n 1, 1) := fq1_27 (fl_X12_areTwo_0 (j := 16) rfl rfl)
theorem dX12_areTwo_17 : decode cX12_areTwo 17 = .ok (.iload_n 2, 1) := fq1_28 (fl_X12_areTwo_0 (j := 17) rfl rfl)
theorem dX12_areTwo_18 : decode cX12_areTwo 18 = .ok (.if_icmp .eq 7, 3) := fq3_159 (fl_X12_areTwo_0 (j := 18) rfl rfl) (fl_X12_areTwo_0 (j := 19) rfl rfl) (fl_X12_areTwo_0 (j := 20) rfl rfl) (s2p rfl (bl rfl))
theorem dX12_areTwo_21 : decode cX12_areTwo 21 = .ok (.iconst 1, 1) := fq1_4 (fl_X12_areTwo_0 (j := 21) rfl rfl)
theorem dX12_areTwo_22 : decode cX12_areTwo 22 = .ok (.goto 4, 3) := fq3_167 (fl_X12_areTwo_0 (j := 22) rfl rfl) (fl_X12_areTwo_0 (j := 23) rfl rfl) (fl_X12_areTwo_0 (j := 24) rfl rfl) (s2p rfl (bl rfl))
theorem dX12_areTwo_25 : decode cX12_areTwo 25 = .ok (.iconst 0, 1) := fq1_3 (fl_X12_areTwo_0 (j := 25) rfl rfl)
theorem dX12_areTwo_26 : decode cX12_areTwo 26 = .ok (.ireturn, 1) := fq1_172 (fl_X12_areTwo_0 (j := 26) rfl rfl)
def fb_X12_directionOf_0 : List UInt8 := [0x2a, 0xb4, 0x00, 0x07, 0x1b, 0xb8, 0x00, 0xf6, 0x05, 0x60, 0x2e, 0x10, 0x0c, 0x1c, 0x68, 0x2a, 0xb4, 0x00, 0x07, 0x1b, 0xb8, 0x00, 0xf6, 0x04, 0x60, 0x2e, 0x6c, 0x60, 0x10, 0x0c, 0x70, 0xac]
theorem fl_X12_directionOf_0 {p j : Nat} {b : UInt8} (e : p = 0 + j) (h : fb_X12_directionOf_0[j]? = some b) : cX12_directionOf.data.toList[p]? = some b := fq_l (n := 64) (show (cX12_directionOf.data.toList.drop 0).take 64 = fb_X12_directionOf_0 by decide +kernel) e h
theorem dX12_directionOf_0 : decode cX12_directionOf 0 = .ok (.aload_n 0, 1) := fq1_42 (fl_X12_directionOf_0 (j := 0) rfl rfl)
theorem dX12_directionOf_1 : decode cX12_directionOf 1 = .ok (.getfield 7, 3) := fq3_180 (fl_X12_directionOf_0 (j := 1) rfl rfl) (fl_X12_directionOf_0 (j := 2) rfl rfl) (fl_X12_directionOf_0 (j := 3) rfl rfl) rfl
theorem dX12_directionOf_4 : decode cX12_directionOf 4 = .ok (.iload_n 1, 1) := fq1_27 (fl_X12_directionOf_0 (j := 4) rfl rfl)
theorem dX12_directionOf_5 : decode cX12_directionOf 5 = .ok (.invokestatic 246, 3) := fq3_184 (fl_X12_directionOf_0 (j := 5) rfl rfl) (fl_X12_directionOf_0 (j := 6) rfl rfl) (fl_X12_directionOf_0 (j := 7) rfl rfl) rfl
theorem dX12_directionOf_8 : decode cX12_directionOf 8 = .ok (.iconst 2, 1) := fq1_5 (fl_X12_directionOf_0 (j := 8) rfl rfl)
theorem dX12_directionOf_9 : decode cX12_directionOf 9 = .ok (.iadd, 1) := fq1_96 (fl_X12_directionOf_0 (j := 9) rfl rfl)
theorem dX12_directionOf_10 : decode cX12_directionOf 10 = .ok (.iaload, 1) := fq1_46 (fl_X12_directionOf_0 (j := 10) rfl rfl)
theorem dX12_directionOf_11 : decode cX12_directionOf 11 = .ok (.bipush 12, 2) := fq2_16 (fl_X12_directionOf_0 (j := 11) rfl rfl) (fl_X12_directionOf_0 (j := 12) rfl rfl) (s1p rfl (bl rfl))
theorem dX12_directionOf_13 : decode cX12_directionOf 13 = .ok (.iload_n 2, 1) := fq1_28 (fl_X12_directionOf_0 (j := 13) rfl rfl)
theorem dX12_directionOf_14 : decode cX12_directionOf 14 = .ok (.imul, 1) := fq1_104 (fl_X12_directionOf_0 (j := 14) rfl rfl)
theorem dX12_directionOf_15 : decode cX12_directionOf 15 = .ok (.aload_n 0, 1) := fq1_42 (fl_X12_directionOf_0 (j := 15) rfl rfl)
theorem dX12_directionOf_16 : decode cX12_directionOf 16 = .ok (.getfield 7, 3) := fq3_180 (fl_X12_directionOf_0 (j := 16) rfl rfl) (fl_X12_directionOf_0 (j := 17) rfl rfl) (fl_X12_directionOf_0 (j := 18) rfl rfl) rfl
theorem dX12_directionOf_19 : decode cX12_directionOf 19 = .ok (.iload_n 1, 1) := fq1_27 (fl_X12_directionOf_0 (j := 19) rfl rfl)
theorem dX12_directionOf_20 : decode cX12_directionOf 20 = .ok (.invokestatic 246, 3) := fq3_184 (fl_X12_directionOf_0 (j := 20) rfl rfl) (fl_X12_directionOf_0 (j := 21) rfl rfl) (fl_X12_directionOf_0 (j := 22) rfl rfl) rfl
theorem dX12_directionOf_23 : decode cX12_directionOf 23 = .ok (.iconst 1, 1) := fq1_4 (fl_X12_directionOf_0 (j := 23) rfl rfl)
theorem dX12_directionOf_24 : decode cX12_directionOf 24 = .ok (.iadd, 1) := fq1_96 (fl_X12_directionOf_0 (j := 24) rfl rfl)
theorem dX12_directionOf_25 : decode cX12_directionOf 25 = .ok (.iaload, 1) := fq1_46 (fl_X12_directionOf_0 (j := 25) rfl rfl)
theorem dX12_directionOf_26 : decode cX12_directionOf 26 = .ok (.idiv, 1) := fq1_108 (fl_X12_directionOf_0 (j := 26) rfl rfl)
theorem dX12_directionOf_27 : decode cX12_directionOf 27 = .ok (.iadd, 1) := fq1_96 (fl_X12_directionOf_0 (j := 27) rfl rfl)
theorem dX12_directionOf_28 : decode cX12_directionOf 28 = .ok (.bipush 12, 2) := fq2_16 (fl_X12_directionOf_0 (j := 28) rfl rfl) (fl_X12_directionOf_0 (j := 29) rfl rfl) (s1p rfl (bl rfl))
theorem dX12_directionOf_30 : decode cX12_directionOf 30 = .ok (.irem, 1) := fq1_112 (fl_X12_directionOf_0 (j := 30) rfl rfl)
theorem dX12_directionOf_31 : decode cX12_directionOf 31 = .ok (.ireturn, 1) := fq1_172 (fl_X12_directionOf_0 (j := 31) rfl rfl)
def fb_X12_givenRow_0 : List UInt8 := [0x10, 0x4e, 0x05, 0x1a, 0x68, 0x60, 0xac]
theorem fl_X12_givenRow_0 {p j : Nat} {b : UInt8} (e : p = 0 + j) (h : fb_X12_givenRow_0[j]? = some b) : cX12_givenRow.data.toList[p]? = some b := fq_l (n := 64) (show (cX12_givenRow.data.toList.drop 0).take 64 = fb_X12_givenRow_0 by decide +kernel) e h
theorem dX12_givenRow_0 : decode cX12_givenRow 0 = .ok (.bipush 78, 2) := fq2_16 (fl_X12_givenRow_0 (j := 0) rfl rfl) (fl_X12_givenRow_0 (j := 1) rfl rfl) (s1p rfl (bl rfl))
theorem dX12_givenRow_2 : decode cX12_givenRow 2 = .ok (.iconst 2, 1) := fq1_5 (fl_X12_givenRow_0 (j := 2) rfl rfl)
theorem dX12_givenRow_3 : decode cX12_givenRow 3 = .ok (.iload_n 0, 1) := fq1_26 (fl_X12_givenRow_0 (j := 3) rfl rfl)
theorem dX12_givenRow_4 : decode cX12_givenRow 4 = .ok (.imul, 1) := fq1_104 (fl_X12_givenRow_0 (j := 4) rfl rfl)
theorem dX12_givenRow_5 : decode cX12_givenRow 5 = .ok (.iadd, 1) := fq1_96 (fl_X12_givenRow_0 (j := 5) rfl rfl)
theorem dX12_givenRow_6 : decode cX12_givenRow 6 = .ok (.ireturn, 1) := fq1_172 (fl_X12_givenRow_0 (j := 6) rfl rfl)
def fb_X12_isAsked_0 : List UInt8 := [0x1a, 0x9b, 0x00, 0x0e, 0x1a, 0x11, 0x01, 0xf4, 0xa3, 0x00, 0x07, 0x04, 0xa7, 0x00, 0x04, 0x03, 0xac]
theorem fl_X12_isAsked_0 {p j : Nat} {b : UInt8} (e : p = 0 + j) (h : fb_X12_isAsked_0[j]? = some b) : cX12_isAsked.data.toList[p]? = some b := fq_l (n := 64) (show (cX12_isAsked.data.toList.drop 0).take 64 = fb_X12_isAsked_0 by decide +kernel) e h
theorem dX12_isAsked_0 : decode cX12_isAsked 0 = .ok (.iload_n 0, 1) := fq1_26 (fl_X12_isAsked_0 (j := 0) rfl rfl)
theorem dX12_isAsked_1 : decode cX12_isAsked 1 = .ok (.ifCond .lt 14, 3) := fq3_155 (fl_X12_isAsked_0 (j := 1) rfl rfl) (fl_X12_isAsked_0 (j := 2) rfl rfl) (fl_X12_isAsked_0 (j := 3) rfl rfl) (s2p rfl (bl rfl))
theorem dX12_isAsked_4 : decode cX12_isAsked 4 = .ok (.iload_n 0, 1) := fq1_26 (fl_X12_isAsked_0 (j := 4) rfl rfl)
theorem dX12_isAsked_5 : decode cX12_isAsked 5 = .ok (.sipush 500, 3) := fq3_17 (fl_X12_isAsked_0 (j := 5) rfl rfl) (fl_X12_isAsked_0 (j := 6) rfl rfl) (fl_X12_isAsked_0 (j := 7) rfl rfl) (s2p rfl (bl rfl))
theorem dX12_isAsked_8 : decode cX12_isAsked 8 = .ok (.if_icmp .gt 7, 3) := fq3_163 (fl_X12_isAsked_0 (j := 8) rfl rfl) (fl_X12_isAsked_0 (j := 9) rfl rfl) (fl_X12_isAsked_0 (j := 10) rfl rfl) (s2p rfl (bl rfl))
theorem dX12_isAsked_11 : decode cX12_isAsked 11 = .ok (.iconst 1, 1) := fq1_4 (fl_X12_isAsked_0 (j := 11) rfl rfl)
theorem dX12_isAsked_12 : decode cX12_isAsked 12 = .ok (.goto 4, 3) := fq3_167 (fl_X12_isAsked_0 (j := 12) rfl rfl) (fl_X12_isAsked_0 (j := 13) rfl rfl) (fl_X12_isAsked_0 (j := 14) rfl rfl) (s2p rfl (bl rfl))
theorem dX12_isAsked_15 : decode cX12_isAsked 15 = .ok (.iconst 0, 1) := fq1_3 (fl_X12_isAsked_0 (j := 15) rfl rfl)
theorem dX12_isAsked_16 : decode cX12_isAsked 16 = .ok (.ireturn, 1) := fq1_172 (fl_X12_isAsked_0 (j := 16) rfl rfl)
def fb_X12_isIced_0 : List UInt8 := [0x03, 0x36, 0x04, 0x15, 0x04, 0x2a, 0xb4, 0x00, 0x07, 0x04, 0x2e, 0xa2, 0x00, 0x6a, 0x10, 0x2e, 0x07, 0x15, 0x04, 0x68, 0x60, 0x36, 0x05, 0x2a, 0xb4, 0x00, 0x07, 0x15, 0x05, 0x2e, 0x1b, 0xa0, 0x00, 0x10, 0x2a, 0xb4, 0x00, 0x07, 0x15, 0x05, 0x04, 0x60, 0x2e, 0x1c, 0x9f, 0x00, 0x1b, 0x2a, 0xb4, 0x00, 0x07, 0x15, 0x05, 0x2e, 0x1c, 0xa0, 0x00, 0x14, 0x2a, 0xb4, 0x00, 0x07, 0x15, 0x05]
theorem fl_X12_isIced_0 {p j : Nat} {b : UInt8} (e : p = 0 + j) (h : fb_X12_isIced_0[j]? = some b) : cX12_isIced.data.toList[p]? = some b := fq_l (n := 64) (show (cX12_isIced.data.toList.drop 0).take 64 = fb_X12_isIced_0 by decide +kernel) e h
theorem dX12_isIced_0 : decode cX12_isIced 0 = .ok (.iconst 0, 1) := fq1_3 (fl_X12_isIced_0 (j := 0) rfl rfl)
theorem dX12_isIced_1 : decode cX12_isIced 1 = .ok (.istore 4, 2) := fq2_54 (fl_X12_isIced_0 (j := 1) rfl rfl) (fl_X12_isIced_0 (j := 2) rfl rfl) rfl
theorem dX12_isIced_3 : decode cX12_isIced 3 = .ok (.iload 4, 2) := fq2_21 (fl_X12_isIced_0 (j := 3) rfl rfl) (fl_X12_isIced_0 (j := 4) rfl rfl) rfl
theorem dX12_isIced_5 : decode cX12_isIced 5 = .ok (.aload_n 0, 1) := fq1_42 (fl_X12_isIced_0 (j := 5) rfl rfl)
theorem dX12_isIced_6 : decode cX12_isIced 6 = .ok (.getfield 7, 3) := fq3_180 (fl_X12_isIced_0 (j := 6) rfl rfl) (fl_X12_isIced_0 (j := 7) rfl rfl) (fl_X12_isIced_0 (j := 8) rfl rfl) rfl
theorem dX12_isIced_9 : decode cX12_isIced 9 = .ok (.iconst 1, 1) := fq1_4 (fl_X12_isIced_0 (j := 9) rfl rfl)
theorem dX12_isIced_10 : decode cX12_isIced 10 = .ok (.iaload, 1) := fq1_46 (fl_X12_isIced_0 (j := 10) rfl rfl)
theorem dX12_isIced_11 : decode cX12_isIced 11 = .ok (.if_icmp .ge 106, 3) := fq3_162 (fl_X12_isIced_0 (j := 11) rfl rfl) (fl_X12_isIced_0 (j := 12) rfl rfl) (fl_X12_isIced_0 (j := 13) rfl rfl) (s2p rfl (bl rfl))
theorem dX12_isIced_14 : decode cX12_isIced 14 = .ok (.bipush 46, 2) := fq2_16 (fl_X12_isIced_0 (j := 14) rfl rfl) (fl_X12_isIced_0 (j := 15) rfl rfl) (s1p rfl (bl rfl))
theorem dX12_isIced_16 : decode cX12_isIced 16 = .ok (.iconst 4, 1) := fq1_7 (fl_X12_isIced_0 (j := 16) rfl rfl)
theorem dX12_isIced_17 : decode cX12_isIced 17 = .ok (.iload 4, 2) := fq2_21 (fl_X12_isIced_0 (j := 17) rfl rfl) (fl_X12_isIced_0 (j := 18) rfl rfl) rfl
theorem dX12_isIced_19 : decode cX12_isIced 19 = .ok (.imul, 1) := fq1_104 (fl_X12_isIced_0 (j := 19) rfl rfl)
theorem dX12_isIced_20 : decode cX12_isIced 20 = .ok (.iadd, 1) := fq1_96 (fl_X12_isIced_0 (j := 20) rfl rfl)
theorem dX12_isIced_21 : decode cX12_isIced 21 = .ok (.istore 5, 2) := fq2_54 (fl_X12_isIced_0 (j := 21) rfl rfl) (fl_X12_isIced_0 (j := 22) rfl rfl) rfl
theorem dX12_isIced_23 : decode cX12_isIced 23 = .ok (.aload_n 0, 1) := fq1_42 (fl_X12_isIced_0 (j := 23) rfl rfl)
theorem dX12_isIced_24 : decode cX12_isIced 24 = .ok (.getfield 7, 3) := fq3_180 (fl_X12_isIced_0 (j := 24) rfl rfl) (fl_X12_isIced_0 (j := 25) rfl rfl) (fl_X12_isIced_0 (j := 26) rfl rfl) rfl
theorem dX12_isIced_27 : decode cX12_isIced 27 = .ok (.iload 5, 2) := fq2_21 (fl_X12_isIced_0 (j := 27) rfl rfl) (fl_X12_isIced_0 (j := 28) rfl rfl) rfl
theorem dX12_isIced_29 : decode cX12_isIced 29 = .ok (.iaload, 1) := fq1_46 (fl_X12_isIced_0 (j := 29) rfl rfl)
theorem dX12_isIced_30 : decode cX12_isIced 30 = .ok (.iload_n 1, 1) := fq1_27 (fl_X12_isIced_0 (j := 30) rfl rfl)
theorem dX12_isIced_31 : decode cX12_isIced 31 = .ok (.if_icmp .ne 16, 3) := fq3_160 (fl_X12_isIced_0 (j := 31) rfl rfl) (fl_X12_isIced_0 (j := 32) rfl rfl) (fl_X12_isIced_0 (j := 33) rfl rfl) (s2p rfl (bl rfl))
theorem dX12_isIced_34 : decode cX12_isIced 34 = .ok (.aload_n 0, 1) := fq1_42 (fl_X12_isIced_0 (j := 34) rfl rfl)
theorem dX12_isIced_35 : decode cX12_isIced 35 = .ok (.getfield 7, 3) := fq3_180 (fl_X12_isIced_0 (j := 35) rfl rfl) (fl_X12_isIced_0 (j := 36) rfl rfl) (fl_X12_isIced_0 (j := 37) rfl rfl) rfl
theorem dX12_isIced_38 : decode cX12_isIced 38 = .ok (.iload 5, 2) := fq2_21 (fl_X12_isIced_0 (j := 38) rfl rfl) (fl_X12_isIced_0 (j := 39) rfl rfl) rfl
theorem dX12_isIced_40 : decode cX12_isIced 40 = .ok (.iconst 1, 1) := fq1_4 (fl_X12_isIced_0 (j := 40) rfl rfl)
theorem dX12_isIced_41 : decode cX12_isIced 41 = .ok (.iadd, 1) := fq1_96 (fl_X12_isIced_0 (j := 41) rfl rfl)
theorem dX12_isIced_42 : decode cX12_isIced 42 = .ok (.iaload, 1) := fq1_46 (fl_X12_isIced_0 (j := 42) rfl rfl)
theorem dX12_isIced_43 : decode cX12_isIced 43 = .ok (.iload_n 2, 1) := fq1_28 (fl_X12_isIced_0 (j := 43) rfl rfl)
theorem dX12_isIced_44 : decode cX12_isIced 44 = .ok (.if_icmp .eq 27, 3) := fq3_159 (fl_X12_isIced_0 (j := 44) rfl rfl) (fl_X12_isIced_0 (j := 45) rfl rfl) (fl_X12_isIced_0 (j := 46) rfl rfl) (s2p rfl (bl rfl))
theorem dX12_isIced_47 : decode cX12_isIced 47 = .ok (.aload_n 0, 1) := fq1_42 (fl_X12_isIced_0 (j := 47) rfl rfl)
theorem dX12_isIced_48 : decode cX12_isIced 48 = .ok (.getfield 7, 3) := fq3_180 (fl_X12_isIced_0 (j := 48) rfl rfl) (fl_X12_isIced_0 (j := 49) rfl rfl) (fl_X12_isIced_0 (j := 50) rfl rfl) rfl
theorem dX12_isIced_51 : decode cX12_isIced 51 = .ok (.iload 5, 2) := fq2_21 (fl_X12_isIced_0 (j := 51) rfl rfl) (fl_X12_isIced_0 (j := 52) rfl rfl) rfl
theorem dX12_isIced_53 : decode cX12_isIced 53 = .ok (.iaload, 1) := fq1_46 (fl_X12_isIced_0 (j := 53) rfl rfl)
theorem dX12_isIced_54 : decode cX12_isIced 54 = .ok (.iload_n 2, 1) := fq1_28 (fl_X12_isIced_0 (j := 54) rfl rfl)
theorem dX12_isIced_55 : decode cX12_isIced 55 = .ok (.if_icmp .ne 20, 3) := fq3_160 (fl_X12_isIced_0 (j := 55) rfl rfl) (fl_X12_isIced_0 (j := 56) rfl rfl) (fl_X12_isIced_0 (j := 57) rfl rfl) (s2p rfl (bl rfl))
theorem dX12_isIced_58 : decode cX12_isIced 58 = .ok (.aload_n 0, 1) := fq1_42 (fl_X12_isIced_0 (j := 58) rfl rfl)
theorem dX12_isIced_59 : decode cX12_isIced 59 = .ok (.getfield 7, 3) := fq3_180 (fl_X12_isIced_0 (j := 59) rfl rfl) (fl_X12_isIced_0 (j := 60) rfl rfl) (fl_X12_isIced_0 (j := 61) rfl rfl) rfl
theorem dX12_isIced_62 : decode cX12_isIced 62 = .ok (.iload 5, 2) := fq2_21 (fl_X12_isIced_0 (j := 62) rfl rfl) (fl_X12_isIced_0 (j := 63) rfl rfl) rfl
def fb_X12_isIced_1 : List UInt8 := [0x04, 0x60, 0x2e, 0x1b, 0xa0, 0x00, 0x07, 0x04, 0xa7, 0x00, 0x04, 0x03, 0x36, 0x06, 0x15, 0x06, 0x99, 0x00, 0x1f, 0x1d, 0x2a, 0xb4, 0x00, 0x07, 0x15, 0x05, 0x05, 0x60, 0x2e, 0xa1, 0x00, 0x12, 0x1d, 0x2a, 0xb4, 0x00, 0x07, 0x15, 0x05, 0x06, 0x60, 0x2e, 0xa3, 0x00, 0x05, 0x04, 0xac, 0x84, 0x04, 0x01, 0xa7, 0xff, 0x91, 0x03, 0xac]
theorem fl_X12_isIced_1 {p j : Nat} {b : UInt8} (e : p = 64 + j) (h : fb_X12_isIced_1[j]? = some b) : cX12_isIced.data.toList[p]? = some b := fq_l (n := 64) (show (cX12_isIced.data.toList.drop 64).take 64 = fb_X12_isIced_1 by decide +kernel) e h
theorem dX12_isIced_64 : decode cX12_isIced 64 = .ok (.iconst 1, 1) := fq1_4 (fl_X12_isIced_1 (j := 0) rfl rfl)
theorem dX12_isIced_65 : decode cX12_isIced 65 = .ok (.iadd, 1) := fq1_96 (fl_X12_isIced_1 (j := 1) rfl rfl)
theorem dX12_isIced_66 : decode cX12_isIced 66 = .ok (.iaload, 1) := fq1_46 (fl_X12_isIced_1 (j := 2) rfl rfl)
theorem dX12_isIced_67 : decode cX12_isIced 67 = .ok (.iload_n 1, 1) := fq1_27 (fl_X12_isIced_1 (j := 3) rfl rfl)
theorem dX12_isIced_68 : decode cX12_isIced 68 = .ok (.if_icmp .ne 7, 3) := fq3_160 (fl_X12_isIced_1 (j := 4) rfl rfl) (fl_X12_isIced_1 (j := 5) rfl rfl) (fl_X12_isIced_1 (j := 6) rfl rfl) (s2p rfl (bl rfl))
theorem dX12_isIced_71 : decode cX12_isIced 71 = .ok (.iconst 1, 1) := fq1_4 (fl_X12_isIced_1 (j := 7) rfl rfl)
theorem dX12_isIced_72 : decode cX12_isIced 72 = .ok (.goto 4, 3) := fq3_167 (fl_X12_isIced_1 (j := 8) rfl rfl) (fl_X12_isIced_1 (j := 9) rfl rfl) (fl_X12_isIced_1 (j := 10) rfl rfl) (s2p rfl (bl rfl))
theorem dX12_isIced_75 : decode cX12_isIced 75 = .ok (.iconst 0, 1) := fq1_3 (fl_X12_isIced_1 (j := 11) rfl rfl)
theorem dX12_isIced_76 : decode cX12_isIced 76 = .ok (.istore 6, 2) := fq2_54 (fl_X12_isIced_1 (j := 12) rfl rfl) (fl_X12_isIced_1 (j := 13) rfl rfl) rfl
theorem dX12_isIced_78 : decode cX12_isIced 78 = .ok (.iload 6, 2) := fq2_21 (fl_X12_isIced_1 (j := 14) rfl rfl) (fl_X12_isIced_1 (j := 15) rfl rfl) rfl
theorem dX12_isIced_80 : decode cX12_isIced 80 = .ok (.ifCond .eq 31, 3) := fq3_153 (fl_X12_isIced_1 (j := 16) rfl rfl) (fl_X12_isIced_1 (j := 17) rfl rfl) (fl_X12_isIced_1 (j := 18) rfl rfl) (s2p rfl (bl rfl))
theorem dX12_isIced_83 : decode cX12_isIced 83 = .ok (.iload_n 3, 1) := fq1_29 (fl_X12_isIced_1 (j := 19) rfl rfl)
theorem dX12_isIced_84 : decode cX12_isIced 84 = .ok (.aload_n 0, 1) := fq1_42 (fl_X12_isIced_1 (j := 20) rfl rfl)
theorem dX12_isIced_85 : decode cX12_isIced 85 = .ok (.getfield 7, 3) := fq3_180 (fl_X12_isIced_1 (j := 21) rfl rfl) (fl_X12_isIced_1 (j := 22) rfl rfl) (fl_X12_isIced_1 (j := 23) rfl rfl) rfl
theorem dX12_isIced_88 : decode cX12_isIced 88 = .ok (.iload 5, 2) := fq2_21 (fl_X12_isIced_1 (j := 24) rfl rfl) (fl_X12_isIced_1 (j := 25) rfl rfl) rfl
theorem dX12_isIced_90 : decode cX12_isIced 90 = .ok (.iconst 2, 1) := fq1_5 (fl_X12_isIced_1 (j := 26) rfl rfl)
theorem dX12_isIced_91 : decode cX12_isIced 91 = .ok (.iadd, 1) := fq1_96 (fl_X12_isIced_1 (j := 27) rfl rfl)
theorem dX12_isIced_92 : decode cX12_isIced 92 = .ok (.iaload, 1) := fq1_46 (fl_X12_isIced_1 (j := 28) rfl rfl)
theorem dX12_isIced_93 : decode cX12_isIced 93 = .ok (.if_icmp .lt 18, 3) := fq3_161 (fl_X12_isIced_1 (j := 29) rfl rfl) (fl_X12_isIced_1 (j := 30) rfl rfl) (fl_X12_isIced_1 (j := 31) rfl rfl) (s2p rfl (bl rfl))
theorem dX12_isIced_96 : decode cX12_isIced 96 = .ok (.iload_n 3, 1) := fq1_29 (fl_X12_isIced_1 (j := 32) rfl rfl)
theorem dX12_isIced_97 : decode cX12_isIced 97 = .ok (.aload_n 0, 1) := fq1_42 (fl_X12_isIced_1 (j := 33) rfl rfl)
theorem dX12_isIced_98 : decode cX12_isIced 98 = .ok (.getfield 7, 3) := fq3_180 (fl_X12_isIced_1 (j := 34) rfl rfl) (fl_X12_isIced_1 (j := 35) rfl rfl) (fl_X12_isIced_1 (j := 36) rfl rfl) rfl
theorem dX12_isIced_101 : decode cX12_isIced 101 = .ok (.iload 5, 2) := fq2_21 (fl_X12_isIced_1 (j := 37) rfl rfl) (fl_X12_isIced_1 (j := 38) rfl rfl) rfl
theorem dX12_isIced_103 : decode cX12_isIced 103 = .ok (.iconst 3, 1) := fq1_6 (fl_X12_isIced_1 (j := 39) rfl rfl)
theorem dX12_isIced_104 : decode cX12_isIced 104 = .ok (.iadd, 1) := fq1_96 (fl_X12_isIced_1 (j := 40) rfl rfl)
theorem dX12_isIced_105 : decode cX12_isIced 105 = .ok (.iaload, 1) := fq1_46 (fl_X12_isIced_1 (j := 41) rfl rfl)
theorem dX12_isIced_106 : decode cX12_isIced 106 = .ok (.if_icmp .gt 5, 3) := fq3_163 (fl_X12_isIced_1 (j := 42) rfl rfl) (fl_X12_isIced_1 (j := 43) rfl rfl) (fl_X12_isIced_1 (j := 44) rfl rfl) (s2p rfl (bl rfl))
theorem dX12_isIced_109 : decode cX12_isIced 109 = .ok (.iconst 1, 1) := fq1_4 (fl_X12_isIced_1 (j := 45) rfl rfl)
theorem dX12_isIced_110 : decode cX12_isIced 110 = .ok (.ireturn, 1) := fq1_172 (fl_X12_isIced_1 (j := 46) rfl rfl)
theorem dX12_isIced_111 : decode cX12_isIced 111 = .ok (.iinc 4 1, 3) := fq3_132 (fl_X12_isIced_1 (j := 47) rfl rfl) (fl_X12_isIced_1 (j := 48) rfl rfl) (fl_X12_isIced_1 (j := 49) rfl rfl) rfl (s1p rfl (bl rfl))
theorem dX12_isIced_114 : decode cX12_isIced 114 = .ok (.goto (-111), 3) := fq3_167 (fl_X12_isIced_1 (j := 50) rfl rfl) (fl_X12_isIced_1 (j := 51) rfl rfl) (fl_X12_isIced_1 (j := 52) rfl rfl) (by decide)
theorem dX12_isIced_117 : decode cX12_isIced 117 = .ok (.iconst 0, 1) := fq1_3 (fl_X12_isIced_1 (j := 53) rfl rfl)
theorem dX12_isIced_118 : decode cX12_isIced 118 = .ok (.ireturn, 1) := fq1_172 (fl_X12_isIced_1 (j := 54) rfl rfl)
def fb_X12_isNews_0 : List UInt8 := [0x2a, 0x1b, 0xb6, 0x00, 0xf3, 0x99, 0x00, 0x0e, 0x1c, 0xb8, 0x01, 0x0c, 0x99, 0x00, 0x07, 0x04, 0xa7, 0x00, 0x04, 0x03, 0xac]
theorem fl_X12_isNews_0 {p j : Nat} {b : UInt8} (e : p = 0 + j) (h : fb_X12_isNews_0[j]? = some b) : cX12_isNews.data.toList[p]? = some b := fq_l (n := 64) (show (cX12_isNews.data.toList.drop 0).take 64 = fb_X12_isNews_0 by decide +kernel) e h
theorem dX12_isNews_0 : decode cX12_isNews 0 = .ok (.aload_n 0, 1) := fq1_42 (fl_X12_isNews_0 (j := 0) rfl rfl)
theorem dX12_isNews_1 : decode cX12_isNews 1 = .ok (.iload_n 1, 1) := fq1_27 (fl_X12_isNews_0 (j := 1) rfl rfl)
theorem dX12_isNews_2 : decode cX12_isNews 2 = .ok (.invokevirtual 243, 3) := fq3_182 (fl_X12_isNews_0 (j := 2) rfl rfl) (fl_X12_isNews_0 (j := 3) rfl rfl) (fl_X12_isNews_0 (j := 4) rfl rfl) rfl
theorem dX12_isNews_5 : decode cX12_isNews 5 = .ok (.ifCond .eq 14, 3) := fq3_153 (fl_X12_isNews_0 (j := 5) rfl rfl) (fl_X12_isNews_0 (j := 6) rfl rfl) (fl_X12_isNews_0 (j := 7) rfl rfl) (s2p rfl (bl rfl))
theorem dX12_isNews_8 : decode cX12_isNews 8 = .ok (.iload_n 2, 1) := fq1_28 (fl_X12_isNews_0 (j := 8) rfl rfl)
theorem dX12_isNews_9 : decode cX12_isNews 9 = .ok (.invokestatic 268, 3) := fq3_184 (fl_X12_isNews_0 (j := 9) rfl rfl) (fl_X12_isNews_0 (j := 10) rfl rfl) (fl_X12_isNews_0 (j := 11) rfl rfl) rfl
theorem dX12_isNews_12 : decode cX12_isNews 12 = .ok (.ifCond .eq 7, 3) := fq3_153 (fl_X12_isNews_0 (j := 12) rfl rfl) (fl_X12_isNews_0 (j := 13) rfl rfl) (fl_X12_isNews_0 (j := 14) rfl rfl) (s2p rfl (bl rfl))
theorem dX12_isNews_15 : decode cX12_isNews 15 = .ok (.iconst 1, 1) := fq1_4 (fl_X12_isNews_0 (j := 15) rfl rfl)
theorem dX12_isNews_16 : decode cX12_isNews 16 = .ok (.goto 4, 3) := fq3_167 (fl_X12_isNews_0 (j := 16) rfl rfl) (fl_X12_isNews_0 (j := 17) rfl rfl) (fl_X12_isNews_0 (j := 18) rfl rfl) (s2p rfl (bl rfl))
theorem dX12_isNews_19 : decode cX12_isNews 19 = .ok (.iconst 0, 1) := fq1_3 (fl_X12_isNews_0 (j := 19) rfl rfl)
theorem dX12_isNews_20 : decode cX12_isNews 20 = .ok (.ireturn, 1) := fq1_172 (fl_X12_isNews_0 (j := 20) rfl rfl)
def fb_X12_isOrder_0 : List UInt8 := [0x1b, 0x9b, 0x00, 0x11, 0x1b, 0x2a, 0xb4, 0x00, 0x07, 0x07, 0x2e, 0xa2, 0x00, 0x07, 0x04, 0xa7, 0x00, 0x04, 0x03, 0xac]
theorem fl_X12_isOrder_0 {p j : Nat} {b : UInt8} (e : p = 0 + j) (h : fb_X12_isOrder_0[j]? = some b) : cX12_isOrder.data.toList[p]? = some b := fq_l (n := 64) (show (cX12_isOrder.data.toList.drop 0).take 64 = fb_X12_isOrder_0 by decide +kernel) e h
theorem dX12_isOrder_0 : decode cX12_isOrder 0 = .ok (.iload_n 1, 1) := fq1_27 (fl_X12_isOrder_0 (j := 0) rfl rfl)
theorem dX12_isOrder_1 : decode cX12_isOrder 1 = .ok (.ifCond .lt 17, 3) := fq3_155 (fl_X12_isOrder_0 (j := 1) rfl rfl) (fl_X12_isOrder_0 (j := 2) rfl rfl) (fl_X12_isOrder_0 (j := 3) rfl rfl) (s2p rfl (bl rfl))
theorem dX12_isOrder_4 : decode cX12_isOrder 4 = .ok (.iload_n 1, 1) := fq1_27 (fl_X12_isOrder_0 (j := 4) rfl rfl)
theorem dX12_isOrder_5 : decode cX12_isOrder 5 = .ok (.aload_n 0, 1) := fq1_42 (fl_X12_isOrder_0 (j := 5) rfl rfl)
theorem dX12_isOrder_6 : decode cX12_isOrder 6 = .ok (.getfield 7, 3) := fq3_180 (fl_X12_isOrder_0 (j := 6) rfl rfl) (fl_X12_isOrder_0 (j := 7) rfl rfl) (fl_X12_isOrder_0 (j := 8) rfl rfl) rfl
theorem dX12_isOrder_9 : decode cX12_isOrder 9 = .ok (.iconst 4, 1) := fq1_7 (fl_X12_isOrder_0 (j := 9) rfl rfl)
theorem dX12_isOrder_10 : decode cX12_isOrder 10 = .ok (.iaload, 1) := fq1_46 (fl_X12_isOrder_0 (j := 10) rfl rfl)
theorem dX12_isOrder_11 : decode cX12_isOrder 11 = .ok (.if_icmp .ge 7, 3) := fq3_162 (fl_X12_isOrder_0 (j := 11) rfl rfl) (fl_X12_isOrder_0 (j := 12) rfl rfl) (fl_X12_isOrder_0 (j := 13) rfl rfl) (s2p rfl (bl rfl))
theorem dX12_isOrder_14 : decode cX12_isOrder 14 = .ok (.iconst 1, 1) := fq1_4 (fl_X12_isOrder_0 (j := 14) rfl rfl)
theorem dX12_isOrder_15 : decode cX12_isOrder 15 = .ok (.goto 4, 3) := fq3_167 (fl_X12_isOrder_0 (j := 15) rfl rfl) (fl_X12_isOrder_0 (j := 16) rfl rfl) (fl_X12_isOrder_0 (j := 17) rfl rfl) (s2p rfl (bl rfl))
theorem dX12_isOrder_18 : decode cX12_isOrder 18 = .ok (.iconst 0, 1) := fq1_3 (fl_X12_isOrder_0 (j := 18) rfl rfl)
theorem dX12_isOrder_19 : decode cX12_isOrder 19 = .ok (.ireturn, 1) := fq1_172 (fl_X12_isOrder_0 (j := 19) rfl rfl)
def fb_X12_isRock_0 : List UInt8 := [0x1b, 0x9b, 0x00, 0x11, 0x1b, 0x2a, 0xb4, 0x00, 0x07, 0x03, 0x2e, 0xa2, 0x00, 0x07, 0x04, 0xa7, 0x00, 0x04, 0x03, 0xac]
theorem fl_X12_isRock_0 {p j : Nat} {b : UInt8} (e : p = 0 + j) (h : fb_X12_isRock_0[j]? = some b) : cX12_isRock.data.toList[p]? = some b := fq_l (n := 64) (show (cX12_isRock.data.toList.drop 0).take 64 = fb_X12_isRock_0 by decide +kernel) e h
theorem dX12_isRock_0 : decode cX12_isRock 0 = .ok (.iload_n 1, 1) := fq1_27 (fl_X12_isRock_0 (j := 0) rfl rfl)
theorem dX12_isRock_1 : decode cX12_isRock 1 = .ok (.ifCond .lt 17, 3) := fq3_155 (fl_X12_isRock_0 (j := 1) rfl rfl) (fl_X12_isRock_0 (j := 2) rfl rfl) (fl_X12_isRock_0 (j := 3) rfl rfl) (s2p rfl (bl rfl))
theorem dX12_isRock_4 : decode cX12_isRock 4 = .ok (.iload_n 1, 1) := fq1_27 (fl_X12_isRock_0 (j := 4) rfl rfl)
theorem dX12_isRock_5 : decode cX12_isRock 5 = .ok (.aload_n 0, 1) := fq1_42 (fl_X12_isRock_0 (j := 5) rfl rfl)
theorem dX12_isRock_6 : decode cX12_isRock 6 = .ok (.getfield 7, 3) := fq3_180 (fl_X12_isRock_0 (j := 6) rfl rfl) (fl_X12_isRock_0 (j := 7) rfl rfl) (fl_X12_isRock_0 (j := 8) rfl rfl) rfl
theorem dX12_isRock_9 : decode cX12_isRock 9 = .ok (.iconst 0, 1) := fq1_3 (fl_X12_isRock_0 (j := 9) rfl rfl)
theorem dX12_isRock_10 : decode cX12_isRock 10 = .ok (.iaload, 1) := fq1_46 (fl_X12_isRock_0 (j := 10) rfl rfl)
theorem dX12_isRock_11 : decode cX12_isRock 11 = .ok (.if_icmp .ge 7, 3) := fq3_162 (fl_X12_isRock_0 (j := 11) rfl rfl) (fl_X12_isRock_0 (j := 12) rfl rfl) (fl_X12_isRock_0 (j := 13) rfl rfl) (s2p rfl (bl rfl))
theorem dX12_isRock_14 : decode cX12_isRock 14 = .ok (.iconst 1, 1) := fq1_4 (fl_X12_isRock_0 (j := 14) rfl rfl)
theorem dX12_isRock_15 : decode cX12_isRock 15 = .ok (.goto 4, 3) := fq3_167 (fl_X12_isRock_0 (j := 15) rfl rfl) (fl_X12_isRock_0 (j := 16) rfl rfl) (fl_X12_isRock_0 (j := 17) rfl rfl) (s2p rfl (bl rfl))
theorem dX12_isRock_18 : decode cX12_isRock 18 = .ok (.iconst 0, 1) := fq1_3 (fl_X12_isRock_0 (j := 18) rfl rfl)
theorem dX12_isRock_19 : decode cX12_isRock 19 = .ok (.ireturn, 1) := fq1_172 (fl_X12_isRock_0 (j := 19) rfl rfl)
def fb_X12_isSent_0 : List UInt8 := [0x2a, 0x1b, 0xb6, 0x00, 0xf3, 0x99, 0x00, 0x16, 0x2a, 0x1d, 0xb6, 0x00, 0xf3, 0x99, 0x00, 0x0e, 0x1c, 0xb8, 0x01, 0x0c, 0x99, 0x00, 0x07, 0x04, 0xa7, 0x00, 0x04, 0x03, 0xac]
theorem fl_X12_isSent_0 {p j : Nat} {b : UInt8} (e : p = 0 + j) (h : fb_X12_isSent_0[j]? = some b) : cX12_isSent.data.toList[p]? = some b := fq_l (n := 64) (show (cX12_isSent.data.toList.drop 0).take 64 = fb_X12_isSent_0 by decide +kernel) e h
theorem dX12_isSent_0 : decode cX12_isSent 0 = .ok (.aload_n 0, 1) := fq1_42 (fl_X12_isSent_0 (j := 0) rfl rfl)
theorem dX12_isSent_1 : decode cX12_isSent 1 = .ok (.iload_n 1, 1) := fq1_27 (fl_X12_isSent_0 (j := 1) rfl rfl)
theorem dX12_isSent_2 : decode cX12_isSent 2 = .ok (.invokevirtual 243, 3) := fq3_182 (fl_X12_isSent_0 (j := 2) rfl rfl) (fl_X12_isSent_0 (j := 3) rfl rfl) (fl_X12_isSent_0 (j := 4) rfl rfl) rfl
theorem dX12_isSent_5 : decode cX12_isSent 5 = .ok (.ifCond .eq 22, 3) := fq3_153 (fl_X12_isSent_0 (j := 5) rfl rfl) (fl_X12_isSent_0 (j := 6) rfl rfl) (fl_X12_isSent_0 (j := 7) rfl rfl) (s2p rfl (bl rfl))
theorem dX12_isSent_8 : decode cX12_isSent 8 = .ok (.aload_n 0, 1) := fq1_42 (fl_X12_isSent_0 (j := 8) rfl rfl)
theorem dX12_isSent_9 : decode cX12_isSent 9 = .ok (.iload_n 3, 1) := fq1_29 (fl_X12_isSent_0 (j := 9) rfl rfl)
theorem dX12_isSent_10 : decode cX12_isSent 10 = .ok (.invokevirtual 243, 3) := fq3_182 (fl_X12_isSent_0 (j := 10) rfl rfl) (fl_X12_isSent_0 (j := 11) rfl rfl) (fl_X12_isSent_0 (j := 12) rfl rfl) rfl
theorem dX12_isSent_13 : decode cX12_isSent 13 = .ok (.ifCond .eq 14, 3) := fq3_153 (fl_X12_isSent_0 (j := 13) rfl rfl) (fl_X12_isSent_0 (j := 14) rfl rfl) (fl_X12_isSent_0 (j := 15) rfl rfl) (s2p rfl (bl rfl))
theorem dX12_isSent_16 : decode cX12_isSent 16 = .ok (.iload_n 2, 1) := fq1_28 (fl_X12_isSent_0 (j := 16) rfl rfl)
theorem dX12_isSent_17 : decode cX12_isSent 17 = .ok (.invokestatic 268, 3) := fq3_184 (fl_X12_isSent_0 (j := 17) rfl rfl) (fl_X12_isSent_0 (j := 18) rfl rfl) (fl_X12_isSent_0 (j := 19) rfl rfl) rfl
theorem dX12_isSent_20 : decode cX12_isSent 20 = .ok (.ifCond .eq 7, 3) := fq3_153 (fl_X12_isSent_0 (j := 20) rfl rfl) (fl_X12_isSent_0 (j := 21) rfl rfl) (fl_X12_isSent_0 (j := 22) rfl rfl) (s2p rfl (bl rfl))
theorem dX12_isSent_23 : decode cX12_isSent 23 = .ok (.iconst 1, 1) := fq1_4 (fl_X12_isSent_0 (j := 23) rfl rfl)
theorem dX12_isSent_24 : decode cX12_isSent 24 = .ok (.goto 4, 3) := fq3_167 (fl_X12_isSent_0 (j := 24) rfl rfl) (fl_X12_isSent_0 (j := 25) rfl rfl) (fl_X12_isSent_0 (j := 26) rfl rfl) (s2p rfl (bl rfl))
theorem dX12_isSent_27 : decode cX12_isSent 27 = .ok (.iconst 0, 1) := fq1_3 (fl_X12_isSent_0 (j := 27) rfl rfl)
theorem dX12_isSent_28 : decode cX12_isSent 28 = .ok (.ireturn, 1) := fq1_172 (fl_X12_isSent_0 (j := 28) rfl rfl)
def fb_X12_isTray_0 : List UInt8 := [0x1a, 0x9b, 0x00, 0x0c, 0x1a, 0x07, 0xa2, 0x00, 0x07, 0x04, 0xa7, 0x00, 0x04, 0x03, 0xac]
theorem fl_X12_isTray_0 {p j : Nat} {b : UInt8} (e : p = 0 + j) (h : fb_X12_isTray_0[j]? = some b) : cX12_isTray.data.toList[p]? = some b := fq_l (n := 64) (show (cX12_isTray.data.toList.drop 0).take 64 = fb_X12_isTray_0 by decide +kernel) e h
theorem dX12_isTray_0 : decode cX12_isTray 0 = .ok (.iload_n 0, 1) := fq1_26 (fl_X12_isTray_0 (j := 0) rfl rfl)
theorem dX12_isTray_1 : decode cX12_isTray 1 = .ok (.ifCond .lt 12, 3) := fq3_155 (fl_X12_isTray_0 (j := 1) rfl rfl) (fl_X12_isTray_0 (j := 2) rfl rfl) (fl_X12_isTray_0 (j := 3) rfl rfl) (s2p rfl (bl rfl))
theorem dX12_isTray_4 : decode cX12_isTray 4 = .ok (.iload_n 0, 1) := fq1_26 (fl_X12_isTray_0 (j := 4) rfl rfl)
theorem dX12_isTray_5 : decode cX12_isTray 5 = .ok (.iconst 4, 1) := fq1_7 (fl_X12_isTray_0 (j := 5) rfl rfl)
theorem dX12_isTray_6 : decode cX12_isTray 6 = .ok (.if_icmp .ge 7, 3) := fq3_162 (fl_X12_isTray_0 (j := 6) rfl rfl) (fl_X12_isTray_0 (j := 7) rfl rfl) (fl_X12_isTray_0 (j := 8) rfl rfl) (s2p rfl (bl rfl))
theorem dX12_isTray_9 : decode cX12_isTray 9 = .ok (.iconst 1, 1) := fq1_4 (fl_X12_isTray_0 (j := 9) rfl rfl)
theorem dX12_isTray_10 : decode cX12_isTray 10 = .ok (.goto 4, 3) := fq3_167 (fl_X12_isTray_0 (j := 10) rfl rfl) (fl_X12_isTray_0 (j := 11) rfl rfl) (fl_X12_isTray_0 (j := 12) rfl rfl) (s2p rfl (bl rfl))
theorem dX12_isTray_13 : decode cX12_isTray 13 = .ok (.iconst 0, 1) := fq1_3 (fl_X12_isTray_0 (j := 13) rfl rfl)
theorem dX12_isTray_14 : decode cX12_isTray 14 = .ok (.ireturn, 1) := fq1_172 (fl_X12_isTray_0 (j := 14) rfl rfl)
def fb_X12_isWeek_0 : List UInt8 := [0x1a, 0x9b, 0x00, 0x0e, 0x1a, 0x11, 0x01, 0x90, 0xa3, 0x00, 0x07, 0x04, 0xa7, 0x00, 0x04, 0x03, 0xac]
theorem fl_X12_isWeek_0 {p j : Nat} {b : UInt8} (e : p = 0 + j) (h : fb_X12_isWeek_0[j]? = some b) : cX12_isWeek.data.toList[p]? = some b := fq_l (n := 64) (show (cX12_isWeek.data.toList.drop 0).take 64 = fb_X12_isWeek_0 by decide +kernel) e h
theorem dX12_isWeek_0 : decode cX12_isWeek 0 = .ok (.iload_n 0, 1) := fq1_26 (fl_X12_isWeek_0 (j := 0) rfl rfl)
theorem dX12_isWeek_1 : decode cX12_isWeek 1 = .ok (.ifCond .lt 14, 3) := fq3_155 (fl_X12_isWeek_0 (j := 1) rfl rfl) (fl_X12_isWeek_0 (j := 2) rfl rfl) (fl_X12_isWeek_0 (j := 3) rfl rfl) (s2p rfl (bl rfl))
theorem dX12_isWeek_4 : decode cX12_isWeek 4 = .ok (.iload_n 0, 1) := fq1_26 (fl_X12_isWeek_0 (j := 4) rfl rfl)
theorem dX12_isWeek_5 : decode cX12_isWeek 5 = .ok (.sipush 400, 3) := fq3_17 (fl_X12_isWeek_0 (j := 5) rfl rfl) (fl_X12_isWeek_0 (j := 6) rfl rfl) (fl_X12_isWeek_0 (j := 7) rfl rfl) (s2p rfl (bl rfl))
theorem dX12_isWeek_8 : decode cX12_isWeek 8 = .ok (.if_icmp .gt 7, 3) := fq3_163 (fl_X12_isWeek_0 (j := 8) rfl rfl) (fl_X12_isWeek_0 (j := 9) rfl rfl) (fl_X12_isWeek_0 (j := 10) rfl rfl) (s2p rfl (bl rfl))
theorem dX12_isWeek_11 : decode cX12_isWeek 11 = .ok (.iconst 1, 1) := fq1_4 (fl_X12_isWeek_0 (j := 11) rfl rfl)
theorem dX12_isWeek_12 : decode cX12_isWeek 12 = .ok (.goto 4, 3) := fq3_167 (fl_X12_isWeek_0 (j := 12) rfl rfl) (fl_X12_isWeek_0 (j := 13) rfl rfl) (fl_X12_isWeek_0 (j := 14) rfl rfl) (s2p rfl (bl rfl))
theorem dX12_isWeek_15 : decode cX12_isWeek 15 = .ok (.iconst 0, 1) := fq1_3 (fl_X12_isWeek_0 (j := 15) rfl rfl)
theorem dX12_isWeek_16 : decode cX12_isWeek 16 = .ok (.ireturn, 1) := fq1_172 (fl_X12_isWeek_0 (j := 16) rfl rfl)
def fb_X12_lightOf_0 : List UInt8 := [0x1b, 0x1d, 0xa0, 0x00, 0x05, 0x03, 0xac, 0x2a, 0xb4, 0x00, 0x07, 0x1b, 0xb8, 0x00, 0xf6, 0x2e, 0x36, 0x05, 0x2a, 0xb4, 0x00, 0x07, 0x1d, 0xb8, 0x00, 0xf6, 0x2e, 0x36, 0x06, 0x2a, 0x1b, 0x1c, 0xb6, 0x00, 0xf9, 0x2a, 0x1d, 0x15, 0x04, 0xb6, 0x00, 0xf9, 0x64, 0xb8, 0x00, 0xfc, 0x36, 0x07, 0x15, 0x07, 0x10, 0x06, 0xa4, 0x00, 0x0a, 0x10, 0x0c, 0x15, 0x07, 0x64, 0x36, 0x07, 0x04, 0x15]
theorem fl_X12_lightOf_0 {p j : Nat} {b : UInt8} (e : p = 0 + j) (h : fb_X12_lightOf_0[j]? = some b) : cX12_lightOf.data.toList[p]? = some b := fq_l (n := 64) (show (cX12_lightOf.data.toList.drop 0).take 64 = fb_X12_lightOf_0 by decide +kernel) e h
theorem dX12_lightOf_0 : decode cX12_lightOf 0 = .ok (.iload_n 1, 1) := fq1_27 (fl_X12_lightOf_0 (j := 0) rfl rfl)
theorem dX12_lightOf_1 : decode cX12_lightOf 1 = .ok (.iload_n 3, 1) := fq1_29 (fl_X12_lightOf_0 (j := 1) rfl rfl)
theorem dX12_lightOf_2 : decode cX12_lightOf 2 = .ok (.if_icmp .ne 5, 3) := fq3_160 (fl_X12_lightOf_0 (j := 2) rfl rfl) (fl_X12_lightOf_0 (j := 3) rfl rfl) (fl_X12_lightOf_0 (j := 4) rfl rfl) (s2p rfl (bl rfl))
theorem dX12_lightOf_5 : decode cX12_lightOf 5 = .ok (.iconst 0, 1) := fq1_3 (fl_X12_lightOf_0 (j := 5) rfl rfl)
theorem dX12_lightOf_6 : decode cX12_lightOf 6 = .ok (.ireturn, 1) := fq1_172 (fl_X12_lightOf_0 (j := 6) rfl rfl)
theorem dX12_lightOf_7 : decode cX12_lightOf 7 = .ok (.aload_n 0, 1) := fq1_42 (fl_X12_lightOf_0 (j := 7) rfl rfl)
theorem dX12_lightOf_8 : decode cX12_lightOf 8 = .ok (.getfield 7, 3) := fq3_180 (fl_X12_lightOf_0 (j := 8) rfl rfl) (fl_X12_lightOf_0 (j := 9) rfl rfl) (fl_X12_lightOf_0 (j := 10) rfl rfl) rfl
theorem dX12_lightOf_11 : decode cX12_lightOf 11 = .ok (.iload_n 1, 1) := fq1_27 (fl_X12_lightOf_0 (j := 11) rfl rfl)
theorem dX12_lightOf_12 : decode cX12_lightOf 12 = .ok (.invokestatic 246, 3) := fq3_184 (fl_X12_lightOf_0 (j := 12) rfl rfl) (fl_X12_lightOf_0 (j := 13) rfl rfl) (fl_X12_lightOf_0 (j := 14) rfl rfl) rfl
theorem dX12_lightOf_15 : decode cX12_lightOf 15 = .ok (.iaload, 1) := fq1_46 (fl_X12_lightOf_0 (j := 15) rfl rfl)
theorem dX12_lightOf_16 : decode cX12_lightOf 16 = .ok (.istore 5, 2) := fq2_54 (fl_X12_lightOf_0 (j := 16) rfl rfl) (fl_X12_lightOf_0 (j := 17) rfl rfl) rfl
theorem dX12_lightOf_18 : decode cX12_lightOf 18 = .ok (.aload_n 0, 1) := fq1_42 (fl_X12_lightOf_0 (j := 18) rfl rfl)
theorem dX12_lightOf_19 : decode cX12_lightOf 19 = .ok (.getfield 7, 3) := fq3_180 (fl_X12_lightOf_0 (j := 19) rfl rfl) (fl_X12_lightOf_0 (j := 20) rfl rfl) (fl_X12_lightOf_0 (j := 21) rfl rfl) rfl
theorem dX12_lightOf_22 : decode cX12_lightOf 22 = .ok (.iload_n 3, 1) := fq1_29 (fl_X12_lightOf_0 (j := 22) rfl rfl)
theorem dX12_lightOf_23 : decode cX12_lightOf 23 = .ok (.invokestatic 246, 3) := fq3_184 (fl_X12_lightOf_0 (j := 23) rfl rfl) (fl_X12_lightOf_0 (j := 24) rfl rfl) (fl_X12_lightOf_0 (j := 25) rfl rfl) rfl
theorem dX12_lightOf_26 : decode cX12_lightOf 26 = .ok (.iaload, 1) := fq1_46 (fl_X12_lightOf_0 (j := 26) rfl rfl)
theorem dX12_lightOf_27 : decode cX12_lightOf 27 = .ok (.istore 6, 2) := fq2_54 (fl_X12_lightOf_0 (j := 27) rfl rfl) (fl_X12_lightOf_0 (j := 28) rfl rfl) rfl
theorem dX12_lightOf_29 : decode cX12_lightOf 29 = .ok (.aload_n 0, 1) := fq1_42 (fl_X12_lightOf_0 (j := 29) rfl rfl)
theorem dX12_lightOf_30 : decode cX12_lightOf 30 = .ok (.iload_n 1, 1) := fq1_27 (fl_X12_lightOf_0 (j := 30) rfl rfl)
theorem dX12_lightOf_31 : decode cX12_lightOf 31 = .ok (.iload_n 2, 1) := fq1_28 (fl_X12_lightOf_0 (j := 31) rfl rfl)
theorem dX12_lightOf_32 : decode cX12_lightOf 32 = .ok (.invokevirtual 249, 3) := fq3_182 (fl_X12_lightOf_0 (j := 32) rfl rfl) (fl_X12_lightOf_0 (j := 33) rfl rfl) (fl_X12_lightOf_0 (j := 34) rfl rfl) rfl
theorem dX12_lightOf_35 : decode cX12_lightOf 35 = .ok (.aload_n 0, 1) := fq1_42 (fl_X12_lightOf_0 (j := 35) rfl rfl)
theorem dX12_lightOf_36 : decode cX12_lightOf 36 = .ok (.iload_n 3, 1) := fq1_29 (fl_X12_lightOf_0 (j := 36) rfl rfl)
theorem dX12_lightOf_37 : decode cX12_lightOf 37 = .ok (.iload 4, 2) := fq2_21 (fl_X12_lightOf_0 (j := 37) rfl rfl) (fl_X12_lightOf_0 (j := 38) rfl rfl) rfl
theorem dX12_lightOf_39 : decode cX12_lightOf 39 = .ok (.invokevirtual 249, 3) := fq3_182 (fl_X12_lightOf_0 (j := 39) rfl rfl) (fl_X12_lightOf_0 (j := 40) rfl rfl) (fl_X12_lightOf_0 (j := 41) rfl rfl) rfl
theorem dX12_lightOf_42 : decode cX12_lightOf 42 = .ok (.isub, 1) := fq1_100 (fl_X12_lightOf_0 (j := 42) rfl rfl)
theorem dX12_lightOf_43 : decode cX12_lightOf 43 = .ok (.invokestatic 252, 3) := fq3_184 (fl_X12_lightOf_0 (j := 43) rfl rfl) (fl_X12_lightOf_0 (j := 44) rfl rfl) (fl_X12_lightOf_0 (j := 45) rfl rfl) rfl
theorem dX12_lightOf_46 : decode cX12_lightOf 46 = .ok (.istore 7, 2) := fq2_54 (fl_X12_lightOf_0 (j := 46) rfl rfl) (fl_X12_lightOf_0 (j := 47) rfl rfl) rfl
theorem dX12_lightOf_48 : decode cX12_lightOf 48 = .ok (.iload 7, 2) := fq2_21 (fl_X12_lightOf_0 (j := 48) rfl rfl) (fl_X12_lightOf_0 (j := 49) rfl rfl) rfl
theorem dX12_lightOf_50 : decode cX12_lightOf 50 = .ok (.bipush 6, 2) := fq2_16 (fl_X12_lightOf_0 (j := 50) rfl rfl) (fl_X12_lightOf_0 (j := 51) rfl rfl) (s1p rfl (bl rfl))
theorem dX12_lightOf_52 : decode cX12_lightOf 52 = .ok (.if_icmp .le 10, 3) := fq3_164 (fl_X12_lightOf_0 (j := 52) rfl rfl) (fl_X12_lightOf_0 (j := 53) rfl rfl) (fl_X12_lightOf_0 (j := 54) rfl rfl) (s2p rfl (bl rfl))
theorem dX12_lightOf_55 : decode cX12_lightOf 55 = .ok (.bipush 12, 2) := fq2_16 (fl_X12_lightOf_0 (j := 55) rfl rfl) (fl_X12_lightOf_0 (j := 56) rfl rfl) (s1p rfl (bl rfl))
theorem dX12_lightOf_57 : decode cX12_lightOf 57 = .ok (.iload 7, 2) := fq2_21 (fl_X12_lightOf_0 (j := 57) rfl rfl) (fl_X12_lightOf_0 (j := 58) rfl rfl) rfl
theorem dX12_lightOf_59 : decode cX12_lightOf 59 = .ok (.isub, 1) := fq1_100 (fl_X12_lightOf_0 (j := 59) rfl rfl)
theorem dX12_lightOf_60 : decode cX12_lightOf 60 = .ok (.istore 7, 2) := fq2_54 (fl_X12_lightOf_0 (j := 60) rfl rfl) (fl_X12_lightOf_0 (j := 61) rfl rfl) rfl
theorem dX12_lightOf_62 : decode cX12_lightOf 62 = .ok (.iconst 1, 1) := fq1_4 (fl_X12_lightOf_0 (j := 62) rfl rfl)
def fb_X12_lightOf_1 : List UInt8 := [0x05, 0x15, 0x06, 0x64, 0xb8, 0x00, 0xfc, 0x15, 0x07, 0x15, 0x05, 0x15, 0x06, 0xb8, 0x00, 0x89, 0x68, 0x10, 0x06, 0x6c, 0x60, 0xb8, 0x00, 0xff, 0xac]
theorem fl_X12_lightOf_1 {p j : Nat} {b : UInt8} (e : p = 64 + j) (h : fb_X12_lightOf_1[j]? = some b) : cX12_lightOf.data.toList[p]? = some b := fq_l (n := 64) (show (cX12_lightOf.data.toList.drop 64).take 64 = fb_X12_lightOf_1 by decide +kernel) e h
theorem dX12_lightOf_63 : decode cX12_lightOf 63 = .ok (.iload 5, 2) := fq2_21 (fl_X12_lightOf_0 (j := 63) rfl rfl) (fl_X12_lightOf_1 (j := 0) rfl rfl) rfl
theorem dX12_lightOf_65 : decode cX12_lightOf 65 = .ok (.iload 6, 2) := fq2_21 (fl_X12_lightOf_1 (j := 1) rfl rfl) (fl_X12_lightOf_1 (j := 2) rfl rfl) rfl
theorem dX12_lightOf_67 : decode cX12_lightOf 67 = .ok (.isub, 1) := fq1_100 (fl_X12_lightOf_1 (j := 3) rfl rfl)
theorem dX12_lightOf_68 : decode cX12_lightOf 68 = .ok (.invokestatic 252, 3) := fq3_184 (fl_X12_lightOf_1 (j := 4) rfl rfl) (fl_X12_lightOf_1 (j := 5) rfl rfl) (fl_X12_lightOf_1 (j := 6) rfl rfl) rfl
theorem dX12_lightOf_71 : decode cX12_lightOf 71 = .ok (.iload 7, 2) := fq2_21 (fl_X12_lightOf_1 (j := 7) rfl rfl) (fl_X12_lightOf_1 (j := 8) rfl rfl) rfl
theorem dX12_lightOf_73 : decode cX12_lightOf 73 = .ok (.iload 5, 2) := fq2_21 (fl_X12_lightOf_1 (j := 9) rfl rfl) (fl_X12_lightOf_1 (j := 10) rfl rfl) rfl
theorem dX12_lightOf_75 : decode cX12_lightOf 75 = .ok (.iload 6, 2) := fq2_21 (fl_X12_lightOf_1 (j := 11) rfl rfl) (fl_X12_lightOf_1 (j := 12) rfl rfl) rfl
theorem dX12_lightOf_77 : decode cX12_lightOf 77 = .ok (.invokestatic 137, 3) := fq3_184 (fl_X12_lightOf_1 (j := 13) rfl rfl) (fl_X12_lightOf_1 (j := 14) rfl rfl) (fl_X12_lightOf_1 (j := 15) rfl rfl) rfl
theorem dX12_lightOf_80 : decode cX12_lightOf 80 = .ok (.imul, 1) := fq1_104 (fl_X12_lightOf_1 (j := 16) rfl rfl)
theorem dX12_lightOf_81 : decode cX12_lightOf 81 = .ok (.bipush 6, 2) := fq2_16 (fl_X12_lightOf_1 (j := 17) rfl rfl) (fl_X12_lightOf_1 (j := 18) rfl rfl) (s1p rfl (bl rfl))
theorem dX12_lightOf_83 : decode cX12_lightOf 83 = .ok (.idiv, 1) := fq1_108 (fl_X12_lightOf_1 (j := 19) rfl rfl)
theorem dX12_lightOf_84 : decode cX12_lightOf 84 = .ok (.iadd, 1) := fq1_96 (fl_X12_lightOf_1 (j := 20) rfl rfl)
theorem dX12_lightOf_85 : decode cX12_lightOf 85 = .ok (.invokestatic 255, 3) := fq3_184 (fl_X12_lightOf_1 (j := 21) rfl rfl) (fl_X12_lightOf_1 (j := 22) rfl rfl) (fl_X12_lightOf_1 (j := 23) rfl rfl) rfl
theorem dX12_lightOf_88 : decode cX12_lightOf 88 = .ok (.ireturn, 1) := fq1_172 (fl_X12_lightOf_1 (j := 24) rfl rfl)
def fb_X12_priceOf_0 : List UInt8 := [0x2a, 0xb4, 0x00, 0x07, 0x1b, 0xb8, 0x00, 0xf6, 0x07, 0x60, 0x2e, 0x2a, 0xb4, 0x00, 0x07, 0x1b, 0xb8, 0x00, 0xf6, 0x08, 0x60, 0x2e, 0x2a, 0x1b, 0x1c, 0xb6, 0x00, 0xf9, 0x68, 0x60, 0xac]
theorem fl_X12_priceOf_0 {p j : Nat} {b : UInt8} (e : p = 0 + j) (h : fb_X12_priceOf_0[j]? = some b) : cX12_priceOf.data.toList[p]? = some b := fq_l (n := 64) (show (cX12_priceOf.data.toList.drop 0).take 64 = fb_X12_priceOf_0 by decide +kernel) e h
theorem dX12_priceOf_0 : decode cX12_priceOf 0 = .ok (.aload_n 0, 1) := fq1_42 (fl_X12_priceOf_0 (j := 0) rfl rfl)
theorem dX12_priceOf_1 : decode cX12_priceOf 1 = .ok (.getfield 7, 3) := fq3_180 (fl_X12_priceOf_0 (j := 1) rfl rfl) (fl_X12_priceOf_0 (j := 2) rfl rfl) (fl_X12_priceOf_0 (j := 3) rfl rfl) rfl
theorem dX12_priceOf_4 : decode cX12_priceOf 4 = .ok (.iload_n 1, 1) := fq1_27 (fl_X12_priceOf_0 (j := 4) rfl rfl)
theorem dX12_priceOf_5 : decode cX12_priceOf 5 = .ok (.invokestatic 246, 3) := fq3_184 (fl_X12_priceOf_0 (j := 5) rfl rfl) (fl_X12_priceOf_0 (j := 6) rfl rfl) (fl_X12_priceOf_0 (j := 7) rfl rfl) rfl
theorem dX12_priceOf_8 : decode cX12_priceOf 8 = .ok (.iconst 4, 1) := fq1_7 (fl_X12_priceOf_0 (j := 8) rfl rfl)
theorem dX12_priceOf_9 : decode cX12_priceOf 9 = .ok (.iadd, 1) := fq1_96 (fl_X12_priceOf_0 (j := 9) rfl rfl)
theorem dX12_priceOf_10 : decode cX12_priceOf 10 = .ok (.iaload, 1) := fq1_46 (fl_X12_priceOf_0 (j := 10) rfl rfl)
theorem dX12_priceOf_11 : decode cX12_priceOf 11 = .ok (.aload_n 0, 1) := fq1_42 (fl_X12_priceOf_0 (j := 11) rfl rfl)
theorem dX12_priceOf_12 : decode cX12_priceOf 12 = .ok (.getfield 7, 3) := fq3_180 (fl_X12_priceOf_0 (j := 12) rfl rfl) (fl_X12_priceOf_0 (j := 13) rfl rfl) (fl_X12_priceOf_0 (j := 14) rfl rfl) rfl
theorem dX12_priceOf_15 : decode cX12_priceOf 15 = .ok (.iload_n 1, 1) := fq1_27 (fl_X12_priceOf_0 (j := 15) rfl rfl)
theorem dX12_priceOf_16 : decode cX12_priceOf 16 = .ok (.invokestatic 246, 3) := fq3_184 (fl_X12_priceOf_0 (j := 16) rfl rfl) (fl_X12_priceOf_0 (j := 17) rfl rfl) (fl_X12_priceOf_0 (j := 18) rfl rfl) rfl
theorem dX12_priceOf_19 : decode cX12_priceOf 19 = .ok (.iconst 5, 1) := fq1_8 (fl_X12_priceOf_0 (j := 19) rfl rfl)
theorem dX12_priceOf_20 : decode cX12_priceOf 20 = .ok (.iadd, 1) := fq1_96 (fl_X12_priceOf_0 (j := 20) rfl rfl)
theorem dX12_priceOf_21 : decode cX12_priceOf 21 = .ok (.iaload, 1) := fq1_46 (fl_X12_priceOf_0 (j := 21) rfl rfl)
theorem dX12_priceOf_22 : decode cX12_priceOf 22 = .ok (.aload_n 0, 1) := fq1_42 (fl_X12_priceOf_0 (j := 22) rfl rfl)
theorem dX12_priceOf_23 : decode cX12_priceOf 23 = .ok (.iload_n 1, 1) := fq1_27 (fl_X12_priceOf_0 (j := 23) rfl rfl)
theorem dX12_priceOf_24 : decode cX12_priceOf 24 = .ok (.iload_n 2, 1) := fq1_28 (fl_X12_priceOf_0 (j := 24) rfl rfl)
theorem dX12_priceOf_25 : decode cX12_priceOf 25 = .ok (.invokevirtual 249, 3) := fq3_182 (fl_X12_priceOf_0 (j := 25) rfl rfl) (fl_X12_priceOf_0 (j := 26) rfl rfl) (fl_X12_priceOf_0 (j := 27) rfl rfl) rfl
theorem dX12_priceOf_28 : decode cX12_priceOf 28 = .ok (.imul, 1) := fq1_104 (fl_X12_priceOf_0 (j := 28) rfl rfl)
theorem dX12_priceOf_29 : decode cX12_priceOf 29 = .ok (.iadd, 1) := fq1_96 (fl_X12_priceOf_0 (j := 29) rfl rfl)
theorem dX12_priceOf_30 : decode cX12_priceOf 30 = .ok (.ireturn, 1) := fq1_172 (fl_X12_priceOf_0 (j := 30) rfl rfl)
def fb_X12_rockRow_0 : List UInt8 := [0x10, 0x0a, 0x10, 0x06, 0x1a, 0x68, 0x60, 0xac]
theorem fl_X12_rockRow_0 {p j : Nat} {b : UInt8} (e : p = 0 + j) (h : fb_X12_rockRow_0[j]? = some b) : cX12_rockRow.data.toList[p]? = some b := fq_l (n := 64) (show (cX12_rockRow.data.toList.drop 0).take 64 = fb_X12_rockRow_0 by decide +kernel) e h
theorem dX12_rockRow_0 : decode cX12_rockRow 0 = .ok (.bipush 10, 2) := fq2_16 (fl_X12_rockRow_0 (j := 0) rfl rfl) (fl_X12_rockRow_0 (j := 1) rfl rfl) (s1p rfl (bl rfl))
theorem dX12_rockRow_2 : decode cX12_rockRow 2 = .ok (.bipush 6, 2) := fq2_16 (fl_X12_rockRow_0 (j := 2) rfl rfl) (fl_X12_rockRow_0 (j := 3) rfl rfl) (s1p rfl (bl rfl))
theorem dX12_rockRow_4 : decode cX12_rockRow 4 = .ok (.iload_n 0, 1) := fq1_26 (fl_X12_rockRow_0 (j := 4) rfl rfl)
theorem dX12_rockRow_5 : decode cX12_rockRow 5 = .ok (.imul, 1) := fq1_104 (fl_X12_rockRow_0 (j := 5) rfl rfl)
theorem dX12_rockRow_6 : decode cX12_rockRow 6 = .ok (.iadd, 1) := fq1_96 (fl_X12_rockRow_0 (j := 6) rfl rfl)
theorem dX12_rockRow_7 : decode cX12_rockRow 7 = .ok (.ireturn, 1) := fq1_172 (fl_X12_rockRow_0 (j := 7) rfl rfl)
end

section
/-- a row seen from a place on -/
def sh (f : Nat → Int32) (c : Int) : Nat → Int32 := fun i => f (c.toNat + i)
theorem gz_sh {f : Nat → Int32} {c e : Int} (hc : 0 ≤ c) (he : 0 ≤ e) : gz (sh f c) e = gz f (c + e) := by
  unfold gz sh
  rw [show c.toNat + e.toNat = (c + e).toNat by omega]
theorem sh10 (f : Nat → Int32) {r : Int} (w : Int) (hr : 0 ≤ r) (hw : 0 ≤ w) : gz (sh f 10) ((r * 6) + w) = gz f ((10 + (6 * r)) + w) := by
  rw [gz_sh (by omega) (by omega), show 10 + ((r * 6) + w) = (10 + (6 * r)) + w by omega]
theorem sh10z (f : Nat → Int32) {r : Int} (hr : 0 ≤ r) : gz (sh f 10) ((r * 6) + 0) = gz f (10 + (6 * r)) := by
  rw [gz_sh (by omega) (by omega), show 10 + ((r * 6) + 0) = 10 + (6 * r) by omega]
theorem sh46 (f : Nat → Int32) {r : Int} (w : Int) (hr : 0 ≤ r) (hw : 0 ≤ w) : gz (sh f 46) ((r * 4) + w) = gz f ((46 + (4 * r)) + w) := by
  rw [gz_sh (by omega) (by omega), show 46 + ((r * 4) + w) = (46 + (4 * r)) + w by omega]
theorem sh46z (f : Nat → Int32) {r : Int} (hr : 0 ≤ r) : gz (sh f 46) ((r * 4) + 0) = gz f (46 + (4 * r)) := by
  rw [gz_sh (by omega) (by omega), show 46 + ((r * 4) + 0) = 46 + (4 * r) by omega]
/-- the state of the reference, from place 0 on -/
def M0 (f : Nat → Int32) : Prop := (0 ≤ gz f 0 ∧ gz f 0 ≤ 6) ∧ (0 ≤ gz f 1 ∧ gz f 1 ≤ 8) ∧ (0 ≤ gz f 3 ∧ gz f 3 ≤ 400) ∧ (0 ≤ gz f 4 ∧ gz f 4 ≤ 20) ∧ (-1 ≤ gz f 5 ∧ gz f 5 ≤ 60) ∧ FXI (sh f 10) (gz f 0)
  ∧ (∀ o : Int, 0 ≤ o → o < gz f 4 → (0 ≤ gz f (78 + (2 * o)) ∧ gz f (78 + (2 * o)) < gz f 0) ∧ (0 ≤ gz f ((78 + (2 * o)) + 1) ∧ gz f ((78 + (2 * o)) + 1) ≤ 400))
  ∧ (∀ k : Int, 0 ≤ k → k < gz f 5 → (gz f (520 + (6 * k)) = 17 → 0 ≤ gz f ((520 + (6 * k)) + 1) ∧ gz f ((520 + (6 * k)) + 1) < gz f 0) ∧ (gz f (520 + (6 * k)) = 1923 → 0 ≤ gz f ((520 + (6 * k)) + 2) ∧ gz f ((520 + (6 * k)) + 2) < 6) ∧ (0 ≤ gz f ((520 + (6 * k)) + 4) ∧ gz f ((520 + (6 * k)) + 4) < gz f 5))
theorem M0.fx {f : Nat → Int32} (h : M0 f) (r : Int) (h1 : 0 ≤ r) (h2 : r < gz f 0) : (0 ≤ gz f (10 + (6 * r)) ∧ gz f (10 + (6 * r)) ≤ 20) ∧ (1 ≤ gz f ((10 + (6 * r)) + 1) ∧ gz f ((10 + (6 * r)) + 1) ≤ 99) ∧ (0 ≤ gz f ((10 + (6 * r)) + 2) ∧ gz f ((10 + (6 * r)) + 2) ≤ 11) ∧ (0 ≤ gz f ((10 + (6 * r)) + 3) ∧ gz f ((10 + (6 * r)) + 3) ≤ 9) ∧ (0 ≤ gz f ((10 + (6 * r)) + 4) ∧ gz f ((10 + (6 * r)) + 4) ≤ 99) ∧ (0 ≤ gz f ((10 + (6 * r)) + 5) ∧ gz f ((10 + (6 * r)) + 5) ≤ 20) := by
  have := h.2.2.2.2.2.1 r h1 h2
  rw [sh10z f h1, sh10 f 1 h1 (by omega), sh10 f 2 h1 (by omega), sh10 f 3 h1 (by omega), sh10 f 4 h1 (by omega), sh10 f 5 h1 (by omega)] at this
  exact this
/-- the first 890 places decide -/
theorem M0.like {f g : Nat → Int32} (h0 : ∀ e : Int, 0 ≤ e → (e < 118 ∨ 520 ≤ e) → e < 884 → gz g e = gz f e) (hf : M0 f) : M0 g := by
  have h : ∀ e : Int, 0 ≤ e ∧ (e < 118 ∨ 520 ≤ e) → e < 884 → gz g e = gz f e := fun e q => h0 e q.1 q.2
  obtain ⟨a0, a1, a3, a4, a5, aF, aO, aS⟩ := hf
  refine ⟨by rw [h 0 (by omega) (by omega)]; exact a0, by rw [h 1 (by omega) (by omega)]; exact a1, by rw [h 3 (by omega) (by omega)]; exact a3, by rw [h 4 (by omega) (by omega)]; exact a4, by rw [h 5 (by omega) (by omega)]; exact a5, ?_, ?_, ?_⟩
  · rw [h 0 (by omega) (by omega)]
    intro r h1 h2
    have e : ∀ w : Int, 0 ≤ w → w < 6 → gz (sh g 10) ((r * 6) + w) = gz (sh f 10) ((r * 6) + w) := fun w g1 g2 => by
      rw [gz_sh (by omega) (by omega), gz_sh (by omega) (by omega)]
      exact h _ (by omega) (by omega)
    rw [e 0 (by omega) (by omega), e 1 (by omega) (by omega), e 2 (by omega) (by omega), e 3 (by omega) (by omega), e 4 (by omega) (by omega), e 5 (by omega) (by omega)]
    exact aF r h1 h2
  · rw [h 0 (by omega) (by omega), h 4 (by omega) (by omega)]
    intro o h1 h2
    rw [h _ (by omega) (by omega), h _ (by omega) (by omega)]
    exact aO o h1 h2
  · rw [h 0 (by omega) (by omega), h 5 (by omega) (by omega)]
    intro o h1 h2
    rw [h _ (by omega) (by omega), h _ (by omega) (by omega), h _ (by omega) (by omega), h _ (by omega) (by omega)]
    exact aS o h1 h2
theorem hd_at (f : Nat → Int32) {r : Int} (w : Int) (hr : 0 ≤ r) : ((gz f ((10 + (6 * r)) + 2) + ((12 * w) / gz f ((10 + (6 * r)) + 1))) % 12) = hd (sh f 10) r w := by
  unfold hd
  rw [sh10 f 1 hr (by omega), sh10 f 2 hr (by omega)]
theorem pr_at (f : Nat → Int32) {r : Int} (w : Int) (hr : 0 ≤ r) : (gz f ((10 + (6 * r)) + 4) + (gz f ((10 + (6 * r)) + 5) * hd (sh f 10) r w)) = pr (sh f 10) r w := by
  unfold pr
  rw [sh10 f 4 hr (by omega), sh10 f 5 hr (by omega)]
theorem sp_a {h g : Int} (c : zab (h - g) ≤ 6) : sp h g = zab (h - g) := by
  have e : tn h g = zab (h - g) := by unfold tn zab; split <;> split <;> omega
  unfold sp
  rw [e, if_pos c]
theorem sp_b {h g : Int} (c : ¬ zab (h - g) ≤ 6) : sp h g = 12 - zab (h - g) := by
  have e : tn h g = zab (h - g) := by unfold tn zab; split <;> split <;> omega
  unfold sp
  rw [e, if_neg c]
theorem lt_ref {F : Nat → Int32} {a w b t one two st : Int} (hne : ¬ a = b) (h1 : gz F ((a * 6) + 0) = one) (h2 : gz F ((b * 6) + 0) = two) (hs : sp (hd F a w) (hd F b t) = st) : (max 1 (zab (one - two) + ((st * (min one two)) / 6))) = lt F a w b t := by
  unfold lt ap
  rw [if_neg hne]
  unfold lg0 nr fr
  rw [h1, h2, hs]
  by_cases h : two ≤ one
  · rw [if_pos h, if_pos h, Int.min_eq_right h, show zab (one - two) = one - two by unfold zab; rw [if_pos (by omega)]]
    split <;> omega
  · rw [if_neg h, if_neg h, Int.min_eq_left (by omega), show zab (one - two) = two - one by unfold zab; rw [if_neg (by omega)]; omega]
    split <;> omega
theorem icR_at {f : Nat → Int32} {j a b w : Int} (hj : 0 ≤ j) : icR (sh f 46) j a b w ↔ (((gz f (46 + (4 * j)) = a ∧ gz f ((46 + (4 * j)) + 1) = b) ∨ (gz f (46 + (4 * j)) = b ∧ gz f ((46 + (4 * j)) + 1) = a)) ∧ gz f ((46 + (4 * j)) + 2) ≤ w ∧ w ≤ gz f ((46 + (4 * j)) + 3)) := by
  unfold icR
  rw [sh46z f hj, sh46 f 1 hj (by omega), sh46 f 2 hj (by omega), sh46 f 3 hj (by omega)]

set_option maxHeartbeats 4000000 in
set_option maxRecDepth 100000 in
theorem m_rockRow (l : Launch) (D : va_G) (k : Nat → ClassId) (x : Int) : RD l yX12_rockRow cX12_rockRow 1 (some .int) 0 D k [.int (iZ x)] [] (iZ (10 + (6 * x))) := by
  refine MR (by decide) (Nat.le_of_ble_eq_true rfl) (fun p e s m below meth c ls hx hb hml hr hlocks hts hown hKK hP hl => ?_)
  have hK := hKK.1
  have hl : lv_has ls 1 [(0, .int (iZ x))] := hl
  refine lv_bipush (v := iZ 10) hx hb dX12_rockRow_0 bip_10 ?_
  refine lv_bipush (v := iZ 6) hx hb dX12_rockRow_2 bip_6 ?_
  refine lv_iload_n hx hb dX12_rockRow_4 rfl (lv_at hl 0 rfl) ?_
  refine lv_imul hx hb dX12_rockRow_5 ?_
  refine lv_topi (fun x_1 ex_1 => ?_)
  obtain rfl : x_1 = iZ (6 * x) := ex_1.trans (iZ_mul 6 x)
  refine lv_iadd hx hb dX12_rockRow_6 ?_
  refine lv_topi (fun x_2 ex_2 => ?_)
  obtain rfl : x_2 = iZ (10 + (6 * x)) := ex_2.trans (iZ_add 10 (6 * x))
  exact ERi hx hb hr hlocks rfl dX12_rockRow_7
set_option maxHeartbeats 4000000 in
set_option maxRecDepth 100000 in
theorem m_givenRow (l : Launch) (D : va_G) (k : Nat → ClassId) (x : Int) : RD l yX12_givenRow cX12_givenRow 1 (some .int) 0 D k [.int (iZ x)] [] (iZ (78 + (2 * x))) := by
  refine MR (by decide) (Nat.le_of_ble_eq_true rfl) (fun p e s m below meth c ls hx hb hml hr hlocks hts hown hKK hP hl => ?_)
  have hK := hKK.1
  have hl : lv_has ls 1 [(0, .int (iZ x))] := hl
  refine lv_bipush (v := iZ 78) hx hb dX12_givenRow_0 bip_78 ?_
  refine lv_iconst (v := iZ 2) hx hb dX12_givenRow_2 rfl ?_
  refine lv_iload_n hx hb dX12_givenRow_3 rfl (lv_at hl 0 rfl) ?_
  refine lv_imul hx hb dX12_givenRow_4 ?_
  refine lv_topi (fun x_1 ex_1 => ?_)
  obtain rfl : x_1 = iZ (2 * x) := ex_1.trans (iZ_mul 2 x)
  refine lv_iadd hx hb dX12_givenRow_5 ?_
  refine lv_topi (fun x_2 ex_2 => ?_)
  obtain rfl : x_2 = iZ (78 + (2 * x)) := ex_2.trans (iZ_add 78 (2 * x))
  exact ERi hx hb hr hlocks rfl dX12_givenRow_6
set_option maxHeartbeats 4000000 in
set_option maxRecDepth 100000 in
theorem m_isWeek (l : Launch) (D : va_G) (k : Nat → ClassId) (x : Int) (h9x : -2147483648 ≤ x ∧ x < 2147483648) : RP l yX12_isWeek cX12_isWeek 1 (some .boolean) 0 D k [.int (iZ x)] [] (fun z => (z = 1 ∧ (0 ≤ x ∧ x ≤ 400)) ∨ (z = 0 ∧ ¬ (0 ≤ x ∧ x ≤ 400))) := by
  refine MRP (by decide) (Nat.le_of_ble_eq_true rfl) (fun p e s m below meth c ls hx hb hml hr hlocks hts hown hKK hP hl => ?_)
  have hK := hKK.1
  have hl : lv_has ls 1 [(0, .int (iZ x))] := hl
  refine lv_iload_n hx hb dX12_isWeek_0 rfl (lv_at hl 0 rfl) ?_
  refine lv_if_lt (tgt := 15) hx hb dX12_isWeek_1 rfl (fun c_1 => ?_) (fun c_1 => ?_)
  ·
    have c_1 := (zlt (x := iZ x) (y := iZ 0) rfl rfl ⟨by omega, by omega⟩ wn_0).mp c_1
    refine lv_iconst (v := iZ 0) hx hb dX12_isWeek_15 rfl ?_
    exact EPz hx hb hr hlocks (by omega) (by omega) dX12_isWeek_16
  ·
    have c_1 := mt (zlt (x := iZ x) (y := iZ 0) rfl rfl ⟨by omega, by omega⟩ wn_0).mpr c_1
    refine lv_iload_n hx hb dX12_isWeek_4 rfl (lv_at hl 0 rfl) ?_
    refine lv_sipush (v := iZ 400) hx hb dX12_isWeek_5 sip_400 ?_
    refine lv_icmp_gt (tgt := 15) hx hb dX12_isWeek_8 rfl (fun c_2 => ?_) (fun c_2 => ?_)
    ·
      have c_2 := (zlt (x := iZ 400) (y := iZ x) rfl rfl wn_400 ⟨by omega, by omega⟩).mp c_2
      refine lv_iconst (v := iZ 0) hx hb dX12_isWeek_15 rfl ?_
      exact EPz hx hb hr hlocks (by omega) (by omega) dX12_isWeek_16
    ·
      have c_2 := mt (zlt (x := iZ 400) (y := iZ x) rfl rfl wn_400 ⟨by omega, by omega⟩).mpr c_2
      refine lv_iconst (v := iZ 1) hx hb dX12_isWeek_11 rfl ?_
      refine lv_goto (tgt := 16) hx hb dX12_isWeek_12 rfl ?_
      exact EPz hx hb hr hlocks (by omega) (by omega) dX12_isWeek_16
set_option maxHeartbeats 4000000 in
set_option maxRecDepth 100000 in
theorem m_isAsked (l : Launch) (D : va_G) (k : Nat → ClassId) (x : Int) (h9x : -2147483648 ≤ x ∧ x < 2147483648) : RP l yX12_isAsked cX12_isAsked 1 (some .boolean) 0 D k [.int (iZ x)] [] (fun z => (z = 1 ∧ (0 ≤ x ∧ x ≤ 500)) ∨ (z = 0 ∧ ¬ (0 ≤ x ∧ x ≤ 500))) := by
  refine MRP (by decide) (Nat.le_of_ble_eq_true rfl) (fun p e s m below meth c ls hx hb hml hr hlocks hts hown hKK hP hl => ?_)
  have hK := hKK.1
  have hl : lv_has ls 1 [(0, .int (iZ x))] := hl
  refine lv_iload_n hx hb dX12_isAsked_0 rfl (lv_at hl 0 rfl) ?_
  refine lv_if_lt (tgt := 15) hx hb dX12_isAsked_1 rfl (fun c_1 => ?_) (fun c_1 => ?_)
  ·
    have c_1 := (zlt (x := iZ x) (y := iZ 0) rfl rfl ⟨by omega, by omega⟩ wn_0).mp c_1
    refine lv_iconst (v := iZ 0) hx hb dX12_isAsked_15 rfl ?_
    exact EPz hx hb hr hlocks (by omega) (by omega) dX12_isAsked_16
  ·
    have c_1 := mt (zlt (x := iZ x) (y := iZ 0) rfl rfl ⟨by omega, by omega⟩ wn_0).mpr c_1
    refine lv_iload_n hx hb dX12_isAsked_4 rfl (lv_at hl 0 rfl) ?_
    refine lv_sipush (v := iZ 500) hx hb dX12_isAsked_5 sip_500 ?_
    refine lv_icmp_gt (tgt := 15) hx hb dX12_isAsked_8 rfl (fun c_2 => ?_) (fun c_2 => ?_)
    ·
      have c_2 := (zlt (x := iZ 500) (y := iZ x) rfl rfl wn_500 ⟨by omega, by omega⟩).mp c_2
      refine lv_iconst (v := iZ 0) hx hb dX12_isAsked_15 rfl ?_
      exact EPz hx hb hr hlocks (by omega) (by omega) dX12_isAsked_16
    ·
      have c_2 := mt (zlt (x := iZ 500) (y := iZ x) rfl rfl wn_500 ⟨by omega, by omega⟩).mpr c_2
      refine lv_iconst (v := iZ 1) hx hb dX12_isAsked_11 rfl ?_
      refine lv_goto (tgt := 16) hx hb dX12_isAsked_12 rfl ?_
      exact EPz hx hb hr hlocks (by omega) (by omega) dX12_isAsked_16
set_option maxHeartbeats 4000000 in
set_option maxRecDepth 100000 in
theorem m_isTray (l : Launch) (D : va_G) (k : Nat → ClassId) (x : Int) (h9x : -2147483648 ≤ x ∧ x < 2147483648) : RP l yX12_isTray cX12_isTray 1 (some .boolean) 0 D k [.int (iZ x)] [] (fun z => (z = 1 ∧ (0 ≤ x ∧ x < 4)) ∨ (z = 0 ∧ ¬ (0 ≤ x ∧ x < 4))) := by
  refine MRP (by decide) (Nat.le_of_ble_eq_true rfl) (fun p e s m below meth c ls hx hb hml hr hlocks hts hown hKK hP hl => ?_)
  have hK := hKK.1
  have hl : lv_has ls 1 [(0, .int (iZ x))] := hl
  refine lv_iload_n hx hb dX12_isTray_0 rfl (lv_at hl 0 rfl) ?_
  refine lv_if_lt (tgt := 13) hx hb dX12_isTray_1 rfl (fun c_1 => ?_) (fun c_1 => ?_)
  ·
    have c_1 := (zlt (x := iZ x) (y := iZ 0) rfl rfl ⟨by omega, by omega⟩ wn_0).mp c_1
    refine lv_iconst (v := iZ 0) hx hb dX12_isTray_13 rfl ?_
    exact EPz hx hb hr hlocks (by omega) (by omega) dX12_isTray_14
  ·
    have c_1 := mt (zlt (x := iZ x) (y := iZ 0) rfl rfl ⟨by omega, by omega⟩ wn_0).mpr c_1
    refine lv_iload_n hx hb dX12_isTray_4 rfl (lv_at hl 0 rfl) ?_
    refine lv_iconst (v := iZ 4) hx hb dX12_isTray_5 rfl ?_
    refine lv_icmp_ge (tgt := 13) hx hb dX12_isTray_6 rfl (fun c_2 => ?_) (fun c_2 => ?_)
    ·
      have c_2 := (zle (x := iZ 4) (y := iZ x) rfl rfl wn_4 ⟨by omega, by omega⟩).mp c_2
      refine lv_iconst (v := iZ 0) hx hb dX12_isTray_13 rfl ?_
      exact EPz hx hb hr hlocks (by omega) (by omega) dX12_isTray_14
    ·
      have c_2 := mt (zle (x := iZ 4) (y := iZ x) rfl rfl wn_4 ⟨by omega, by omega⟩).mpr c_2
      refine lv_iconst (v := iZ 1) hx hb dX12_isTray_9 rfl ?_
      refine lv_goto (tgt := 14) hx hb dX12_isTray_10 rfl ?_
      exact EPz hx hb hr hlocks (by omega) (by omega) dX12_isTray_14
set_option maxHeartbeats 4000000 in
set_option maxRecDepth 100000 in
theorem m_isRock (l : Launch) (D : va_G) (k : Nat → ClassId) (fs : List Value) (hm : Nat) (Ma : Nat) (Af : Nat → Int32) (x : Int) (f0 : fs[0]? = some (.ref Ma)) (hM : M0 Af) (h9x : -2147483648 ≤ x ∧ x < 2147483648) : RP l yX12_isRock cX12_isRock 2 (some .boolean) 0 D k [.ref hm, .int (iZ x)] [(hm, .inr (12, fs)), (Ma, .inl (k 1, 5340, .inl Af))] (fun z => (z = 1 ∧ (0 ≤ x ∧ x < gz Af 0)) ∨ (z = 0 ∧ ¬ (0 ≤ x ∧ x < gz Af 0))) := by
  refine MRP (by decide) (Nat.le_of_ble_eq_true rfl) (fun p e s m below meth c ls hx hb hml hr hlocks hts hown hKK hP hl => ?_)
  have hK := hKK.1
  have hl : lv_has ls 2 [(0, .ref hm), (1, .int (iZ x))] := hl
  obtain ⟨m0, m1, m3, m4, m5, mF, mO, mS⟩ := id hM
  refine lv_iload_n hx hb dX12_isRock_0 rfl (lv_at hl 1 rfl) ?_
  refine lv_if_lt (tgt := 18) hx hb dX12_isRock_1 rfl (fun c_1 => ?_) (fun c_1 => ?_)
  ·
    have c_1 := (zlt (x := iZ x) (y := iZ 0) rfl rfl ⟨by omega, by omega⟩ wn_0).mp c_1
    refine lv_iconst (v := iZ 0) hx hb dX12_isRock_18 rfl ?_
    exact EPz hx hb hr hlocks (by omega) (by omega) dX12_isRock_19
  ·
    have c_1 := mt (zlt (x := iZ x) (y := iZ 0) rfl rfl ⟨by omega, by omega⟩ wn_0).mpr c_1
    refine lv_iload_n hx hb dX12_isRock_4 rfl (lv_at hl 1 rfl) ?_
    refine lv_aload_n hx hb dX12_isRock_5 rfl (lv_at hl 0 rfl) ?_
    refine va_get (D := D) (ci := 12) (v := .ref Ma) (C := RX12) (T := TX12) (N := 36) hx hb hts iX12 hown hK hP 0 rfl rfl 0 (bl rfl) (hts _ qf_X12_7) (fun _ h => h) f0 dX12_isRock_6 ?_
    refine lv_iconst (v := iZ 0) hx hb dX12_isRock_9 rfl ?_
    refine va_iald hx hb hK hP 1 1 rfl rfl (zin (e := 0) (n := 5340) ⟨by omega, by omega⟩ (bl rfl)) dX12_isRock_10 ?_
    refine lv_topi (fun x_2 ex_2 => ?_)
    obtain rfl : x_2 = iZ (gz Af 0) := ex_2.trans (gz_eq ⟨by omega, by omega⟩)
    have h_3 := gz_rg Af 0
    refine lv_icmp_ge (tgt := 18) hx hb dX12_isRock_11 rfl (fun c_4 => ?_) (fun c_4 => ?_)
    ·
      have c_4 := (zle (x := iZ (gz Af 0)) (y := iZ x) rfl rfl (gz_rg Af 0) ⟨by omega, by omega⟩).mp c_4
      refine lv_iconst (v := iZ 0) hx hb dX12_isRock_18 rfl ?_
      exact EPz hx hb hr hlocks (by omega) (by omega) dX12_isRock_19
    ·
      have c_4 := mt (zle (x := iZ (gz Af 0)) (y := iZ x) rfl rfl (gz_rg Af 0) ⟨by omega, by omega⟩).mpr c_4
      refine lv_iconst (v := iZ 1) hx hb dX12_isRock_14 rfl ?_
      refine lv_goto (tgt := 19) hx hb dX12_isRock_15 rfl ?_
      exact EPz hx hb hr hlocks (by omega) (by omega) dX12_isRock_19
set_option maxHeartbeats 4000000 in
set_option maxRecDepth 100000 in
theorem m_areTwo (l : Launch) (D : va_G) (k : Nat → ClassId) (fs : List Value) (hm : Nat) (Ma : Nat) (Af : Nat → Int32) (x : Int) (y : Int) (f0 : fs[0]? = some (.ref Ma)) (hM : M0 Af) (h9x : -2147483648 ≤ x ∧ x < 2147483648) (h9y : -2147483648 ≤ y ∧ y < 2147483648) : RP l yX12_areTwo cX12_areTwo 3 (some .boolean) 1 D k [.ref hm, .int (iZ x), .int (iZ y)] [(hm, .inr (12, fs)), (Ma, .inl (k 1, 5340, .inl Af))] (fun z => (z = 1 ∧ ((0 ≤ x ∧ x < gz Af 0) ∧ (0 ≤ y ∧ y < gz Af 0) ∧ ¬ x = y)) ∨ (z = 0 ∧ ¬ ((0 ≤ x ∧ x < gz Af 0) ∧ (0 ≤ y ∧ y < gz Af 0) ∧ ¬ x = y))) := by
  refine MRP (by decide) (Nat.le_of_ble_eq_true rfl) (fun p e s m below meth c ls hx hb hml hr hlocks hts hown hKK hP hl => ?_)
  have hK := hKK.1
  have hl : lv_has ls 3 [(0, .ref hm), (1, .int (iZ x)), (2, .int (iZ y))] := hl
  obtain ⟨m0, m1, m3, m4, m5, mF, mO, mS⟩ := id hM
  refine lv_aload_n hx hb dX12_areTwo_0 rfl (lv_at hl 0 rfl) ?_
  refine lv_iload_n hx hb dX12_areTwo_1 rfl (lv_at hl 1 rfl) ?_
  refine CPV (As := [.int (iZ x)]) (rest := []) hx hb hml hown hts hKK hP (m_isRock l D k fs hm Ma Af x f0 hM ⟨by omega, by omega⟩) ci_X12_isRock qm_X12_243 ⟨Nat.le_of_ble_eq_true rfl, Nat.le_of_ble_eq_true rfl⟩ ⟨Nat.le_of_ble_eq_true rfl, Nat.le_of_ble_eq_true rfl⟩ 0 rfl rfl rfl hl.1 rfl (Nat.le_of_ble_eq_true rfl) dX12_areTwo_2 (fun z_1 hz_1 => ?_)
  rcases hz_1 with ⟨qz_1, hz_1⟩ | ⟨qz_1, hz_1⟩
  ·
    subst qz_1
    refine lv_if_eq (tgt := 25) hx hb dX12_areTwo_5 rfl (fun c => absurd c (by decide)) (fun _ => ?_)
    refine lv_aload_n hx hb dX12_areTwo_8 rfl (lv_at hl 0 rfl) ?_
    refine lv_iload_n hx hb dX12_areTwo_9 rfl (lv_at hl 2 rfl) ?_
    refine CPV (As := [.int (iZ y)]) (rest := []) hx hb hml hown hts hKK hP (m_isRock l D k fs hm Ma Af y f0 hM ⟨by omega, by omega⟩) ci_X12_isRock qm_X12_243 ⟨Nat.le_of_ble_eq_true rfl, Nat.le_of_ble_eq_true rfl⟩ ⟨Nat.le_of_ble_eq_true rfl, Nat.le_of_ble_eq_true rfl⟩ 0 rfl rfl rfl hl.1 rfl (Nat.le_of_ble_eq_true rfl) dX12_areTwo_10 (fun z_3 hz_3 => ?_)
    rcases hz_3 with ⟨qz_3, hz_3⟩ | ⟨qz_3, hz_3⟩
    ·
      subst qz_3
      refine lv_if_eq (tgt := 25) hx hb dX12_areTwo_13 rfl (fun c => absurd c (by decide)) (fun _ => ?_)
      refine lv_iload_n hx hb dX12_areTwo_16 rfl (lv_at hl 1 rfl) ?_
      refine lv_iload_n hx hb dX12_areTwo_17 rfl (lv_at hl 2 rfl) ?_
      refine lv_icmp_eq (tgt := 25) hx hb dX12_areTwo_18 rfl (fun c_5 => ?_) (fun c_5 => ?_)
      ·
        have c_5 := (zeq (x := iZ x) (y := iZ y) rfl rfl ⟨by omega, by omega⟩ ⟨by omega, by omega⟩).mp c_5
        refine lv_iconst (v := iZ 0) hx hb dX12_areTwo_25 rfl ?_
        exact EPz hx hb hr hlocks (by omega) (by omega) dX12_areTwo_26
      ·
        have c_5 := mt (zeq (x := iZ x) (y := iZ y) rfl rfl ⟨by omega, by omega⟩ ⟨by omega, by omega⟩).mpr c_5
        refine lv_iconst (v := iZ 1) hx hb dX12_areTwo_21 rfl ?_
        refine lv_goto (tgt := 26) hx hb dX12_areTwo_22 rfl ?_
        exact EPz hx hb hr hlocks (by omega) (by omega) dX12_areTwo_26
    ·
      subst qz_3
      refine lv_if_eq (tgt := 25) hx hb dX12_areTwo_13 rfl (fun _ => ?_) (fun c => absurd (by decide) c)
      refine lv_iconst (v := iZ 0) hx hb dX12_areTwo_25 rfl ?_
      exact EPz hx hb hr hlocks (by omega) (by omega) dX12_areTwo_26
  ·
    subst qz_1
    refine lv_if_eq (tgt := 25) hx hb dX12_areTwo_5 rfl (fun _ => ?_) (fun c => absurd (by decide) c)
    refine lv_iconst (v := iZ 0) hx hb dX12_areTwo_25 rfl ?_
    exact EPz hx hb hr hlocks (by omega) (by omega) dX12_areTwo_26
set_option maxHeartbeats 4000000 in
set_option maxRecDepth 100000 in
theorem m_isSent (l : Launch) (D : va_G) (k : Nat → ClassId) (fs : List Value) (hm : Nat) (Ma : Nat) (Af : Nat → Int32) (x : Int) (w : Int) (y : Int) (f0 : fs[0]? = some (.ref Ma)) (hM : M0 Af) (h9x : -2147483648 ≤ x ∧ x < 2147483648) (h9w : -2147483648 ≤ w ∧ w < 2147483648) (h9y : -2147483648 ≤ y ∧ y < 2147483648) : RP l yX12_isSent cX12_isSent 4 (some .boolean) 1 D k [.ref hm, .int (iZ x), .int (iZ w), .int (iZ y)] [(hm, .inr (12, fs)), (Ma, .inl (k 1, 5340, .inl Af))] (fun z => (z = 1 ∧ ((0 ≤ x ∧ x < gz Af 0) ∧ (0 ≤ w ∧ w ≤ 400) ∧ (0 ≤ y ∧ y < gz Af 0))) ∨ (z = 0 ∧ ¬ ((0 ≤ x ∧ x < gz Af 0) ∧ (0 ≤ w ∧ w ≤ 400) ∧ (0 ≤ y ∧ y < gz Af 0)))) := by
  refine MRP (by decide) (Nat.le_of_ble_eq_true rfl) (fun p e s m below meth c ls hx hb hml hr hlocks hts hown hKK hP hl => ?_)
  have hK := hKK.1
  have hl : lv_has ls 4 [(0, .ref hm), (1, .int (iZ x)), (2, .int (iZ w)), (3, .int (iZ y))] := hl
  obtain ⟨m0, m1, m3, m4, m5, mF, mO, mS⟩ := id hM
  refine lv_aload_n hx hb dX12_isSent_0 rfl (lv_at hl 0 rfl) ?_
  refine lv_iload_n hx hb dX12_isSent_1 rfl (lv_at hl 1 rfl) ?_
  refine CPV (As := [.int (iZ x)]) (rest := []) hx hb hml hown hts hKK hP (m_isRock l D k fs hm Ma Af x f0 hM ⟨by omega, by omega⟩) ci_X12_isRock qm_X12_243 ⟨Nat.le_of_ble_eq_true rfl, Nat.le_of_ble_eq_true rfl⟩ ⟨Nat.le_of_ble_eq_true rfl, Nat.le_of_ble_eq_true rfl⟩ 0 rfl rfl rfl hl.1 rfl (Nat.le_of_ble_eq_true rfl) dX12_isSent_2 (fun z_1 hz_1 => ?_)
  rcases hz_1 with ⟨qz_1, hz_1⟩ | ⟨qz_1, hz_1⟩
  ·
    subst qz_1
    refine lv_if_eq (tgt := 27) hx hb dX12_isSent_5 rfl (fun c => absurd c (by decide)) (fun _ => ?_)
    refine lv_aload_n hx hb dX12_isSent_8 rfl (lv_at hl 0 rfl) ?_
    refine lv_iload_n hx hb dX12_isSent_9 rfl (lv_at hl 3 rfl) ?_
    refine CPV (As := [.int (iZ y)]) (rest := []) hx hb hml hown hts hKK hP (m_isRock l D k fs hm Ma Af y f0 hM ⟨by omega, by omega⟩) ci_X12_isRock qm_X12_243 ⟨Nat.le_of_ble_eq_true rfl, Nat.le_of_ble_eq_true rfl⟩ ⟨Nat.le_of_ble_eq_true rfl, Nat.le_of_ble_eq_true rfl⟩ 0 rfl rfl rfl hl.1 rfl (Nat.le_of_ble_eq_true rfl) dX12_isSent_10 (fun z_3 hz_3 => ?_)
    rcases hz_3 with ⟨qz_3, hz_3⟩ | ⟨qz_3, hz_3⟩
    ·
      subst qz_3
      refine lv_if_eq (tgt := 27) hx hb dX12_isSent_13 rfl (fun c => absurd c (by decide)) (fun _ => ?_)
      refine lv_iload_n hx hb dX12_isSent_16 rfl (lv_at hl 2 rfl) ?_
      refine CPS (As := [.int (iZ w)]) (rest := []) hx hb hml hown hts hKK (hP.sub (ws' := []) [] rfl) (m_isWeek l D k w ⟨by omega, by omega⟩) ci_X12_isWeek qm_X12_268 ⟨Nat.le_of_ble_eq_true rfl, Nat.le_of_ble_eq_true rfl⟩ ⟨Nat.le_of_ble_eq_true rfl, Nat.le_of_ble_eq_true rfl⟩ rfl hl.1 rfl (Nat.le_of_ble_eq_true rfl) dX12_isSent_17 (fun z_5 hz_5 => ?_)
      rcases hz_5 with ⟨qz_5, hz_5⟩ | ⟨qz_5, hz_5⟩
      ·
        subst qz_5
        refine lv_if_eq (tgt := 27) hx hb dX12_isSent_20 rfl (fun c => absurd c (by decide)) (fun _ => ?_)
        refine lv_iconst (v := iZ 1) hx hb dX12_isSent_23 rfl ?_
        refine lv_goto (tgt := 28) hx hb dX12_isSent_24 rfl ?_
        exact EPz hx hb hr hlocks (by omega) (by omega) dX12_isSent_28
      ·
        subst qz_5
        refine lv_if_eq (tgt := 27) hx hb dX12_isSent_20 rfl (fun _ => ?_) (fun c => absurd (by decide) c)
        refine lv_iconst (v := iZ 0) hx hb dX12_isSent_27 rfl ?_
        exact EPz hx hb hr hlocks (by omega) (by omega) dX12_isSent_28
    ·
      subst qz_3
      refine lv_if_eq (tgt := 27) hx hb dX12_isSent_13 rfl (fun _ => ?_) (fun c => absurd (by decide) c)
      refine lv_iconst (v := iZ 0) hx hb dX12_isSent_27 rfl ?_
      exact EPz hx hb hr hlocks (by omega) (by omega) dX12_isSent_28
  ·
    subst qz_1
    refine lv_if_eq (tgt := 27) hx hb dX12_isSent_5 rfl (fun _ => ?_) (fun c => absurd (by decide) c)
    refine lv_iconst (v := iZ 0) hx hb dX12_isSent_27 rfl ?_
    exact EPz hx hb hr hlocks (by omega) (by omega) dX12_isSent_28
set_option maxHeartbeats 4000000 in
set_option maxRecDepth 100000 in
theorem m_isNews (l : Launch) (D : va_G) (k : Nat → ClassId) (fs : List Value) (hm : Nat) (Ma : Nat) (Af : Nat → Int32) (x : Int) (w : Int) (f0 : fs[0]? = some (.ref Ma)) (hM : M0 Af) (h9x : -2147483648 ≤ x ∧ x < 2147483648) (h9w : -2147483648 ≤ w ∧ w < 2147483648) : RP l yX12_isNews cX12_isNews 3 (some .boolean) 1 D k [.ref hm, .int (iZ x), .int (iZ w)] [(hm, .inr (12, fs)), (Ma, .inl (k 1, 5340, .inl Af))] (fun z => (z = 1 ∧ ((0 ≤ x ∧ x < gz Af 0) ∧ (0 ≤ w ∧ w ≤ 400))) ∨ (z = 0 ∧ ¬ ((0 ≤ x ∧ x < gz Af 0) ∧ (0 ≤ w ∧ w ≤ 400)))) := by
  refine MRP (by decide) (Nat.le_of_ble_eq_true rfl) (fun p e s m below meth c ls hx hb hml hr hlocks hts hown hKK hP hl => ?_)
  have hK := hKK.1
  have hl : lv_has ls 3 [(0, .ref hm), (1, .int (iZ x)), (2, .int (iZ w))] := hl
  obtain ⟨m0, m1, m3, m4, m5, mF, mO, mS⟩ := id hM
  refine lv_aload_n hx hb dX12_isNews_0 rfl (lv_at hl 0 rfl) ?_
  refine lv_iload_n hx hb dX12_isNews_1 rfl (lv_at hl 1 rfl) ?_
  refine CPV (As := [.int (iZ x)]) (rest := []) hx hb hml hown hts hKK hP (m_isRock l D k fs hm Ma Af x f0 hM ⟨by omega, by omega⟩) ci_X12_isRock qm_X12_243 ⟨Nat.le_of_ble_eq_true rfl, Nat.le_of_ble_eq_true rfl⟩ ⟨Nat.le_of_ble_eq_true rfl, Nat.le_of_ble_eq_true rfl⟩ 0 rfl rfl rfl hl.1 rfl (Nat.le_of_ble_eq_true rfl) dX12_isNews_2 (fun z_1 hz_1 => ?_)
  rcases hz_1 with ⟨qz_1, hz_1⟩ | ⟨qz_1, hz_1⟩
  ·
    subst qz_1
    refine lv_if_eq (tgt := 19) hx hb dX12_isNews_5 rfl (fun c => absurd c (by decide)) (fun _ => ?_)
    refine lv_iload_n hx hb dX12_isNews_8 rfl (lv_at hl 2 rfl) ?_
    refine CPS (As := [.int (iZ w)]) (rest := []) hx hb hml hown hts hKK (hP.sub (ws' := []) [] rfl) (m_isWeek l D k w ⟨by omega, by omega⟩) ci_X12_isWeek qm_X12_268 ⟨Nat.le_of_ble_eq_true rfl, Nat.le_of_ble_eq_true rfl⟩ ⟨Nat.le_of_ble_eq_true rfl, Nat.le_of_ble_eq_true rfl⟩ rfl hl.1 rfl (Nat.le_of_ble_eq_true rfl) dX12_isNews_9 (fun z_3 hz_3 => ?_)
    rcases hz_3 with ⟨qz_3, hz_3⟩ | ⟨qz_3, hz_3⟩
    ·
      subst qz_3
      refine lv_if_eq (tgt := 19) hx hb dX12_isNews_12 rfl (fun c => absurd c (by decide)) (fun _ => ?_)
      refine lv_iconst (v := iZ 1) hx hb dX12_isNews_15 rfl ?_
      refine lv_goto (tgt := 20) hx hb dX12_isNews_16 rfl ?_
      exact EPz hx hb hr hlocks (by omega) (by omega) dX12_isNews_20
    ·
      subst qz_3
      refine lv_if_eq (tgt := 19) hx hb dX12_isNews_12 rfl (fun _ => ?_) (fun c => absurd (by decide) c)
      refine lv_iconst (v := iZ 0) hx hb dX12_isNews_19 rfl ?_
      exact EPz hx hb hr hlocks (by omega) (by omega) dX12_isNews_20
  ·
    subst qz_1
    refine lv_if_eq (tgt := 19) hx hb dX12_isNews_5 rfl (fun _ => ?_) (fun c => absurd (by decide) c)
    refine lv_iconst (v := iZ 0) hx hb dX12_isNews_19 rfl ?_
    exact EPz hx hb hr hlocks (by omega) (by omega) dX12_isNews_20
set_option maxHeartbeats 4000000 in
set_option maxRecDepth 100000 in
theorem m_isOrder (l : Launch) (D : va_G) (k : Nat → ClassId) (fs : List Value) (hm : Nat) (Ma : Nat) (Af : Nat → Int32) (x : Int) (f0 : fs[0]? = some (.ref Ma)) (hM : M0 Af) (h9x : -2147483648 ≤ x ∧ x < 2147483648) : RP l yX12_isOrder cX12_isOrder 2 (some .boolean) 0 D k [.ref hm, .int (iZ x)] [(hm, .inr (12, fs)), (Ma, .inl (k 1, 5340, .inl Af))] (fun z => (z = 1 ∧ (0 ≤ x ∧ x < gz Af 4)) ∨ (z = 0 ∧ ¬ (0 ≤ x ∧ x < gz Af 4))) := by
  refine MRP (by decide) (Nat.le_of_ble_eq_true rfl) (fun p e s m below meth c ls hx hb hml hr hlocks hts hown hKK hP hl => ?_)
  have hK := hKK.1
  have hl : lv_has ls 2 [(0, .ref hm), (1, .int (iZ x))] := hl
  obtain ⟨m0, m1, m3, m4, m5, mF, mO, mS⟩ := id hM
  refine lv_iload_n hx hb dX12_isOrder_0 rfl (lv_at hl 1 rfl) ?_
  refine lv_if_lt (tgt := 18) hx hb dX12_isOrder_1 rfl (fun c_1 => ?_) (fun c_1 => ?_)
  ·
    have c_1 := (zlt (x := iZ x) (y := iZ 0) rfl rfl ⟨by omega, by omega⟩ wn_0).mp c_1
    refine lv_iconst (v := iZ 0) hx hb dX12_isOrder_18 rfl ?_
    exact EPz hx hb hr hlocks (by omega) (by omega) dX12_isOrder_19
  ·
    have c_1 := mt (zlt (x := iZ x) (y := iZ 0) rfl rfl ⟨by omega, by omega⟩ wn_0).mpr c_1
    refine lv_iload_n hx hb dX12_isOrder_4 rfl (lv_at hl 1 rfl) ?_
    refine lv_aload_n hx hb dX12_isOrder_5 rfl (lv_at hl 0 rfl) ?_
    refine va_get (D := D) (ci := 12) (v := .ref Ma) (C := RX12) (T := TX12) (N := 36) hx hb hts iX12 hown hK hP 0 rfl rfl 0 (bl rfl) (hts _ qf_X12_7) (fun _ h => h) f0 dX12_isOrder_6 ?_
    refine lv_iconst (v := iZ 4) hx hb dX12_isOrder_9 rfl ?_
    refine va_iald hx hb hK hP 1 1 rfl rfl (zin (e := 4) (n := 5340) ⟨by omega, by omega⟩ (bl rfl)) dX12_isOrder_10 ?_
    refine lv_topi (fun x_2 ex_2 => ?_)
    obtain rfl : x_2 = iZ (gz Af 4) := ex_2.trans (gz_eq ⟨by omega, by omega⟩)
    have h_3 := gz_rg Af 4
    refine lv_icmp_ge (tgt := 18) hx hb dX12_isOrder_11 rfl (fun c_4 => ?_) (fun c_4 => ?_)
    ·
      have c_4 := (zle (x := iZ (gz Af 4)) (y := iZ x) rfl rfl (gz_rg Af 4) ⟨by omega, by omega⟩).mp c_4
      refine lv_iconst (v := iZ 0) hx hb dX12_isOrder_18 rfl ?_
      exact EPz hx hb hr hlocks (by omega) (by omega) dX12_isOrder_19
    ·
      have c_4 := mt (zle (x := iZ (gz Af 4)) (y := iZ x) rfl rfl (gz_rg Af 4) ⟨by omega, by omega⟩).mpr c_4
      refine lv_iconst (v := iZ 1) hx hb dX12_isOrder_14 rfl ?_
      refine lv_goto (tgt := 19) hx hb dX12_isOrder_15 rfl ?_
      exact EPz hx hb hr hlocks (by omega) (by omega) dX12_isOrder_19
set_option maxHeartbeats 4000000 in
set_option maxRecDepth 100000 in
theorem m_areOrders (l : Launch) (D : va_G) (k : Nat → ClassId) (fs : List Value) (hm : Nat) (Ma : Nat) (Af : Nat → Int32) (x : Int) (y : Int) (f0 : fs[0]? = some (.ref Ma)) (hM : M0 Af) (h9x : -2147483648 ≤ x ∧ x < 2147483648) (h9y : -2147483648 ≤ y ∧ y < 2147483648) : RP l yX12_areOrders cX12_areOrders 3 (some .boolean) 1 D k [.ref hm, .int (iZ x), .int (iZ y)] [(hm, .inr (12, fs)), (Ma, .inl (k 1, 5340, .inl Af))] (fun z => (z = 1 ∧ ((0 ≤ x ∧ x < gz Af 4) ∧ (0 ≤ y ∧ y < gz Af 4) ∧ ¬ x = y)) ∨ (z = 0 ∧ ¬ ((0 ≤ x ∧ x < gz Af 4) ∧ (0 ≤ y ∧ y < gz Af 4) ∧ ¬ x = y))) := by
  refine MRP (by decide) (Nat.le_of_ble_eq_true rfl) (fun p e s m below meth c ls hx hb hml hr hlocks hts hown hKK hP hl => ?_)
  have hK := hKK.1
  have hl : lv_has ls 3 [(0, .ref hm), (1, .int (iZ x)), (2, .int (iZ y))] := hl
  obtain ⟨m0, m1, m3, m4, m5, mF, mO, mS⟩ := id hM
  refine lv_aload_n hx hb dX12_areOrders_0 rfl (lv_at hl 0 rfl) ?_
  refine lv_iload_n hx hb dX12_areOrders_1 rfl (lv_at hl 1 rfl) ?_
  refine CPV (As := [.int (iZ x)]) (rest := []) hx hb hml hown hts hKK hP (m_isOrder l D k fs hm Ma Af x f0 hM ⟨by omega, by omega⟩) ci_X12_isOrder qm_X12_324 ⟨Nat.le_of_ble_eq_true rfl, Nat.le_of_ble_eq_true rfl⟩ ⟨Nat.le_of_ble_eq_true rfl, Nat.le_of_ble_eq_true rfl⟩ 0 rfl rfl rfl hl.1 rfl (Nat.le_of_ble_eq_true rfl) dX12_areOrders_2 (fun z_1 hz_1 => ?_)
  rcases hz_1 with ⟨qz_1, hz_1⟩ | ⟨qz_1, hz_1⟩
  ·
    subst qz_1
    refine lv_if_eq (tgt := 25) hx hb dX12_areOrders_5 rfl (fun c => absurd c (by decide)) (fun _ => ?_)
    refine lv_aload_n hx hb dX12_areOrders_8 rfl (lv_at hl 0 rfl) ?_
    refine lv_iload_n hx hb dX12_areOrders_9 rfl (lv_at hl 2 rfl) ?_
    refine CPV (As := [.int (iZ y)]) (rest := []) hx hb hml hown hts hKK hP (m_isOrder l D k fs hm Ma Af y f0 hM ⟨by omega, by omega⟩) ci_X12_isOrder qm_X12_324 ⟨Nat.le_of_ble_eq_true rfl, Nat.le_of_ble_eq_true rfl⟩ ⟨Nat.le_of_ble_eq_true rfl, Nat.le_of_ble_eq_true rfl⟩ 0 rfl rfl rfl hl.1 rfl (Nat.le_of_ble_eq_true rfl) dX12_areOrders_10 (fun z_3 hz_3 => ?_)
    rcases hz_3 with ⟨qz_3, hz_3⟩ | ⟨qz_3, hz_3⟩
    ·
      subst qz_3
      refine lv_if_eq (tgt := 25) hx hb dX12_areOrders_13 rfl (fun c => absurd c (by decide)) (fun _ => ?_)
      refine lv_iload_n hx hb dX12_areOrders_16 rfl (lv_at hl 1 rfl) ?_
      refine lv_iload_n hx hb dX12_areOrders_17 rfl (lv_at hl 2 rfl) ?_
      refine lv_icmp_eq (tgt := 25) hx hb dX12_areOrders_18 rfl (fun c_5 => ?_) (fun c_5 => ?_)
      ·
        have c_5 := (zeq (x := iZ x) (y := iZ y) rfl rfl ⟨by omega, by omega⟩ ⟨by omega, by omega⟩).mp c_5
        refine lv_iconst (v := iZ 0) hx hb dX12_areOrders_25 rfl ?_
        exact EPz hx hb hr hlocks (by omega) (by omega) dX12_areOrders_26
      ·
        have c_5 := mt (zeq (x := iZ x) (y := iZ y) rfl rfl ⟨by omega, by omega⟩ ⟨by omega, by omega⟩).mpr c_5
        refine lv_iconst (v := iZ 1) hx hb dX12_areOrders_21 rfl ?_
        refine lv_goto (tgt := 26) hx hb dX12_areOrders_22 rfl ?_
        exact EPz hx hb hr hlocks (by omega) (by omega) dX12_areOrders_26
    ·
      subst qz_3
      refine lv_if_eq (tgt := 25) hx hb dX12_areOrders_13 rfl (fun _ => ?_) (fun c => absurd (by decide) c)
      refine lv_iconst (v := iZ 0) hx hb dX12_areOrders_25 rfl ?_
      exact EPz hx hb hr hlocks (by omega) (by omega) dX12_areOrders_26
  ·
    subst qz_1
    refine lv_if_eq (tgt := 25) hx hb dX12_areOrders_5 rfl (fun _ => ?_) (fun c => absurd (by decide) c)
    refine lv_iconst (v := iZ 0) hx hb dX12_areOrders_25 rfl ?_
    exact EPz hx hb hr hlocks (by omega) (by omega) dX12_areOrders_26
set_option maxHeartbeats 4000000 in
set_option maxRecDepth 100000 in
theorem m_dir (l : Launch) (D : va_G) (k : Nat → ClassId) (fs : List Value) (hm : Nat) (Ma : Nat) (Af : Nat → Int32) (x : Int) (w : Int) (f0 : fs[0]? = some (.ref Ma)) (hM : M0 Af) (h9x : 0 ≤ x ∧ x < gz Af 0) (h9w : 0 ≤ w ∧ w ≤ 1000) : RD l yX12_directionOf cX12_directionOf 3 (some .int) 1 D k [.ref hm, .int (iZ x), .int (iZ w)] [(hm, .inr (12, fs)), (Ma, .inl (k 1, 5340, .inl Af))] (iZ (hd (sh Af 10) x w)) := by
  refine MR (by decide) (Nat.le_of_ble_eq_true rfl) (fun p e s m below meth c ls hx hb hml hr hlocks hts hown hKK hP hl => ?_)
  have hK := hKK.1
  have hl : lv_has ls 3 [(0, .ref hm), (1, .int (iZ x)), (2, .int (iZ w))] := hl
  obtain ⟨m0, m1, m3, m4, m5, mF, mO, mS⟩ := id hM
  have hfx := hM.fx x h9x.1 h9x.2
  refine lv_aload_n hx hb dX12_directionOf_0 rfl (lv_at hl 0 rfl) ?_
  refine va_get (D := D) (ci := 12) (v := .ref Ma) (C := RX12) (T := TX12) (N := 36) hx hb hts iX12 hown hK hP 0 rfl rfl 0 (bl rfl) (hts _ qf_X12_7) (fun _ h => h) f0 dX12_directionOf_1 ?_
  refine lv_iload_n hx hb dX12_directionOf_4 rfl (lv_at hl 1 rfl) ?_
  refine CRS (As := [.int (iZ x)]) (rest := [.ref Ma]) hx hb hml hown hts hKK (hP.sub (ws' := []) [] rfl) (m_rockRow l D k x) ci_X12_rockRow qm_X12_246 ⟨Nat.le_of_ble_eq_true rfl, Nat.le_of_ble_eq_true rfl⟩ ⟨Nat.le_of_ble_eq_true rfl, Nat.le_of_ble_eq_true rfl⟩ rfl hl.1 rfl (Nat.le_of_ble_eq_true rfl) dX12_directionOf_5 ?_
  refine lv_iconst (v := iZ 2) hx hb dX12_directionOf_8 rfl ?_
  refine lv_iadd hx hb dX12_directionOf_9 ?_
  refine lv_topi (fun x_1 ex_1 => ?_)
  obtain rfl : x_1 = iZ ((10 + (6 * x)) + 2) := ex_1.trans (iZ_add (10 + (6 * x)) 2)
  refine va_iald hx hb hK hP 1 1 rfl rfl (zin (e := ((10 + (6 * x)) + 2)) (n := 5340) ⟨by omega, by omega⟩ (bl rfl)) dX12_directionOf_10 ?_
  refine lv_topi (fun x_2 ex_2 => ?_)
  obtain rfl : x_2 = iZ (gz Af ((10 + (6 * x)) + 2)) := ex_2.trans (gz_eq ⟨by omega, by omega⟩)
  have h_3 := gz_rg Af ((10 + (6 * x)) + 2)
  refine lv_bipush (v := iZ 12) hx hb dX12_directionOf_11 bip_12 ?_
  refine lv_iload_n hx hb dX12_directionOf_13 rfl (lv_at hl 2 rfl) ?_
  refine lv_imul hx hb dX12_directionOf_14 ?_
  refine lv_topi (fun x_4 ex_4 => ?_)
  obtain rfl : x_4 = iZ (12 * w) := ex_4.trans (iZ_mul 12 w)
  refine lv_aload_n hx hb dX12_directionOf_15 rfl (lv_at hl 0 rfl) ?_
  refine va_get (D := D) (ci := 12) (v := .ref Ma) (C := RX12) (T := TX12) (N := 36) hx hb hts iX12 hown hK hP 0 rfl rfl 0 (bl rfl) (hts _ qf_X12_7) (fun _ h => h) f0 dX12_directionOf_16 ?_
  refine lv_iload_n hx hb dX12_directionOf_19 rfl (lv_at hl 1 rfl) ?_
  refine CRS (As := [.int (iZ x)]) (rest := [.ref Ma, .int (iZ (12 * w)), .int (iZ (gz Af ((10 + (6 * x)) + 2)))]) hx hb hml hown hts hKK (hP.sub (ws' := []) [] rfl) (m_rockRow l D k x) ci_X12_rockRow qm_X12_246 ⟨Nat.le_of_ble_eq_true rfl, Nat.le_of_ble_eq_true rfl⟩ ⟨Nat.le_of_ble_eq_true rfl, Nat.le_of_ble_eq_true rfl⟩ rfl hl.1 rfl (Nat.le_of_ble_eq_true rfl) dX12_directionOf_20 ?_
  refine lv_iconst (v := iZ 1) hx hb dX12_directionOf_23 rfl ?_
  refine lv_iadd hx hb dX12_directionOf_24 ?_
  refine lv_topi (fun x_5 ex_5 => ?_)
  obtain rfl : x_5 = iZ ((10 + (6 * x)) + 1) := ex_5.trans (iZ_add (10 + (6 * x)) 1)
  refine va_iald hx hb hK hP 1 1 rfl rfl (zin (e := ((10 + (6 * x)) + 1)) (n := 5340) ⟨by omega, by omega⟩ (bl rfl)) dX12_directionOf_25 ?_
  refine lv_topi (fun x_6 ex_6 => ?_)
  obtain rfl : x_6 = iZ (gz Af ((10 + (6 * x)) + 1)) := ex_6.trans (gz_eq ⟨by omega, by omega⟩)
  have h_7 := gz_rg Af ((10 + (6 * x)) + 1)
  refine lv_idiv hx hb dX12_directionOf_26 (by rw [zne rfl ⟨by omega, by omega⟩]; omega) ?_
  have hd_26 := zdiv_b (a := (12 * w)) (b := (gz Af ((10 + (6 * x)) + 1))) (by omega) (by omega)
  refine lv_topi (fun x_8 ex_8 => ?_)
  obtain rfl : x_8 = iZ ((12 * w) / (gz Af ((10 + (6 * x)) + 1))) := ex_8.trans (iZ_div (a := (12 * w)) (b := (gz Af ((10 + (6 * x)) + 1))) (by omega) (by omega) (by omega) (by omega))
  refine lv_iadd hx hb dX12_directionOf_27 ?_
  refine lv_topi (fun x_9 ex_9 => ?_)
  obtain rfl : x_9 = iZ ((gz Af ((10 + (6 * x)) + 2)) + ((12 * w) / (gz Af ((10 + (6 * x)) + 1)))) := ex_9.trans (iZ_add (gz Af ((10 + (6 * x)) + 2)) ((12 * w) / (gz Af ((10 + (6 * x)) + 1))))
  refine lv_bipush (v := iZ 12) hx hb dX12_directionOf_28 bip_12 ?_
  refine lv_irem hx hb dX12_directionOf_30 (by rw [zne rfl ⟨by omega, by omega⟩]; omega) ?_
  refine lv_topi (fun x_10 ex_10 => ?_)
  obtain rfl : x_10 = iZ (((gz Af ((10 + (6 * x)) + 2)) + ((12 * w) / (gz Af ((10 + (6 * x)) + 1)))) % 12) := ex_10.trans (iZ_rem (a := ((gz Af ((10 + (6 * x)) + 2)) + ((12 * w) / (gz Af ((10 + (6 * x)) + 1))))) (b := 12) (by omega) (by omega) (by omega) (by omega))
  exact ERi hx hb hr hlocks (congrArg iZ (hd_at Af w h9x.1)) dX12_directionOf_31
set_option maxHeartbeats 4000000 in
set_option maxRecDepth 100000 in
theorem m_light (l : Launch) (D : va_G) (k : Nat → ClassId) (fs : List Value) (hm : Nat) (Ma : Nat) (Af : Nat → Int32) (x : Int) (w : Int) (y : Int) (t : Int) (f0 : fs[0]? = some (.ref Ma)) (hM : M0 Af) (h9x : 0 ≤ x ∧ x < gz Af 0) (h9w : 0 ≤ w ∧ w ≤ 1000) (h9y : 0 ≤ y ∧ y < gz Af 0) (h9t : 0 ≤ t ∧ t ≤ 1000) : RD l yX12_lightOf cX12_lightOf 8 (some .int) 2 D k [.ref hm, .int (iZ x), .int (iZ w), .int (iZ y), .int (iZ t)] [(hm, .inr (12, fs)), (Ma, .inl (k 1, 5340, .inl Af))] (iZ (lt (sh Af 10) x w y t)) := by
  refine MR (by decide) (Nat.le_of_ble_eq_true rfl) (fun p e s m below meth c ls hx hb hml hr hlocks hts hown hKK hP hl => ?_)
  have hK := hKK.1
  have hl : lv_has ls 8 [(0, .ref hm), (1, .int (iZ x)), (2, .int (iZ w)), (3, .int (iZ y)), (4, .int (iZ t))] := hl
  obtain ⟨m0, m1, m3, m4, m5, mF, mO, mS⟩ := id hM
  have hfx := hM.fx x h9x.1 h9x.2
  have hfy := hM.fx y h9y.1 h9y.2
  refine lv_iload_n hx hb dX12_lightOf_0 rfl (lv_at hl 1 rfl) ?_
  refine lv_iload_n hx hb dX12_lightOf_1 rfl (lv_at hl 3 rfl) ?_
  refine lv_icmp_ne (tgt := 7) hx hb dX12_lightOf_2 rfl (fun c_1 => ?_) (fun c_1 => ?_)
  ·
    have c_1 := mt (zeq (x := iZ x) (y := iZ y) rfl rfl ⟨by omega, by omega⟩ ⟨by omega, by omega⟩).mpr c_1
    refine lv_aload_n hx hb dX12_lightOf_7 rfl (lv_at hl 0 rfl) ?_
    refine va_get (D := D) (ci := 12) (v := .ref Ma) (C := RX12) (T := TX12) (N := 36) hx hb hts iX12 hown hK hP 0 rfl rfl 0 (bl rfl) (hts _ qf_X12_7) (fun _ h => h) f0 dX12_lightOf_8 ?_
    refine lv_iload_n hx hb dX12_lightOf_11 rfl (lv_at hl 1 rfl) ?_
    refine CRS (As := [.int (iZ x)]) (rest := [.ref Ma]) hx hb hml hown hts hKK (hP.sub (ws' := []) [] rfl) (m_rockRow l D k x) ci_X12_rockRow qm_X12_246 ⟨Nat.le_of_ble_eq_true rfl, Nat.le_of_ble_eq_true rfl⟩ ⟨Nat.le_of_ble_eq_true rfl, Nat.le_of_ble_eq_true rfl⟩ rfl hl.1 rfl (Nat.le_of_ble_eq_true rfl) dX12_lightOf_12 ?_
    refine va_iald hx hb hK hP 1 1 rfl rfl (zin (e := (10 + (6 * x))) (n := 5340) ⟨by omega, by omega⟩ (bl rfl)) dX12_lightOf_15 ?_
    refine lv_topi (fun x_2 ex_2 => ?_)
    obtain rfl : x_2 = iZ (gz Af (10 + (6 * x))) := ex_2.trans (gz_eq ⟨by omega, by omega⟩)
    have h_3 := gz_rg Af (10 + (6 * x))
    refine lv_istore (lv' := [(5, .int (iZ (gz Af (10 + (6 * x))))), (0, .ref hm), (1, .int (iZ x)), (2, .int (iZ w)), (3, .int (iZ y)), (4, .int (iZ t))]) hx hb dX12_lightOf_16 hl (bl rfl) rfl (fun ls hl => ?_)
    refine lv_aload_n hx hb dX12_lightOf_18 rfl (lv_at hl 1 rfl) ?_
    refine va_get (D := D) (ci := 12) (v := .ref Ma) (C := RX12) (T := TX12) (N := 36) hx hb hts iX12 hown hK hP 0 rfl rfl 0 (bl rfl) (hts _ qf_X12_7) (fun _ h => h) f0 dX12_lightOf_19 ?_
    refine lv_iload_n hx hb dX12_lightOf_22 rfl (lv_at hl 4 rfl) ?_
    refine CRS (As := [.int (iZ y)]) (rest := [.ref Ma]) hx hb hml hown hts hKK (hP.sub (ws' := []) [] rfl) (m_rockRow l D k y) ci_X12_rockRow qm_X12_246 ⟨Nat.le_of_ble_eq_true rfl, Nat.le_of_ble_eq_true rfl⟩ ⟨Nat.le_of_ble_eq_true rfl, Nat.le_of_ble_eq_true rfl⟩ rfl hl.1 rfl (Nat.le_of_ble_eq_true rfl) dX12_lightOf_23 ?_
    refine va_iald hx hb hK hP 1 1 rfl rfl (zin (e := (10 + (6 * y))) (n := 5340) ⟨by omega, by omega⟩ (bl rfl)) dX12_lightOf_26 ?_
    refine lv_topi (fun x_4 ex_4 => ?_)
    obtain rfl : x_4 = iZ (gz Af (10 + (6 * y))) := ex_4.trans (gz_eq ⟨by omega, by omega⟩)
    have h_5 := gz_rg Af (10 + (6 * y))
    refine lv_istore (lv' := [(6, .int (iZ (gz Af (10 + (6 * y))))), (5, .int (iZ (gz Af (10 + (6 * x))))), (0, .ref hm), (1, .int (iZ x)), (2, .int (iZ w)), (3, .int (iZ y)), (4, .int (iZ t))]) hx hb dX12_lightOf_27 hl (bl rfl) rfl (fun ls hl => ?_)
    refine lv_aload_n hx hb dX12_lightOf_29 rfl (lv_at hl 2 rfl) ?_
    refine lv_iload_n hx hb dX12_lightOf_30 rfl (lv_at hl 3 rfl) ?_
    refine lv_iload_n hx hb dX12_lightOf_31 rfl (lv_at hl 4 rfl) ?_
    refine CRV (As := [.int (iZ x), .int (iZ w)]) (rest := []) hx hb hml hown hts hKK hP (m_dir l D k fs hm Ma Af x w f0 hM ⟨by omega, by omega⟩ ⟨by omega, by omega⟩) ci_X12_directionOf qm_X12_249 ⟨Nat.le_of_ble_eq_true rfl, Nat.le_of_ble_eq_true rfl⟩ ⟨Nat.le_of_ble_eq_true rfl, Nat.le_of_ble_eq_true rfl⟩ 0 rfl rfl rfl hl.1 rfl (Nat.le_of_ble_eq_true rfl) dX12_lightOf_32 ?_
    have hh_h_6 := hd_rg (sh Af 10) x w
    refine lv_aload_n hx hb dX12_lightOf_35 rfl (lv_at hl 2 rfl) ?_
    refine lv_iload_n hx hb dX12_lightOf_36 rfl (lv_at hl 5 rfl) ?_
    refine lv_iload hx hb dX12_lightOf_37 (lv_at hl 6 rfl) ?_
    refine CRV (As := [.int (iZ y), .int (iZ t)]) (rest := [.int (iZ (hd (sh Af 10) x w))]) hx hb hml hown hts hKK hP (m_dir l D k fs hm Ma Af y t f0 hM ⟨by omega, by omega⟩ ⟨by omega, by omega⟩) ci_X12_directionOf qm_X12_249 ⟨Nat.le_of_ble_eq_true rfl, Nat.le_of_ble_eq_true rfl⟩ ⟨Nat.le_of_ble_eq_true rfl, Nat.le_of_ble_eq_true rfl⟩ 0 rfl rfl rfl hl.1 rfl (Nat.le_of_ble_eq_true rfl) dX12_lightOf_39 ?_
    have hh_h_7 := hd_rg (sh Af 10) y t
    refine lv_isub hx hb dX12_lightOf_42 ?_
    refine lv_topi (fun x_8 ex_8 => ?_)
    obtain rfl : x_8 = iZ ((hd (sh Af 10) x w) - (hd (sh Af 10) y t)) := ex_8.trans (iZ_sub (hd (sh Af 10) x w) (hd (sh Af 10) y t))
    refine va_mabs (rest := []) hx hb (by rw [hml]; exact hl.1.symm) (own := RX12) hown (hts _ qm_X12_252) (hts _ qt_yJ9_abs_0f7a4) (hts _ qz_J9) (hts _ qc_J9_abs_0f7a4) (Nat.le_of_ble_eq_true rfl) (Nat.le_of_ble_eq_true rfl) (Nat.le_of_ble_eq_true rfl) (Nat.le_of_ble_eq_true rfl) dX12_lightOf_43 ?_
    refine lv_topi (fun x_9 ex_9 => ?_)
    obtain rfl : x_9 = iZ (zab ((hd (sh Af 10) x w) - (hd (sh Af 10) y t))) := ex_9.trans (zabs ⟨by omega, by omega⟩)
    have hab_43 := zab_c ((hd (sh Af 10) x w) - (hd (sh Af 10) y t))
    refine lv_istore (lv' := [(7, .int (iZ (zab ((hd (sh Af 10) x w) - (hd (sh Af 10) y t))))), (6, .int (iZ (gz Af (10 + (6 * y))))), (5, .int (iZ (gz Af (10 + (6 * x))))), (0, .ref hm), (1, .int (iZ x)), (2, .int (iZ w)), (3, .int (iZ y)), (4, .int (iZ t))]) hx hb dX12_lightOf_46 hl (bl rfl) rfl (fun ls hl => ?_)
    refine lv_iload hx hb dX12_lightOf_48 (lv_at hl 0 rfl) ?_
    refine lv_bipush (v := iZ 6) hx hb dX12_lightOf_50 bip_6 ?_
    refine lv_icmp_le (tgt := 62) hx hb dX12_lightOf_52 rfl (fun c_10 => ?_) (fun c_10 => ?_)
    ·
      have c_10 := (zle (x := iZ (zab ((hd (sh Af 10) x w) - (hd (sh Af 10) y t)))) (y := iZ 6) rfl rfl ⟨by omega, by omega⟩ wn_6).mp c_10
      refine lv_iconst (v := iZ 1) hx hb dX12_lightOf_62 rfl ?_
      refine lv_iload hx hb dX12_lightOf_63 (lv_at hl 2 rfl) ?_
      refine lv_iload hx hb dX12_lightOf_65 (lv_at hl 1 rfl) ?_
      refine lv_isub hx hb dX12_lightOf_67 ?_
      refine lv_topi (fun x_11 ex_11 => ?_)
      obtain rfl : x_11 = iZ ((gz Af (10 + (6 * x))) - (gz Af (10 + (6 * y)))) := ex_11.trans (iZ_sub (gz Af (10 + (6 * x))) (gz Af (10 + (6 * y))))
      refine va_mabs (rest := [.int (iZ 1)]) hx hb (by rw [hml]; exact hl.1.symm) (own := RX12) hown (hts _ qm_X12_252) (hts _ qt_yJ9_abs_0f7a4) (hts _ qz_J9) (hts _ qc_J9_abs_0f7a4) (Nat.le_of_ble_eq_true rfl) (Nat.le_of_ble_eq_true rfl) (Nat.le_of_ble_eq_true rfl) (Nat.le_of_ble_eq_true rfl) dX12_lightOf_68 ?_
      refine lv_topi (fun x_12 ex_12 => ?_)
      obtain rfl : x_12 = iZ (zab ((gz Af (10 + (6 * x))) - (gz Af (10 + (6 * y))))) := ex_12.trans (zabs ⟨by omega, by omega⟩)
      have hab_68 := zab_c ((gz Af (10 + (6 * x))) - (gz Af (10 + (6 * y))))
      refine lv_iload hx hb dX12_lightOf_71 (lv_at hl 0 rfl) ?_
      refine lv_iload hx hb dX12_lightOf_73 (lv_at hl 2 rfl) ?_
      refine lv_iload hx hb dX12_lightOf_75 (lv_at hl 1 rfl) ?_
      refine va_mmin (rest := [.int (iZ (zab ((hd (sh Af 10) x w) - (hd (sh Af 10) y t)))), .int (iZ (zab ((gz Af (10 + (6 * x))) - (gz Af (10 + (6 * y)))))), .int (iZ 1)]) hx hb (by rw [hml]; exact hl.1.symm) (own := RX12) hown (hts _ qm_X12_137) (hts _ qt_yJ9_min_7cf53) (hts _ qz_J9) (hts _ qc_J9_min_7cf53) (Nat.le_of_ble_eq_true rfl) (Nat.le_of_ble_eq_true rfl) (Nat.le_of_ble_eq_true rfl) (Nat.le_of_ble_eq_true rfl) dX12_lightOf_77 ?_
      refine lv_topi (fun x_13 ex_13 => ?_)
      obtain rfl : x_13 = iZ (min (gz Af (10 + (6 * x))) (gz Af (10 + (6 * y)))) := ex_13.trans (zmin ⟨by omega, by omega⟩ ⟨by omega, by omega⟩)
      have hm_80 := mul_b (a := (zab ((hd (sh Af 10) x w) - (hd (sh Af 10) y t)))) (b := (min (gz Af (10 + (6 * x))) (gz Af (10 + (6 * y))))) (A := 6) (B := 20) (by omega) (by omega) (by omega) (by omega)
      refine lv_imul hx hb dX12_lightOf_80 ?_
      refine lv_topi (fun x_14 ex_14 => ?_)
      obtain rfl : x_14 = iZ ((zab ((hd (sh Af 10) x w) - (hd (sh Af 10) y t))) * (min (gz Af (10 + (6 * x))) (gz Af (10 + (6 * y))))) := ex_14.trans (iZ_mul (zab ((hd (sh Af 10) x w) - (hd (sh Af 10) y t))) (min (gz Af (10 + (6 * x))) (gz Af (10 + (6 * y)))))
      refine lv_bipush (v := iZ 6) hx hb dX12_lightOf_81 bip_6 ?_
      refine lv_idiv hx hb dX12_lightOf_83 (by rw [zne rfl ⟨by omega, by omega⟩]; omega) ?_
      have hd_83 := zdiv_b (a := ((zab ((hd (sh Af 10) x w) - (hd (sh Af 10) y t))) * (min (gz Af (10 + (6 * x))) (gz Af (10 + (6 * y)))))) (b := 6) (by omega) (by omega)
      refine lv_topi (fun x_15 ex_15 => ?_)
      obtain rfl : x_15 = iZ (((zab ((hd (sh Af 10) x w) - (hd (sh Af 10) y t))) * (min (gz Af (10 + (6 * x))) (gz Af (10 + (6 * y))))) / 6) := ex_15.trans (iZ_div (a := ((zab ((hd (sh Af 10) x w) - (hd (sh Af 10) y t))) * (min (gz Af (10 + (6 * x))) (gz Af (10 + (6 * y)))))) (b := 6) (by omega) (by omega) (by omega) (by omega))
      refine lv_iadd hx hb dX12_lightOf_84 ?_
      refine lv_topi (fun x_16 ex_16 => ?_)
      obtain rfl : x_16 = iZ ((zab ((gz Af (10 + (6 * x))) - (gz Af (10 + (6 * y))))) + (((zab ((hd (sh Af 10) x w) - (hd (sh Af 10) y t))) * (min (gz Af (10 + (6 * x))) (gz Af (10 + (6 * y))))) / 6)) := ex_16.trans (iZ_add (zab ((gz Af (10 + (6 * x))) - (gz Af (10 + (6 * y))))) (((zab ((hd (sh Af 10) x w) - (hd (sh Af 10) y t))) * (min (gz Af (10 + (6 * x))) (gz Af (10 + (6 * y))))) / 6))
      refine va_mmax (rest := []) hx hb (by rw [hml]; exact hl.1.symm) (own := RX12) hown (hts _ qm_X12_255) (hts _ qt_yJ9_max_7cf53) (hts _ qz_J9) (hts _ qc_J9_max_7cf53) (Nat.le_of_ble_eq_true rfl) (Nat.le_of_ble_eq_true rfl) (Nat.le_of_ble_eq_true rfl) (Nat.le_of_ble_eq_true rfl) dX12_lightOf_85 ?_
      refine lv_topi (fun x_17 ex_17 => ?_)
      obtain rfl : x_17 = iZ (max 1 ((zab ((gz Af (10 + (6 * x))) - (gz Af (10 + (6 * y))))) + (((zab ((hd (sh Af 10) x w) - (hd (sh Af 10) y t))) * (min (gz Af (10 + (6 * x))) (gz Af (10 + (6 * y))))) / 6))) := ex_17.trans (zmax ⟨by omega, by omega⟩ ⟨by omega, by omega⟩)
      exact ERi hx hb hr hlocks (congrArg iZ (lt_ref (F := sh Af 10) (a := x) (w := w) (b := y) (t := t) (by omega) (sh10z Af h9x.1) (sh10z Af h9y.1) (sp_a (by omega)))) dX12_lightOf_88
    ·
      have c_10 := mt (zle (x := iZ (zab ((hd (sh Af 10) x w) - (hd (sh Af 10) y t)))) (y := iZ 6) rfl rfl ⟨by omega, by omega⟩ wn_6).mpr c_10
      refine lv_bipush (v := iZ 12) hx hb dX12_lightOf_55 bip_12 ?_
      refine lv_iload hx hb dX12_lightOf_57 (lv_at hl 0 rfl) ?_
      refine lv_isub hx hb dX12_lightOf_59 ?_
      refine lv_topi (fun x_18 ex_18 => ?_)
      obtain rfl : x_18 = iZ (12 - (zab ((hd (sh Af 10) x w) - (hd (sh Af 10) y t)))) := ex_18.trans (iZ_sub 12 (zab ((hd (sh Af 10) x w) - (hd (sh Af 10) y t))))
      refine lv_istore (lv' := [(7, .int (iZ (12 - (zab ((hd (sh Af 10) x w) - (hd (sh Af 10) y t)))))), (6, .int (iZ (gz Af (10 + (6 * y))))), (5, .int (iZ (gz Af (10 + (6 * x))))), (0, .ref hm), (1, .int (iZ x)), (2, .int (iZ w)), (3, .int (iZ y)), (4, .int (iZ t))]) hx hb dX12_lightOf_60 hl (bl rfl) rfl (fun ls hl => ?_)
      refine lv_iconst (v := iZ 1) hx hb dX12_lightOf_62 rfl ?_
      refine lv_iload hx hb dX12_lightOf_63 (lv_at hl 2 rfl) ?_
      refine lv_iload hx hb dX12_lightOf_65 (lv_at hl 1 rfl) ?_
      refine lv_isub hx hb dX12_lightOf_67 ?_
      refine lv_topi (fun x_19 ex_19 => ?_)
      obtain rfl : x_19 = iZ ((gz Af (10 + (6 * x))) - (gz Af (10 + (6 * y)))) := ex_19.trans (iZ_sub (gz Af (10 + (6 * x))) (gz Af (10 + (6 * y))))
      refine va_mabs (rest := [.int (iZ 1)]) hx hb (by rw [hml]; exact hl.1.symm) (own := RX12) hown (hts _ qm_X12_252) (hts _ qt_yJ9_abs_0f7a4) (hts _ qz_J9) (hts _ qc_J9_abs_0f7a4) (Nat.le_of_ble_eq_true rfl) (Nat.le_of_ble_eq_true rfl) (Nat.le_of_ble_eq_true rfl) (Nat.le_of_ble_eq_true rfl) dX12_lightOf_68 ?_
      refine lv_topi (fun x_20 ex_20 => ?_)
      obtain rfl : x_20 = iZ (zab ((gz Af (10 + (6 * x))) - (gz Af (10 + (6 * y))))) := ex_20.trans (zabs ⟨by omega, by omega⟩)
      have hab_68 := zab_c ((gz Af (10 + (6 * x))) - (gz Af (10 + (6 * y))))
      refine lv_iload hx hb dX12_lightOf_71 (lv_at hl 0 rfl) ?_
      refine lv_iload hx hb dX12_lightOf_73 (lv_at hl 2 rfl) ?_
      refine lv_iload hx hb dX12_lightOf_75 (lv_at hl 1 rfl) ?_
      refine va_mmin (rest := [.int (iZ (12 - (zab ((hd (sh Af 10) x w) - (hd (sh Af 10) y t))))), .int (iZ (zab ((gz Af (10 + (6 * x))) - (gz Af (10 + (6 * y)))))), .int (iZ 1)]) hx hb (by rw [hml]; exact hl.1.symm) (own := RX12) hown (hts _ qm_X12_137) (hts _ qt_yJ9_min_7cf53) (hts _ qz_J9) (hts _ qc_J9_min_7cf53) (Nat.le_of_ble_eq_true rfl) (Nat.le_of_ble_eq_true rfl) (Nat.le_of_ble_eq_true rfl) (Nat.le_of_ble_eq_true rfl) dX12_lightOf_77 ?_
      refine lv_topi (fun x_21 ex_21 => ?_)
      obtain rfl : x_21 = iZ (min (gz Af (10 + (6 * x))) (gz Af (10 + (6 * y)))) := ex_21.trans (zmin ⟨by omega, by omega⟩ ⟨by omega, by omega⟩)
      have hm_80 := mul_b (a := (12 - (zab ((hd (sh Af 10) x w) - (hd (sh Af 10) y t))))) (b := (min (gz Af (10 + (6 * x))) (gz Af (10 + (6 * y))))) (A := 6) (B := 20) (by omega) (by omega) (by omega) (by omega)
      refine lv_imul hx hb dX12_lightOf_80 ?_
      refine lv_topi (fun x_22 ex_22 => ?_)
      obtain rfl : x_22 = iZ ((12 - (zab ((hd (sh Af 10) x w) - (hd (sh Af 10) y t)))) * (min (gz Af (10 + (6 * x))) (gz Af (10 + (6 * y))))) := ex_22.trans (iZ_mul (12 - (zab ((hd (sh Af 10) x w) - (hd (sh Af 10) y t)))) (min (gz Af (10 + (6 * x))) (gz Af (10 + (6 * y)))))
      refine lv_bipush (v := iZ 6) hx hb dX12_lightOf_81 bip_6 ?_
      refine lv_idiv hx hb dX12_lightOf_83 (by rw [zne rfl ⟨by omega, by omega⟩]; omega) ?_
      have hd_83 := zdiv_b (a := ((12 - (zab ((hd (sh Af 10) x w) - (hd (sh Af 10) y t)))) * (min (gz Af (10 + (6 * x))) (gz Af (10 + (6 * y)))))) (b := 6) (by omega) (by omega)
      refine lv_topi (fun x_23 ex_23 => ?_)
      obtain rfl : x_23 = iZ (((12 - (zab ((hd (sh Af 10) x w) - (hd (sh Af 10) y t)))) * (min (gz Af (10 + (6 * x))) (gz Af (10 + (6 * y))))) / 6) := ex_23.trans (iZ_div (a := ((12 - (zab ((hd (sh Af 10) x w) - (hd (sh Af 10) y t)))) * (min (gz Af (10 + (6 * x))) (gz Af (10 + (6 * y)))))) (b := 6) (by omega) (by omega) (by omega) (by omega))
      refine lv_iadd hx hb dX12_lightOf_84 ?_
      refine lv_topi (fun x_24 ex_24 => ?_)
      obtain rfl : x_24 = iZ ((zab ((gz Af (10 + (6 * x))) - (gz Af (10 + (6 * y))))) + (((12 - (zab ((hd (sh Af 10) x w) - (hd (sh Af 10) y t)))) * (min (gz Af (10 + (6 * x))) (gz Af (10 + (6 * y))))) / 6)) := ex_24.trans (iZ_add (zab ((gz Af (10 + (6 * x))) - (gz Af (10 + (6 * y))))) (((12 - (zab ((hd (sh Af 10) x w) - (hd (sh Af 10) y t)))) * (min (gz Af (10 + (6 * x))) (gz Af (10 + (6 * y))))) / 6))
      refine va_mmax (rest := []) hx hb (by rw [hml]; exact hl.1.symm) (own := RX12) hown (hts _ qm_X12_255) (hts _ qt_yJ9_max_7cf53) (hts _ qz_J9) (hts _ qc_J9_max_7cf53) (Nat.le_of_ble_eq_true rfl) (Nat.le_of_ble_eq_true rfl) (Nat.le_of_ble_eq_true rfl) (Nat.le_of_ble_eq_true rfl) dX12_lightOf_85 ?_
      refine lv_topi (fun x_25 ex_25 => ?_)
      obtain rfl : x_25 = iZ (max 1 ((zab ((gz Af (10 + (6 * x))) - (gz Af (10 + (6 * y))))) + (((12 - (zab ((hd (sh Af 10) x w) - (hd (sh Af 10) y t)))) * (min (gz Af (10 + (6 * x))) (gz Af (10 + (6 * y))))) / 6))) := ex_25.trans (zmax ⟨by omega, by omega⟩ ⟨by omega, by omega⟩)
      exact ERi hx hb hr hlocks (congrArg iZ (lt_ref (F := sh Af 10) (a := x) (w := w) (b := y) (t := t) (by omega) (sh10z Af h9x.1) (sh10z Af h9y.1) (sp_b (by omega)))) dX12_lightOf_88
  ·
    have c_1 := (zeq (x := iZ x) (y := iZ y) rfl rfl ⟨by omega, by omega⟩ ⟨by omega, by omega⟩).mp c_1
    refine lv_iconst (v := iZ 0) hx hb dX12_lightOf_5 rfl ?_
    exact ERi hx hb hr hlocks (congrArg iZ (show 0 = lt (sh Af 10) x w y t from (by unfold lt ap; rw [if_pos (by omega)]))) dX12_lightOf_6
set_option maxHeartbeats 4000000 in
set_option maxRecDepth 100000 in
theorem m_price (l : Launch) (D : va_G) (k : Nat → ClassId) (fs : List Value) (hm : Nat) (Ma : Nat) (Af : Nat → Int32) (x : Int) (w : Int) (f0 : fs[0]? = some (.ref Ma)) (hM : M0 Af) (h9x : 0 ≤ x ∧ x < gz Af 0) (h9w : 0 ≤ w ∧ w ≤ 1000) : RD l yX12_priceOf cX12_priceOf 3 (some .int) 2 D k [.ref hm, .int (iZ x), .int (iZ w)] [(hm, .inr (12, fs)), (Ma, .inl (k 1, 5340, .inl Af))] (iZ (pr (sh Af 10) x w)) := by
  refine MR (by decide) (Nat.le_of_ble_eq_true rfl) (fun p e s m below meth c ls hx hb hml hr hlocks hts hown hKK hP hl => ?_)
  have hK := hKK.1
  have hl : lv_has ls 3 [(0, .ref hm), (1, .int (iZ x)), (2, .int (iZ w))] := hl
  obtain ⟨m0, m1, m3, m4, m5, mF, mO, mS⟩ := id hM
  have hfx := hM.fx x h9x.1 h9x.2
  refine lv_aload_n hx hb dX12_priceOf_0 rfl (lv_at hl 0 rfl) ?_
  refine va_get (D := D) (ci := 12) (v := .ref Ma) (C := RX12) (T := TX12) (N := 36) hx hb hts iX12 hown hK hP 0 rfl rfl 0 (bl rfl) (hts _ qf_X12_7) (fun _ h => h) f0 dX12_priceOf_1 ?_
  refine lv_iload_n hx hb dX12_priceOf_4 rfl (lv_at hl 1 rfl) ?_
  refine CRS (As := [.int (iZ x)]) (rest := [.ref Ma]) hx hb hml hown hts hKK (hP.sub (ws' := []) [] rfl) (m_rockRow l D k x) ci_X12_rockRow qm_X12_246 ⟨Nat.le_of_ble_eq_true rfl, Nat.le_of_ble_eq_true rfl⟩ ⟨Nat.le_of_ble_eq_true rfl, Nat.le_of_ble_eq_true rfl⟩ rfl hl.1 rfl (Nat.le_of_ble_eq_true rfl) dX12_priceOf_5 ?_
  refine lv_iconst (v := iZ 4) hx hb dX12_priceOf_8 rfl ?_
  refine lv_iadd hx hb dX12_priceOf_9 ?_
  refine lv_topi (fun x_1 ex_1 => ?_)
  obtain rfl : x_1 = iZ ((10 + (6 * x)) + 4) := ex_1.trans (iZ_add (10 + (6 * x)) 4)
  refine va_iald hx hb hK hP 1 1 rfl rfl (zin (e := ((10 + (6 * x)) + 4)) (n := 5340) ⟨by omega, by omega⟩ (bl rfl)) dX12_priceOf_10 ?_
  refine lv_topi (fun x_2 ex_2 => ?_)
  obtain rfl : x_2 = iZ (gz Af ((10 + (6 * x)) + 4)) := ex_2.trans (gz_eq ⟨by omega, by omega⟩)
  have h_3 := gz_rg Af ((10 + (6 * x)) + 4)
  refine lv_aload_n hx hb dX12_priceOf_11 rfl (lv_at hl 0 rfl) ?_
  refine va_get (D := D) (ci := 12) (v := .ref Ma) (C := RX12) (T := TX12) (N := 36) hx hb hts iX12 hown hK hP 0 rfl rfl 0 (bl rfl) (hts _ qf_X12_7) (fun _ h => h) f0 dX12_priceOf_12 ?_
  refine lv_iload_n hx hb dX12_priceOf_15 rfl (lv_at hl 1 rfl) ?_
  refine CRS (As := [.int (iZ x)]) (rest := [.ref Ma, .int (iZ (gz Af ((10 + (6 * x)) + 4)))]) hx hb hml hown hts hKK (hP.sub (ws' := []) [] rfl) (m_rockRow l D k x) ci_X12_rockRow qm_X12_246 ⟨Nat.le_of_ble_eq_true rfl, Nat.le_of_ble_eq_true rfl⟩ ⟨Nat.le_of_ble_eq_true rfl, Nat.le_of_ble_eq_true rfl⟩ rfl hl.1 rfl (Nat.le_of_ble_eq_true rfl) dX12_priceOf_16 ?_
  refine lv_iconst (v := iZ 5) hx hb dX12_priceOf_19 rfl ?_
  refine lv_iadd hx hb dX12_priceOf_20 ?_
  refine lv_topi (fun x_4 ex_4 => ?_)
  obtain rfl : x_4 = iZ ((10 + (6 * x)) + 5) := ex_4.trans (iZ_add (10 + (6 * x)) 5)
  refine va_iald hx hb hK hP 1 1 rfl rfl (zin (e := ((10 + (6 * x)) + 5)) (n := 5340) ⟨by omega, by omega⟩ (bl rfl)) dX12_priceOf_21 ?_
  refine lv_topi (fun x_5 ex_5 => ?_)
  obtain rfl : x_5 = iZ (gz Af ((10 + (6 * x)) + 5)) := ex_5.trans (gz_eq ⟨by omega, by omega⟩)
  have h_6 := gz_rg Af ((10 + (6 * x)) + 5)
  refine lv_aload_n hx hb dX12_priceOf_22 rfl (lv_at hl 0 rfl) ?_
  refine lv_iload_n hx hb dX12_priceOf_23 rfl (lv_at hl 1 rfl) ?_
  refine lv_iload_n hx hb dX12_priceOf_24 rfl (lv_at hl 2 rfl) ?_
  refine CRV (As := [.int (iZ x), .int (iZ w)]) (rest := [.int (iZ (gz Af ((10 + (6 * x)) + 5))), .int (iZ (gz Af ((10 + (6 * x)) + 4)))]) hx hb hml hown hts hKK hP (m_dir l D k fs hm Ma Af x w f0 hM ⟨by omega, by omega⟩ ⟨by omega, by omega⟩) ci_X12_directionOf qm_X12_249 ⟨Nat.le_of_ble_eq_true rfl, Nat.le_of_ble_eq_true rfl⟩ ⟨Nat.le_of_ble_eq_true rfl, Nat.le_of_ble_eq_true rfl⟩ 0 rfl rfl rfl hl.1 rfl (Nat.le_of_ble_eq_true rfl) dX12_priceOf_25 ?_
  have hh_h_7 := hd_rg (sh Af 10) x w
  have hm_28 := mul_b (a := (gz Af ((10 + (6 * x)) + 5))) (b := (hd (sh Af 10) x w)) (A := 20) (B := 11) (by omega) (by omega) (by omega) (by omega)
  refine lv_imul hx hb dX12_priceOf_28 ?_
  refine lv_topi (fun x_8 ex_8 => ?_)
  obtain rfl : x_8 = iZ ((gz Af ((10 + (6 * x)) + 5)) * (hd (sh Af 10) x w)) := ex_8.trans (iZ_mul (gz Af ((10 + (6 * x)) + 5)) (hd (sh Af 10) x w))
  refine lv_iadd hx hb dX12_priceOf_29 ?_
  refine lv_topi (fun x_9 ex_9 => ?_)
  obtain rfl : x_9 = iZ ((gz Af ((10 + (6 * x)) + 4)) + ((gz Af ((10 + (6 * x)) + 5)) * (hd (sh Af 10) x w))) := ex_9.trans (iZ_add (gz Af ((10 + (6 * x)) + 4)) ((gz Af ((10 + (6 * x)) + 5)) * (hd (sh Af 10) x w)))
  exact ERi hx hb hr hlocks (congrArg iZ (pr_at Af w h9x.1)) dX12_priceOf_30
set_option maxHeartbeats 4000000 in
set_option maxRecDepth 100000 in
theorem m_iced (l : Launch) (D : va_G) (k : Nat → ClassId) (fs : List Value) (hm : Nat) (Ma : Nat) (Af : Nat → Int32) (x : Int) (y : Int) (w : Int) (f0 : fs[0]? = some (.ref Ma)) (hM : M0 Af) (h9x : -2147483648 ≤ x ∧ x < 2147483648) (h9y : -2147483648 ≤ y ∧ y < 2147483648) (h9w : -2147483648 ≤ w ∧ w < 2147483648) : RD l yX12_isIced cX12_isIced 7 (some .boolean) 0 D k [.ref hm, .int (iZ x), .int (iZ y), .int (iZ w)] [(hm, .inr (12, fs)), (Ma, .inl (k 1, 5340, .inl Af))] (iZ (bz (isIc (sh Af 46) (gz Af 1) x y w))) := by
  refine MR (by decide) (Nat.le_of_ble_eq_true rfl) (fun p e s m below meth c ls hx hb hml hr hlocks hts hown hKK hP hl => ?_)
  have hK := hKK.1
  have hl : lv_has ls 7 [(0, .ref hm), (1, .int (iZ x)), (2, .int (iZ y)), (3, .int (iZ w))] := hl
  obtain ⟨m0, m1, m3, m4, m5, mF, mO, mS⟩ := id hM
  refine lv_iconst (v := iZ 0) hx hb dX12_isIced_0 rfl ?_
  refine lv_istore (lv' := [(4, .int (iZ 0)), (0, .ref hm), (1, .int (iZ x)), (2, .int (iZ y)), (3, .int (iZ w))]) hx hb dX12_isIced_1 hl (bl rfl) rfl (fun ls hl => ?_)
  have HL1 : ∀ (fu : Nat) (i : Int) (ls : Array Slot), (gz Af 1 + 1 - i) < (fu : Int) → 0 ≤ i → i ≤ gz Af 1 → (∀ j : Int, 0 ≤ j → j < i → ¬ icR (sh Af 46) j x y w) → lv_has ls 7 [(4, .int (iZ i)), (0, .ref hm), (1, .int (iZ x)), (2, .int (iZ y)), (3, .int (iZ w))] → W p l e (rj 0 0 0) s m [.ref hm, .int (iZ x), .int (iZ y), .int (iZ w)].toArray below meth c s.heap [] 0 0 (MQ below (QcRead (iZ (bz (isIc (sh Af 46) (gz Af 1) x y w)))) [.ref hm, .int (iZ x), .int (iZ y), .int (iZ w)].toArray s 0 0 (fun _ => False)) (F0 m 3 ls []) := by
    intro fu
    induction fu with
    | zero => intro i ls hμ1 hi1 hi2 hi3 hl; exact absurd hμ1 (by omega)
    | succ fu ih1 =>
      intro i ls hμ1 hi1 hi2 hi3 hl
      refine lv_iload hx hb dX12_isIced_3 (lv_at hl 0 rfl) ?_
      refine lv_aload_n hx hb dX12_isIced_5 rfl (lv_at hl 1 rfl) ?_
      refine va_get (D := D) (ci := 12) (v := .ref Ma) (C := RX12) (T := TX12) (N := 36) hx hb hts iX12 hown hK hP 0 rfl rfl 0 (bl rfl) (hts _ qf_X12_7) (fun _ h => h) f0 dX12_isIced_6 ?_
      refine lv_iconst (v := iZ 1) hx hb dX12_isIced_9 rfl ?_
      refine va_iald hx hb hK hP 1 1 rfl rfl (zin (e := 1) (n := 5340) ⟨by omega, by omega⟩ (bl rfl)) dX12_isIced_10 ?_
      refine lv_topi (fun x_1 ex_1 => ?_)
      obtain rfl : x_1 = iZ (gz Af 1) := ex_1.trans (gz_eq ⟨by omega, by omega⟩)
      have h_2 := gz_rg Af 1
      refine lv_icmp_ge (tgt := 117) hx hb dX12_isIced_11 rfl (fun c_3 => ?_) (fun c_3 => ?_)
      ·
        have c_3 := (zle (x := iZ (gz Af 1)) (y := iZ i) rfl rfl (gz_rg Af 1) ⟨by omega, by omega⟩).mp c_3
        refine lv_iconst (v := iZ 0) hx hb dX12_isIced_117 rfl ?_
        exact ERz hx hb hr hlocks rfl (by rw [bz_f (fun ⟨j, h1, h2, h3⟩ => hi3 j h1 (by omega) h3)]) dX12_isIced_118
      ·
        have c_3 := mt (zle (x := iZ (gz Af 1)) (y := iZ i) rfl rfl (gz_rg Af 1) ⟨by omega, by omega⟩).mpr c_3
        refine lv_bipush (v := iZ 46) hx hb dX12_isIced_14 bip_46 ?_
        refine lv_iconst (v := iZ 4) hx hb dX12_isIced_16 rfl ?_
        refine lv_iload hx hb dX12_isIced_17 (lv_at hl 0 rfl) ?_
        refine lv_imul hx hb dX12_isIced_19 ?_
        refine lv_topi (fun x_4 ex_4 => ?_)
        obtain rfl : x_4 = iZ (4 * i) := ex_4.trans (iZ_mul 4 i)
        refine lv_iadd hx hb dX12_isIced_20 ?_
        refine lv_topi (fun x_5 ex_5 => ?_)
        obtain rfl : x_5 = iZ (46 + (4 * i)) := ex_5.trans (iZ_add 46 (4 * i))
        refine lv_istore (lv' := [(5, .int (iZ (46 + (4 * i)))), (4, .int (iZ i)), (0, .ref hm), (1, .int (iZ x)), (2, .int (iZ y)), (3, .int (iZ w))]) hx hb dX12_isIced_21 hl (bl rfl) rfl (fun ls hl => ?_)
        refine lv_aload_n hx hb dX12_isIced_23 rfl (lv_at hl 2 rfl) ?_
        refine va_get (D := D) (ci := 12) (v := .ref Ma) (C := RX12) (T := TX12) (N := 36) hx hb hts iX12 hown hK hP 0 rfl rfl 0 (bl rfl) (hts _ qf_X12_7) (fun _ h => h) f0 dX12_isIced_24 ?_
        refine lv_iload hx hb dX12_isIced_27 (lv_at hl 0 rfl) ?_
        refine va_iald hx hb hK hP 1 1 rfl rfl (zin (e := (46 + (4 * i))) (n := 5340) ⟨by omega, by omega⟩ (bl rfl)) dX12_isIced_29 ?_
        refine lv_topi (fun x_6 ex_6 => ?_)
        obtain rfl : x_6 = iZ (gz Af (46 + (4 * i))) := ex_6.trans (gz_eq ⟨by omega, by omega⟩)
        have h_7 := gz_rg Af (46 + (4 * i))
        refine lv_iload_n hx hb dX12_isIced_30 rfl (lv_at hl 3 rfl) ?_
        refine lv_icmp_ne (tgt := 47) hx hb dX12_isIced_31 rfl (fun c_8 => ?_) (fun c_8 => ?_)
        ·
          have c_8 := mt (zeq (x := iZ (gz Af (46 + (4 * i)))) (y := iZ x) rfl rfl (gz_rg Af (46 + (4 * i))) ⟨by omega, by omega⟩).mpr c_8
          refine lv_aload_n hx hb dX12_isIced_47 rfl (lv_at hl 2 rfl) ?_
          refine va_get (D := D) (ci := 12) (v := .ref Ma) (C := RX12) (T := TX12) (N := 36) hx hb hts iX12 hown hK hP 0 rfl rfl 0 (bl rfl) (hts _ qf_X12_7) (fun _ h => h) f0 dX12_isIced_48 ?_
          refine lv_iload hx hb dX12_isIced_51 (lv_at hl 0 rfl) ?_
          refine va_iald hx hb hK hP 1 1 rfl rfl (zin (e := (46 + (4 * i))) (n := 5340) ⟨by omega, by omega⟩ (bl rfl)) dX12_isIced_53 ?_
          refine lv_topi (fun x_9 ex_9 => ?_)
          obtain rfl : x_9 = iZ (gz Af (46 + (4 * i))) := ex_9.trans (gz_eq ⟨by omega, by omega⟩)
          have h_10 := gz_rg Af (46 + (4 * i))
          refine lv_iload_n hx hb dX12_isIced_54 rfl (lv_at hl 4 rfl) ?_
          refine lv_icmp_ne (tgt := 75) hx hb dX12_isIced_55 rfl (fun c_11 => ?_) (fun c_11 => ?_)
          ·
            have c_11 := mt (zeq (x := iZ (gz Af (46 + (4 * i)))) (y := iZ y) rfl rfl (gz_rg Af (46 + (4 * i))) ⟨by omega, by omega⟩).mpr c_11
            refine lv_iconst (v := iZ 0) hx hb dX12_isIced_75 rfl ?_
            refine lv_istore (lv' := [(6, .int (iZ 0)), (5, .int (iZ (46 + (4 * i)))), (4, .int (iZ i)), (0, .ref hm), (1, .int (iZ x)), (2, .int (iZ y)), (3, .int (iZ w))]) hx hb dX12_isIced_76 hl (bl rfl) rfl (fun ls hl => ?_)
            refine lv_iload hx hb dX12_isIced_78 (lv_at hl 0 rfl) ?_
            refine lv_if_eq (tgt := 111) hx hb dX12_isIced_80 rfl (fun _ => ?_) (fun c => absurd (by decide) c)
            refine lv_iinc (v := iZ (i + 1)) (lv' := [(4, .int (iZ (i + 1))), (6, .int (iZ 0)), (5, .int (iZ (46 + (4 * i)))), (0, .ref hm), (1, .int (iZ x)), (2, .int (iZ y)), (3, .int (iZ w))]) hx hb dX12_isIced_111 hl (k := 2) rfl (iZ_add i 1) (by decide) rfl (fun ls hl => ?_)
            refine lv_goto (tgt := 3) hx hb dX12_isIced_114 rfl ?_
            exact ih1  (i + 1) _ (by omega) (by omega) (by omega) (by intro j h1 h2; rcases Int.lt_or_eq_of_le (show j ≤ i by omega) with h3 | h3; exact hi3 j h1 h3; rw [h3]; exact fun h4 => absurd ((icR_at hi1).mp h4) (by omega)) (lv_sub hl [0, 3, 4, 5, 6] rfl)
          ·
            have c_11 := (zeq (x := iZ (gz Af (46 + (4 * i)))) (y := iZ y) rfl rfl (gz_rg Af (46 + (4 * i))) ⟨by omega, by omega⟩).mp c_11
            refine lv_aload_n hx hb dX12_isIced_58 rfl (lv_at hl 2 rfl) ?_
            refine va_get (D := D) (ci := 12) (v := .ref Ma) (C := RX12) (T := TX12) (N := 36) hx hb hts iX12 hown hK hP 0 rfl rfl 0 (bl rfl) (hts _ qf_X12_7) (fun _ h => h) f0 dX12_isIced_59 ?_
            refine lv_iload hx hb dX12_isIced_62 (lv_at hl 0 rfl) ?_
            refine lv_iconst (v := iZ 1) hx hb dX12_isIced_64 rfl ?_
            refine lv_iadd hx hb dX12_isIced_65 ?_
            refine lv_topi (fun x_13 ex_13 => ?_)
            obtain rfl : x_13 = iZ ((46 + (4 * i)) + 1) := ex_13.trans (iZ_add (46 + (4 * i)) 1)
            refine va_iald hx hb hK hP 1 1 rfl rfl (zin (e := ((46 + (4 * i)) + 1)) (n := 5340) ⟨by omega, by omega⟩ (bl rfl)) dX12_isIced_66 ?_
            refine lv_topi (fun x_14 ex_14 => ?_)
            obtain rfl : x_14 = iZ (gz Af ((46 + (4 * i)) + 1)) := ex_14.trans (gz_eq ⟨by omega, by omega⟩)
            have h_15 := gz_rg Af ((46 + (4 * i)) + 1)
            refine lv_iload_n hx hb dX12_isIced_67 rfl (lv_at hl 3 rfl) ?_
            refine lv_icmp_ne (tgt := 75) hx hb dX12_isIced_68 rfl (fun c_16 => ?_) (fun c_16 => ?_)
            ·
              have c_16 := mt (zeq (x := iZ (gz Af ((46 + (4 * i)) + 1))) (y := iZ x) rfl rfl (gz_rg Af ((46 + (4 * i)) + 1)) ⟨by omega, by omega⟩).mpr c_16
              refine lv_iconst (v := iZ 0) hx hb dX12_isIced_75 rfl ?_
              refine lv_istore (lv' := [(6, .int (iZ 0)), (5, .int (iZ (46 + (4 * i)))), (4, .int (iZ i)), (0, .ref hm), (1, .int (iZ x)), (2, .int (iZ y)), (3, .int (iZ w))]) hx hb dX12_isIced_76 hl (bl rfl) rfl (fun ls hl => ?_)
              refine lv_iload hx hb dX12_isIced_78 (lv_at hl 0 rfl) ?_
              refine lv_if_eq (tgt := 111) hx hb dX12_isIced_80 rfl (fun _ => ?_) (fun c => absurd (by decide) c)
              refine lv_iinc (v := iZ (i + 1)) (lv' := [(4, .int (iZ (i + 1))), (6, .int (iZ 0)), (5, .int (iZ (46 + (4 * i)))), (0, .ref hm), (1, .int (iZ x)), (2, .int (iZ y)), (3, .int (iZ w))]) hx hb dX12_isIced_111 hl (k := 2) rfl (iZ_add i 1) (by decide) rfl (fun ls hl => ?_)
              refine lv_goto (tgt := 3) hx hb dX12_isIced_114 rfl ?_
              exact ih1  (i + 1) _ (by omega) (by omega) (by omega) (by intro j h1 h2; rcases Int.lt_or_eq_of_le (show j ≤ i by omega) with h3 | h3; exact hi3 j h1 h3; rw [h3]; exact fun h4 => absurd ((icR_at hi1).mp h4) (by omega)) (lv_sub hl [0, 3, 4, 5, 6] rfl)
            ·
              have c_16 := (zeq (x := iZ (gz Af ((46 + (4 * i)) + 1))) (y := iZ x) rfl rfl (gz_rg Af ((46 + (4 * i)) + 1)) ⟨by omega, by omega⟩).mp c_16
              refine lv_iconst (v := iZ 1) hx hb dX12_isIced_71 rfl ?_
              refine lv_goto (tgt := 76) hx hb dX12_isIced_72 rfl ?_
              refine lv_istore (lv' := [(6, .int (iZ 1)), (5, .int (iZ (46 + (4 * i)))), (4, .int (iZ i)), (0, .ref hm), (1, .int (iZ x)), (2, .int (iZ y)), (3, .int (iZ w))]) hx hb dX12_isIced_76 hl (bl rfl) rfl (fun ls hl => ?_)
              refine lv_iload hx hb dX12_isIced_78 (lv_at hl 0 rfl) ?_
              refine lv_if_eq (tgt := 111) hx hb dX12_isIced_80 rfl (fun c => absurd c (by decide)) (fun _ => ?_)
              refine lv_iload_n hx hb dX12_isIced_83 rfl (lv_at hl 6 rfl) ?_
              refine lv_aload_n hx hb dX12_isIced_84 rfl (lv_at hl 3 rfl) ?_
              refine va_get (D := D) (ci := 12) (v := .ref Ma) (C := RX12) (T := TX12) (N := 36) hx hb hts iX12 hown hK hP 0 rfl rfl 0 (bl rfl) (hts _ qf_X12_7) (fun _ h => h) f0 dX12_isIced_85 ?_
              refine lv_iload hx hb dX12_isIced_88 (lv_at hl 1 rfl) ?_
              refine lv_iconst (v := iZ 2) hx hb dX12_isIced_90 rfl ?_
              refine lv_iadd hx hb dX12_isIced_91 ?_
              refine lv_topi (fun x_19 ex_19 => ?_)
              obtain rfl : x_19 = iZ ((46 + (4 * i)) + 2) := ex_19.trans (iZ_add (46 + (4 * i)) 2)
              refine va_iald hx hb hK hP 1 1 rfl rfl (zin (e := ((46 + (4 * i)) + 2)) (n := 5340) ⟨by omega, by omega⟩ (bl rfl)) dX12_isIced_92 ?_
              refine lv_topi (fun x_20 ex_20 => ?_)
              obtain rfl : x_20 = iZ (gz Af ((46 + (4 * i)) + 2)) := ex_20.trans (gz_eq ⟨by omega, by omega⟩)
              have h_21 := gz_rg Af ((46 + (4 * i)) + 2)
              refine lv_icmp_lt (tgt := 111) hx hb dX12_isIced_93 rfl (fun c_22 => ?_) (fun c_22 => ?_)
              ·
                have c_22 := (zlt (x := iZ w) (y := iZ (gz Af ((46 + (4 * i)) + 2))) rfl rfl ⟨by omega, by omega⟩ (gz_rg Af ((46 + (4 * i)) + 2))).mp c_22
                refine lv_iinc (v := iZ (i + 1)) (lv' := [(4, .int (iZ (i + 1))), (6, .int (iZ 1)), (5, .int (iZ (46 + (4 * i)))), (0, .ref hm), (1, .int (iZ x)), (2, .int (iZ y)), (3, .int (iZ w))]) hx hb dX12_isIced_111 hl (k := 2) rfl (iZ_add i 1) (by decide) rfl (fun ls hl => ?_)
                refine lv_goto (tgt := 3) hx hb dX12_isIced_114 rfl ?_
                exact ih1  (i + 1) _ (by omega) (by omega) (by omega) (by intro j h1 h2; rcases Int.lt_or_eq_of_le (show j ≤ i by omega) with h3 | h3; exact hi3 j h1 h3; rw [h3]; exact fun h4 => absurd ((icR_at hi1).mp h4) (by omega)) (lv_sub hl [0, 3, 4, 5, 6] rfl)
              ·
                have c_22 := mt (zlt (x := iZ w) (y := iZ (gz Af ((46 + (4 * i)) + 2))) rfl rfl ⟨by omega, by omega⟩ (gz_rg Af ((46 + (4 * i)) + 2))).mpr c_22
                refine lv_iload_n hx hb dX12_isIced_96 rfl (lv_at hl 6 rfl) ?_
                refine lv_aload_n hx hb dX12_isIced_97 rfl (lv_at hl 3 rfl) ?_
                refine va_get (D := D) (ci := 12) (v := .ref Ma) (C := RX12) (T := TX12) (N := 36) hx hb hts iX12 hown hK hP 0 rfl rfl 0 (bl rfl) (hts _ qf_X12_7) (fun _ h => h) f0 dX12_isIced_98 ?_
                refine lv_iload hx hb dX12_isIced_101 (lv_at hl 1 rfl) ?_
                refine lv_iconst (v := iZ 3) hx hb dX12_isIced_103 rfl ?_
                refine lv_iadd hx hb dX12_isIced_104 ?_
                refine lv_topi (fun x_23 ex_23 => ?_)
                obtain rfl : x_23 = iZ ((46 + (4 * i)) + 3) := ex_23.trans (iZ_add (46 + (4 * i)) 3)
                refine va_iald hx hb hK hP 1 1 rfl rfl (zin (e := ((46 + (4 * i)) + 3)) (n := 5340) ⟨by omega, by omega⟩ (bl rfl)) dX12_isIced_105 ?_
                refine lv_topi (fun x_24 ex_24 => ?_)
                obtain rfl : x_24 = iZ (gz Af ((46 + (4 * i)) + 3)) := ex_24.trans (gz_eq ⟨by omega, by omega⟩)
                have h_25 := gz_rg Af ((46 + (4 * i)) + 3)
                refine lv_icmp_gt (tgt := 111) hx hb dX12_isIced_106 rfl (fun c_26 => ?_) (fun c_26 => ?_)
                ·
                  have c_26 := (zlt (x := iZ (gz Af ((46 + (4 * i)) + 3))) (y := iZ w) rfl rfl (gz_rg Af ((46 + (4 * i)) + 3)) ⟨by omega, by omega⟩).mp c_26
                  refine lv_iinc (v := iZ (i + 1)) (lv' := [(4, .int (iZ (i + 1))), (6, .int (iZ 1)), (5, .int (iZ (46 + (4 * i)))), (0, .ref hm), (1, .int (iZ x)), (2, .int (iZ y)), (3, .int (iZ w))]) hx hb dX12_isIced_111 hl (k := 2) rfl (iZ_add i 1) (by decide) rfl (fun ls hl => ?_)
                  refine lv_goto (tgt := 3) hx hb dX12_isIced_114 rfl ?_
                  exact ih1  (i + 1) _ (by omega) (by omega) (by omega) (by intro j h1 h2; rcases Int.lt_or_eq_of_le (show j ≤ i by omega) with h3 | h3; exact hi3 j h1 h3; rw [h3]; exact fun h4 => absurd ((icR_at hi1).mp h4) (by omega)) (lv_sub hl [0, 3, 4, 5, 6] rfl)
                ·
                  have c_26 := mt (zlt (x := iZ (gz Af ((46 + (4 * i)) + 3))) (y := iZ w) rfl rfl (gz_rg Af ((46 + (4 * i)) + 3)) ⟨by omega, by omega⟩).mpr c_26
                  refine lv_iconst (v := iZ 1) hx hb dX12_isIced_109 rfl ?_
                  exact ERz hx hb hr hlocks rfl (by rw [bz_t ⟨i, hi1, by omega, (icR_at hi1).mpr (by omega)⟩]) dX12_isIced_110
        ·
          have c_8 := (zeq (x := iZ (gz Af (46 + (4 * i)))) (y := iZ x) rfl rfl (gz_rg Af (46 + (4 * i))) ⟨by omega, by omega⟩).mp c_8
          refine lv_aload_n hx hb dX12_isIced_34 rfl (lv_at hl 2 rfl) ?_
          refine va_get (D := D) (ci := 12) (v := .ref Ma) (C := RX12) (T := TX12) (N := 36) hx hb hts iX12 hown hK hP 0 rfl rfl 0 (bl rfl) (hts _ qf_X12_7) (fun _ h => h) f0 dX12_isIced_35 ?_
          refine lv_iload hx hb dX12_isIced_38 (lv_at hl 0 rfl) ?_
          refine lv_iconst (v := iZ 1) hx hb dX12_isIced_40 rfl ?_
          refine lv_iadd hx hb dX12_isIced_41 ?_
          refine lv_topi (fun x_27 ex_27 => ?_)
          obtain rfl : x_27 = iZ ((46 + (4 * i)) + 1) := ex_27.trans (iZ_add (46 + (4 * i)) 1)
          refine va_iald hx hb hK hP 1 1 rfl rfl (zin (e := ((46 + (4 * i)) + 1)) (n := 5340) ⟨by omega, by omega⟩ (bl rfl)) dX12_isIced_42 ?_
          refine lv_topi (fun x_28 ex_28 => ?_)
          obtain rfl : x_28 = iZ (gz Af ((46 + (4 * i)) + 1)) := ex_28.trans (gz_eq ⟨by omega, by omega⟩)
          have h_29 := gz_rg Af ((46 + (4 * i)) + 1)
          refine lv_iload_n hx hb dX12_isIced_43 rfl (lv_at hl 4 rfl) ?_
          refine lv_icmp_eq (tgt := 71) hx hb dX12_isIced_44 rfl (fun c_30 => ?_) (fun c_30 => ?_)
          ·
            have c_30 := (zeq (x := iZ (gz Af ((46 + (4 * i)) + 1))) (y := iZ y) rfl rfl (gz_rg Af ((46 + (4 * i)) + 1)) ⟨by omega, by omega⟩).mp c_30
            refine lv_iconst (v := iZ 1) hx hb dX12_isIced_71 rfl ?_
            refine lv_goto (tgt := 76) hx hb dX12_isIced_72 rfl ?_
            refine lv_istore (lv' := [(6, .int (iZ 1)), (5, .int (iZ (46 + (4 * i)))), (4, .int (iZ i)), (0, .ref hm), (1, .int (iZ x)), (2, .int (iZ y)), (3, .int (iZ w))]) hx hb dX12_isIced_76 hl (bl rfl) rfl (fun ls hl => ?_)
            refine lv_iload hx hb dX12_isIced_78 (lv_at hl 0 rfl) ?_
            refine lv_if_eq (tgt := 111) hx hb dX12_isIced_80 rfl (fun c => absurd c (by decide)) (fun _ => ?_)
            refine lv_iload_n hx hb dX12_isIced_83 rfl (lv_at hl 6 rfl) ?_
            refine lv_aload_n hx hb dX12_isIced_84 rfl (lv_at hl 3 rfl) ?_
            refine va_get (D := D) (ci := 12) (v := .ref Ma) (C := RX12) (T := TX12) (N := 36) hx hb hts iX12 hown hK hP 0 rfl rfl 0 (bl rfl) (hts _ qf_X12_7) (fun _ h => h) f0 dX12_isIced_85 ?_
            refine lv_iload hx hb dX12_isIced_88 (lv_at hl 1 rfl) ?_
            refine lv_iconst (v := iZ 2) hx hb dX12_isIced_90 rfl ?_
            refine lv_iadd hx hb dX12_isIced_91 ?_
            refine lv_topi (fun x_32 ex_32 => ?_)
            obtain rfl : x_32 = iZ ((46 + (4 * i)) + 2) := ex_32.trans (iZ_add (46 + (4 * i)) 2)
            refine va_iald hx hb hK hP 1 1 rfl rfl (zin (e := ((46 + (4 * i)) + 2)) (n := 5340) ⟨by omega, by omega⟩ (bl rfl)) dX12_isIced_92 ?_
            refine lv_topi (fun x_33 ex_33 => ?_)
            obtain rfl : x_33 = iZ (gz Af ((46 + (4 * i)) + 2)) := ex_33.trans (gz_eq ⟨by omega, by omega⟩)
            have h_34 := gz_rg Af ((46 + (4 * i)) + 2)
            refine lv_icmp_lt (tgt := 111) hx hb dX12_isIced_93 rfl (fun c_35 => ?_) (fun c_35 => ?_)
            ·
              have c_35 := (zlt (x := iZ w) (y := iZ (gz Af ((46 + (4 * i)) + 2))) rfl rfl ⟨by omega, by omega⟩ (gz_rg Af ((46 + (4 * i)) + 2))).mp c_35
              refine lv_iinc (v := iZ (i + 1)) (lv' := [(4, .int (iZ (i + 1))), (6, .int (iZ 1)), (5, .int (iZ (46 + (4 * i)))), (0, .ref hm), (1, .int (iZ x)), (2, .int (iZ y)), (3, .int (iZ w))]) hx hb dX12_isIced_111 hl (k := 2) rfl (iZ_add i 1) (by decide) rfl (fun ls hl => ?_)
              refine lv_goto (tgt := 3) hx hb dX12_isIced_114 rfl ?_
              exact ih1  (i + 1) _ (by omega) (by omega) (by omega) (by intro j h1 h2; rcases Int.lt_or_eq_of_le (show j ≤ i by omega) with h3 | h3; exact hi3 j h1 h3; rw [h3]; exact fun h4 => absurd ((icR_at hi1).mp h4) (by omega)) (lv_sub hl [0, 3, 4, 5, 6] rfl)
            ·
              have c_35 := mt (zlt (x := iZ w) (y := iZ (gz Af ((46 + (4 * i)) + 2))) rfl rfl ⟨by omega, by omega⟩ (gz_rg Af ((46 + (4 * i)) + 2))).mpr c_35
              refine lv_iload_n hx hb dX12_isIced_96 rfl (lv_at hl 6 rfl) ?_
              refine lv_aload_n hx hb dX12_isIced_97 rfl (lv_at hl 3 rfl) ?_
              refine va_get (D := D) (ci := 12) (v := .ref Ma) (C := RX12) (T := TX12) (N := 36) hx hb hts iX12 hown hK hP 0 rfl rfl 0 (bl rfl) (hts _ qf_X12_7) (fun _ h => h) f0 dX12_isIced_98 ?_
              refine lv_iload hx hb dX12_isIced_101 (lv_at hl 1 rfl) ?_
              refine lv_iconst (v := iZ 3) hx hb dX12_isIced_103 rfl ?_
              refine lv_iadd hx hb dX12_isIced_104 ?_
              refine lv_topi (fun x_36 ex_36 => ?_)
              obtain rfl : x_36 = iZ ((46 + (4 * i)) + 3) := ex_36.trans (iZ_add (46 + (4 * i)) 3)
              refine va_iald hx hb hK hP 1 1 rfl rfl (zin (e := ((46 + (4 * i)) + 3)) (n := 5340) ⟨by omega, by omega⟩ (bl rfl)) dX12_isIced_105 ?_
              refine lv_topi (fun x_37 ex_37 => ?_)
              obtain rfl : x_37 = iZ (gz Af ((46 + (4 * i)) + 3)) := ex_37.trans (gz_eq ⟨by omega, by omega⟩)
              have h_38 := gz_rg Af ((46 + (4 * i)) + 3)
              refine lv_icmp_gt (tgt := 111) hx hb dX12_isIced_106 rfl (fun c_39 => ?_) (fun c_39 => ?_)
              ·
                have c_39 := (zlt (x := iZ (gz Af ((46 + (4 * i)) + 3))) (y := iZ w) rfl rfl (gz_rg Af ((46 + (4 * i)) + 3)) ⟨by omega, by omega⟩).mp c_39
                refine lv_iinc (v := iZ (i + 1)) (lv' := [(4, .int (iZ (i + 1))), (6, .int (iZ 1)), (5, .int (iZ (46 + (4 * i)))), (0, .ref hm), (1, .int (iZ x)), (2, .int (iZ y)), (3, .int (iZ w))]) hx hb dX12_isIced_111 hl (k := 2) rfl (iZ_add i 1) (by decide) rfl (fun ls hl => ?_)
                refine lv_goto (tgt := 3) hx hb dX12_isIced_114 rfl ?_
                exact ih1  (i + 1) _ (by omega) (by omega) (by omega) (by intro j h1 h2; rcases Int.lt_or_eq_of_le (show j ≤ i by omega) with h3 | h3; exact hi3 j h1 h3; rw [h3]; exact fun h4 => absurd ((icR_at hi1).mp h4) (by omega)) (lv_sub hl [0, 3, 4, 5, 6] rfl)
              ·
                have c_39 := mt (zlt (x := iZ (gz Af ((46 + (4 * i)) + 3))) (y := iZ w) rfl rfl (gz_rg Af ((46 + (4 * i)) + 3)) ⟨by omega, by omega⟩).mpr c_39
                refine lv_iconst (v := iZ 1) hx hb dX12_isIced_109 rfl ?_
                exact ERz hx hb hr hlocks rfl (by rw [bz_t ⟨i, hi1, by omega, (icR_at hi1).mpr (by omega)⟩]) dX12_isIced_110
          ·
            have c_30 := mt (zeq (x := iZ (gz Af ((46 + (4 * i)) + 1))) (y := iZ y) rfl rfl (gz_rg Af ((46 + (4 * i)) + 1)) ⟨by omega, by omega⟩).mpr c_30
            refine lv_aload_n hx hb dX12_isIced_47 rfl (lv_at hl 2 rfl) ?_
            refine va_get (D := D) (ci := 12) (v := .ref Ma) (C := RX12) (T := TX12) (N := 36) hx hb hts iX12 hown hK hP 0 rfl rfl 0 (bl rfl) (hts _ qf_X12_7) (fun _ h => h) f0 dX12_isIced_48 ?_
            refine lv_iload hx hb dX12_isIced_51 (lv_at hl 0 rfl) ?_
            refine va_iald hx hb hK hP 1 1 rfl rfl (zin (e := (46 + (4 * i))) (n := 5340) ⟨by omega, by omega⟩ (bl rfl)) dX12_isIced_53 ?_
            refine lv_topi (fun x_40 ex_40 => ?_)
            obtain rfl : x_40 = iZ (gz Af (46 + (4 * i))) := ex_40.trans (gz_eq ⟨by omega, by omega⟩)
            have h_41 := gz_rg Af (46 + (4 * i))
            refine lv_iload_n hx hb dX12_isIced_54 rfl (lv_at hl 4 rfl) ?_
            refine lv_icmp_ne (tgt := 75) hx hb dX12_isIced_55 rfl (fun c_42 => ?_) (fun c_42 => ?_)
            ·
              have c_42 := mt (zeq (x := iZ (gz Af (46 + (4 * i)))) (y := iZ y) rfl rfl (gz_rg Af (46 + (4 * i))) ⟨by omega, by omega⟩).mpr c_42
              refine lv_iconst (v := iZ 0) hx hb dX12_isIced_75 rfl ?_
              refine lv_istore (lv' := [(6, .int (iZ 0)), (5, .int (iZ (46 + (4 * i)))), (4, .int (iZ i)), (0, .ref hm), (1, .int (iZ x)), (2, .int (iZ y)), (3, .int (iZ w))]) hx hb dX12_isIced_76 hl (bl rfl) rfl (fun ls hl => ?_)
              refine lv_iload hx hb dX12_isIced_78 (lv_at hl 0 rfl) ?_
              refine lv_if_eq (tgt := 111) hx hb dX12_isIced_80 rfl (fun _ => ?_) (fun c => absurd (by decide) c)
              refine lv_iinc (v := iZ (i + 1)) (lv' := [(4, .int (iZ (i + 1))), (6, .int (iZ 0)), (5, .int (iZ (46 + (4 * i)))), (0, .ref hm), (1, .int (iZ x)), (2, .int (iZ y)), (3, .int (iZ w))]) hx hb dX12_isIced_111 hl (k := 2) rfl (iZ_add i 1) (by decide) rfl (fun ls hl => ?_)
              refine lv_goto (tgt := 3) hx hb dX12_isIced_114 rfl ?_
              exact ih1  (i + 1) _ (by omega) (by omega) (by omega) (by intro j h1 h2; rcases Int.lt_or_eq_of_le (show j ≤ i by omega) with h3 | h3; exact hi3 j h1 h3; rw [h3]; exact fun h4 => absurd ((icR_at hi1).mp h4) (by omega)) (lv_sub hl [0, 3, 4, 5, 6] rfl)
            ·
              have c_42 := (zeq (x := iZ (gz Af (46 + (4 * i)))) (y := iZ y) rfl rfl (gz_rg Af (46 + (4 * i))) ⟨by omega, by omega⟩).mp c_42
              refine lv_aload_n hx hb dX12_isIced_58 rfl (lv_at hl 2 rfl) ?_
              refine va_get (D := D) (ci := 12) (v := .ref Ma) (C := RX12) (T := TX12) (N := 36) hx hb hts iX12 hown hK hP 0 rfl rfl 0 (bl rfl) (hts _ qf_X12_7) (fun _ h => h) f0 dX12_isIced_59 ?_
              refine lv_iload hx hb dX12_isIced_62 (lv_at hl 0 rfl) ?_
              refine lv_iconst (v := iZ 1) hx hb dX12_isIced_64 rfl ?_
              refine lv_iadd hx hb dX12_isIced_65 ?_
              refine lv_topi (fun x_44 ex_44 => ?_)
              obtain rfl : x_44 = iZ ((46 + (4 * i)) + 1) := ex_44.trans (iZ_add (46 + (4 * i)) 1)
              refine va_iald hx hb hK hP 1 1 rfl rfl (zin (e := ((46 + (4 * i)) + 1)) (n := 5340) ⟨by omega, by omega⟩ (bl rfl)) dX12_isIced_66 ?_
              refine lv_topi (fun x_45 ex_45 => ?_)
              obtain rfl : x_45 = iZ (gz Af ((46 + (4 * i)) + 1)) := ex_45.trans (gz_eq ⟨by omega, by omega⟩)
              have h_46 := gz_rg Af ((46 + (4 * i)) + 1)
              refine lv_iload_n hx hb dX12_isIced_67 rfl (lv_at hl 3 rfl) ?_
              refine lv_icmp_ne (tgt := 75) hx hb dX12_isIced_68 rfl (fun c_47 => ?_) (fun c_47 => ?_)
              ·
                have c_47 := mt (zeq (x := iZ (gz Af ((46 + (4 * i)) + 1))) (y := iZ x) rfl rfl (gz_rg Af ((46 + (4 * i)) + 1)) ⟨by omega, by omega⟩).mpr c_47
                refine lv_iconst (v := iZ 0) hx hb dX12_isIced_75 rfl ?_
                refine lv_istore (lv' := [(6, .int (iZ 0)), (5, .int (iZ (46 + (4 * i)))), (4, .int (iZ i)), (0, .ref hm), (1, .int (iZ x)), (2, .int (iZ y)), (3, .int (iZ w))]) hx hb dX12_isIced_76 hl (bl rfl) rfl (fun ls hl => ?_)
                refine lv_iload hx hb dX12_isIced_78 (lv_at hl 0 rfl) ?_
                refine lv_if_eq (tgt := 111) hx hb dX12_isIced_80 rfl (fun _ => ?_) (fun c => absurd (by decide) c)
                refine lv_iinc (v := iZ (i + 1)) (lv' := [(4, .int (iZ (i + 1))), (6, .int (iZ 0)), (5, .int (iZ (46 + (4 * i)))), (0, .ref hm), (1, .int (iZ x)), (2, .int (iZ y)), (3, .int (iZ w))]) hx hb dX12_isIced_111 hl (k := 2) rfl (iZ_add i 1) (by decide) rfl (fun ls hl => ?_)
                refine lv_goto (tgt := 3) hx hb dX12_isIced_114 rfl ?_
                exact ih1  (i + 1) _ (by omega) (by omega) (by omega) (by intro j h1 h2; rcases Int.lt_or_eq_of_le (show j ≤ i by omega) with h3 | h3; exact hi3 j h1 h3; rw [h3]; exact fun h4 => absurd ((icR_at hi1).mp h4) (by omega)) (lv_sub hl [0, 3, 4, 5, 6] rfl)
              ·
                have c_47 := (zeq (x := iZ (gz Af ((46 + (4 * i)) + 1))) (y := iZ x) rfl rfl (gz_rg Af ((46 + (4 * i)) + 1)) ⟨by omega, by omega⟩).mp c_47
                refine lv_iconst (v := iZ 1) hx hb dX12_isIced_71 rfl ?_
                refine lv_goto (tgt := 76) hx hb dX12_isIced_72 rfl ?_
                refine lv_istore (lv' := [(6, .int (iZ 1)), (5, .int (iZ (46 + (4 * i)))), (4, .int (iZ i)), (0, .ref hm), (1, .int (iZ x)), (2, .int (iZ y)), (3, .int (iZ w))]) hx hb dX12_isIced_76 hl (bl rfl) rfl (fun ls hl => ?_)
                refine lv_iload hx hb dX12_isIced_78 (lv_at hl 0 rfl) ?_
                refine lv_if_eq (tgt := 111) hx hb dX12_isIced_80 rfl (fun c => absurd c (by decide)) (fun _ => ?_)
                refine lv_iload_n hx hb dX12_isIced_83 rfl (lv_at hl 6 rfl) ?_
                refine lv_aload_n hx hb dX12_isIced_84 rfl (lv_at hl 3 rfl) ?_
                refine va_get (D := D) (ci := 12) (v := .ref Ma) (C := RX12) (T := TX12) (N := 36) hx hb hts iX12 hown hK hP 0 rfl rfl 0 (bl rfl) (hts _ qf_X12_7) (fun _ h => h) f0 dX12_isIced_85 ?_
                refine lv_iload hx hb dX12_isIced_88 (lv_at hl 1 rfl) ?_
                refine lv_iconst (v := iZ 2) hx hb dX12_isIced_90 rfl ?_
                refine lv_iadd hx hb dX12_isIced_91 ?_
                refine lv_topi (fun x_50 ex_50 => ?_)
                obtain rfl : x_50 = iZ ((46 + (4 * i)) + 2) := ex_50.trans (iZ_add (46 + (4 * i)) 2)
                refine va_iald hx hb hK hP 1 1 rfl rfl (zin (e := ((46 + (4 * i)) + 2)) (n := 5340) ⟨by omega, by omega⟩ (bl rfl)) dX12_isIced_92 ?_
                refine lv_topi (fun x_51 ex_51 => ?_)
                obtain rfl : x_51 = iZ (gz Af ((46 + (4 * i)) + 2)) := ex_51.trans (gz_eq ⟨by omega, by omega⟩)
                have h_52 := gz_rg Af ((46 + (4 * i)) + 2)
                refine lv_icmp_lt (tgt := 111) hx hb dX12_isIced_93 rfl (fun c_53 => ?_) (fun c_53 => ?_)
                ·
                  have c_53 := (zlt (x := iZ w) (y := iZ (gz Af ((46 + (4 * i)) + 2))) rfl rfl ⟨by omega, by omega⟩ (gz_rg Af ((46 + (4 * i)) + 2))).mp c_53
                  refine lv_iinc (v := iZ (i + 1)) (lv' := [(4, .int (iZ (i + 1))), (6, .int (iZ 1)), (5, .int (iZ (46 + (4 * i)))), (0, .ref hm), (1, .int (iZ x)), (2, .int (iZ y)), (3, .int (iZ w))]) hx hb dX12_isIced_111 hl (k := 2) rfl (iZ_add i 1) (by decide) rfl (fun ls hl => ?_)
                  refine lv_goto (tgt := 3) hx hb dX12_isIced_114 rfl ?_
                  exact ih1  (i + 1) _ (by omega) (by omega) (by omega) (by intro j h1 h2; rcases Int.lt_or_eq_of_le (show j ≤ i by omega) with h3 | h3; exact hi3 j h1 h3; rw [h3]; exact fun h4 => absurd ((icR_at hi1).mp h4) (by omega)) (lv_sub hl [0, 3, 4, 5, 6] rfl)
                ·
                  have c_53 := mt (zlt (x := iZ w) (y := iZ (gz Af ((46 + (4 * i)) + 2))) rfl rfl ⟨by omega, by omega⟩ (gz_rg Af ((46 + (4 * i)) + 2))).mpr c_53
                  refine lv_iload_n hx hb dX12_isIced_96 rfl (lv_at hl 6 rfl) ?_
                  refine lv_aload_n hx hb dX12_isIced_97 rfl (lv_at hl 3 rfl) ?_
                  refine va_get (D := D) (ci := 12) (v := .ref Ma) (C := RX12) (T := TX12) (N := 36) hx hb hts iX12 hown hK hP 0 rfl rfl 0 (bl rfl) (hts _ qf_X12_7) (fun _ h => h) f0 dX12_isIced_98 ?_
                  refine lv_iload hx hb dX12_isIced_101 (lv_at hl 1 rfl) ?_
                  refine lv_iconst (v := iZ 3) hx hb dX12_isIced_103 rfl ?_
                  refine lv_iadd hx hb dX12_isIced_104 ?_
                  refine lv_topi (fun x_54 ex_54 => ?_)
                  obtain rfl : x_54 = iZ ((46 + (4 * i)) + 3) := ex_54.trans (iZ_add (46 + (4 * i)) 3)
                  refine va_iald hx hb hK hP 1 1 rfl rfl (zin (e := ((46 + (4 * i)) + 3)) (n := 5340) ⟨by omega, by omega⟩ (bl rfl)) dX12_isIced_105 ?_
                  refine lv_topi (fun x_55 ex_55 => ?_)
                  obtain rfl : x_55 = iZ (gz Af ((46 + (4 * i)) + 3)) := ex_55.trans (gz_eq ⟨by omega, by omega⟩)
                  have h_56 := gz_rg Af ((46 + (4 * i)) + 3)
                  refine lv_icmp_gt (tgt := 111) hx hb dX12_isIced_106 rfl (fun c_57 => ?_) (fun c_57 => ?_)
                  ·
                    have c_57 := (zlt (x := iZ (gz Af ((46 + (4 * i)) + 3))) (y := iZ w) rfl rfl (gz_rg Af ((46 + (4 * i)) + 3)) ⟨by omega, by omega⟩).mp c_57
                    refine lv_iinc (v := iZ (i + 1)) (lv' := [(4, .int (iZ (i + 1))), (6, .int (iZ 1)), (5, .int (iZ (46 + (4 * i)))), (0, .ref hm), (1, .int (iZ x)), (2, .int (iZ y)), (3, .int (iZ w))]) hx hb dX12_isIced_111 hl (k := 2) rfl (iZ_add i 1) (by decide) rfl (fun ls hl => ?_)
                    refine lv_goto (tgt := 3) hx hb dX12_isIced_114 rfl ?_
                    exact ih1  (i + 1) _ (by omega) (by omega) (by omega) (by intro j h1 h2; rcases Int.lt_or_eq_of_le (show j ≤ i by omega) with h3 | h3; exact hi3 j h1 h3; rw [h3]; exact fun h4 => absurd ((icR_at hi1).mp h4) (by omega)) (lv_sub hl [0, 3, 4, 5, 6] rfl)
                  ·
                    have c_57 := mt (zlt (x := iZ (gz Af ((46 + (4 * i)) + 3))) (y := iZ w) rfl rfl (gz_rg Af ((46 + (4 * i)) + 3)) ⟨by omega, by omega⟩).mpr c_57
                    refine lv_iconst (v := iZ 1) hx hb dX12_isIced_109 rfl ?_
                    exact ERz hx hb hr hlocks rfl (by rw [bz_t ⟨i, hi1, by omega, (icR_at hi1).mpr (by omega)⟩]) dX12_isIced_110
  exact HL1 10 0 _ (by omega) (by omega) (by omega) (fun j h1 h2 => absurd h1 (by omega)) (lv_sub hl [0, 1, 2, 3, 4] rfl)
end
