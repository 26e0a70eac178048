theorem qt_yJ9_max_7cf53 : Cond.static yJ9_max_7cf53 ∈ gw := tbt (tb4 (List.mem_of_getElem? (i := 113) rfl)) rfl
theorem qz_J9 : Cond.initialized RJ9 ∈ gw := tbt (tb1 (List.mem_of_getElem? (i := 20) rfl)) rfl
theorem qc_J9_max_7cf53 : Cond.code yJ9_max_7cf53 cJ9_max_7cf53 2 (some .int) ∈ gw := tbt (tb4 (List.mem_of_getElem? (i := 114) rfl)) rfl
theorem qc_X3_arrival : Cond.code yX3_arrival cX3_arrival 7 (some .int) ∈ gw := tbt (tb4 (List.mem_of_getElem? (i := 84) rfl)) rfl
theorem qi_yX3_arrival : Cond.instanceMethod yX3_arrival ∈ gw := tbt (tb4 (List.mem_of_getElem? (i := 82) rfl)) rfl
theorem qs_X3_arrival : Cond.selects (yX3_arrival).cls yX3_arrival yX3_arrival ∈ gw := tbt (tb4 (List.mem_of_getElem? (i := 83) rfl)) rfl
theorem ci_X3_arrival : CIv yX3_arrival cX3_arrival 7 (some .int) 3 := ⟨qc_X3_arrival, qi_yX3_arrival, qs_X3_arrival, qz_X3, by decide +kernel⟩
theorem qm_X3_48 : Cond.methodLink RX3 48 yX3_arrival ∈ gw := tbt (tb4 (List.mem_of_getElem? (i := 115) rfl)) rfl
def fb_X3_echoOf_0 : List UInt8 := [0x2a, 0x1d, 0x2a, 0x1b, 0x1c, 0x1d, 0xb6, 0x00, 0x30, 0x1b, 0xb6, 0x00, 0x30, 0xac]
theorem fl_X3_echoOf_0 {p j : Nat} {b : UInt8} (e : p = 0 + j) (h : fb_X3_echoOf_0[j]? = some b) : cX3_echoOf.data.toList[p]? = some b := fq_l (n := 64) (show (cX3_echoOf.data.toList.drop 0).take 64 = fb_X3_echoOf_0 by decide +kernel) e h
theorem dX3_echoOf_0 : decode cX3_echoOf 0 = .ok (.aload_n 0, 1) := fq1_42 (fl_X3_echoOf_0 (j := 0) rfl rfl)
theorem dX3_echoOf_1 : decode cX3_echoOf 1 = .ok (.iload_n 3, 1) := fq1_29 (fl_X3_echoOf_0 (j := 1) rfl rfl)
theorem dX3_echoOf_2 : decode cX3_echoOf 2 = .ok (.aload_n 0, 1) := fq1_42 (fl_X3_echoOf_0 (j := 2) rfl rfl)
theorem dX3_echoOf_3 : decode cX3_echoOf 3 = .ok (.iload_n 1, 1) := fq1_27 (fl_X3_echoOf_0 (j := 3) rfl rfl)
theorem dX3_echoOf_4 : decode cX3_echoOf 4 = .ok (.iload_n 2, 1) := fq1_28 (fl_X3_echoOf_0 (j := 4) rfl rfl)
theorem dX3_echoOf_5 : decode cX3_echoOf 5 = .ok (.iload_n 3, 1) := fq1_29 (fl_X3_echoOf_0 (j := 5) rfl rfl)
theorem dX3_echoOf_6 : decode cX3_echoOf 6 = .ok (.invokevirtual 48, 3) := fq3_182 (fl_X3_echoOf_0 (j := 6) rfl rfl) (fl_X3_echoOf_0 (j := 7) rfl rfl) (fl_X3_echoOf_0 (j := 8) rfl rfl) rfl
theorem dX3_echoOf_9 : decode cX3_echoOf 9 = .ok (.iload_n 1, 1) := fq1_27 (fl_X3_echoOf_0 (j := 9) rfl rfl)
theorem dX3_echoOf_10 : decode cX3_echoOf 10 = .ok (.invokevirtual 48, 3) := fq3_182 (fl_X3_echoOf_0 (j := 10) rfl rfl) (fl_X3_echoOf_0 (j := 11) rfl rfl) (fl_X3_echoOf_0 (j := 12) rfl rfl) rfl
theorem dX3_echoOf_13 : decode cX3_echoOf 13 = .ok (.ireturn, 1) := fq1_172 (fl_X3_echoOf_0 (j := 13) rfl rfl)