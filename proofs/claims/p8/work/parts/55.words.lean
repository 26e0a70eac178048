theorem qf_X11_391 : Cond.fieldLink RX11 391 "SlowWorlds" "marks" "I" ∈ gw := tbt (tb2 (List.mem_of_getElem? (i := 208) rfl)) rfl
theorem qf_X11_25 : Cond.fieldLink RX11 25 "SlowWorlds" "kept" "[LSlowWorlds$World;" ∈ gw := tbt (tb2 (List.mem_of_getElem? (i := 199) rfl)) rfl
theorem qc_X8_copyFrom : Cond.code yX8_copyFrom cX8_copyFrom 2 none ∈ gw := tbt (tb6 (List.mem_of_getElem? (i := 27) rfl)) rfl
theorem qi_yX8_copyFrom : Cond.instanceMethod yX8_copyFrom ∈ gw := tbt (tb6 (List.mem_of_getElem? (i := 25) rfl)) rfl
theorem qs_X8_copyFrom : Cond.selects (yX8_copyFrom).cls yX8_copyFrom yX8_copyFrom ∈ gw := tbt (tb6 (List.mem_of_getElem? (i := 26) rfl)) rfl
theorem ci_X8_copyFrom : CIv yX8_copyFrom cX8_copyFrom 2 none 1 := ⟨qc_X8_copyFrom, qi_yX8_copyFrom, qs_X8_copyFrom, qz_X8, by decide +kernel⟩
theorem qm_X11_394 : Cond.methodLink RX11 394 yX8_copyFrom ∈ gw := tbt (tb6 (List.mem_of_getElem? (i := 24) rfl)) rfl
def fb_X11_mark_0 : List UInt8 := [0x2a, 0xb4, 0x01, 0x87, 0x06, 0xa0, 0x00, 0x09, 0x2a, 0x07, 0xb6, 0x00, 0x7e, 0xac, 0x2a, 0xb4, 0x00, 0x19, 0x2a, 0xb4, 0x01, 0x87, 0x32, 0x2a, 0xb4, 0x00, 0x12, 0xb6, 0x01, 0x8a, 0x2a, 0x59, 0xb4, 0x01, 0x87, 0x04, 0x60, 0xb5, 0x01, 0x87, 0x2a, 0x2a, 0xb4, 0x01, 0x87, 0xb6, 0x00, 0xae, 0xac]
theorem fl_X11_mark_0 {p j : Nat} {b : UInt8} (e : p = 0 + j) (h : fb_X11_mark_0[j]? = some b) : cX11_mark.data.toList[p]? = some b := fq_l (n := 64) (show (cX11_mark.data.toList.drop 0).take 64 = fb_X11_mark_0 by decide +kernel) e h
theorem dX11_mark_0 : decode cX11_mark 0 = .ok (.aload_n 0, 1) := fq1_42 (fl_X11_mark_0 (j := 0) rfl rfl)
theorem dX11_mark_1 : decode cX11_mark 1 = .ok (.getfield 391, 3) := fq3_180 (fl_X11_mark_0 (j := 1) rfl rfl) (fl_X11_mark_0 (j := 2) rfl rfl) (fl_X11_mark_0 (j := 3) rfl rfl) (by decide)
theorem dX11_mark_4 : decode cX11_mark 4 = .ok (.iconst 3, 1) := fq1_6 (fl_X11_mark_0 (j := 4) rfl rfl)
theorem dX11_mark_5 : decode cX11_mark 5 = .ok (.if_icmp .ne 9, 3) := fq3_160 (fl_X11_mark_0 (j := 5) rfl rfl) (fl_X11_mark_0 (j := 6) rfl rfl) (fl_X11_mark_0 (j := 7) rfl rfl) (by decide)
theorem dX11_mark_8 : decode cX11_mark 8 = .ok (.aload_n 0, 1) := fq1_42 (fl_X11_mark_0 (j := 8) rfl rfl)
theorem dX11_mark_9 : decode cX11_mark 9 = .ok (.iconst 4, 1) := fq1_7 (fl_X11_mark_0 (j := 9) rfl rfl)
theorem dX11_mark_10 : decode cX11_mark 10 = .ok (.invokevirtual 126, 3) := fq3_182 (fl_X11_mark_0 (j := 10) rfl rfl) (fl_X11_mark_0 (j := 11) rfl rfl) (fl_X11_mark_0 (j := 12) rfl rfl) (by decide)
theorem dX11_mark_13 : decode cX11_mark 13 = .ok (.ireturn, 1) := fq1_172 (fl_X11_mark_0 (j := 13) rfl rfl)
theorem dX11_mark_14 : decode cX11_mark 14 = .ok (.aload_n 0, 1) := fq1_42 (fl_X11_mark_0 (j := 14) rfl rfl)
theorem dX11_mark_15 : decode cX11_mark 15 = .ok (.getfield 25, 3) := fq3_180 (fl_X11_mark_0 (j := 15) rfl rfl) (fl_X11_mark_0 (j := 16) rfl rfl) (fl_X11_mark_0 (j := 17) rfl rfl) (by decide)
theorem dX11_mark_18 : decode cX11_mark 18 = .ok (.aload_n 0, 1) := fq1_42 (fl_X11_mark_0 (j := 18) rfl rfl)
theorem dX11_mark_19 : decode cX11_mark 19 = .ok (.getfield 391, 3) := fq3_180 (fl_X11_mark_0 (j := 19) rfl rfl) (fl_X11_mark_0 (j := 20) rfl rfl) (fl_X11_mark_0 (j := 21) rfl rfl) (by decide)
theorem dX11_mark_22 : decode cX11_mark 22 = .ok (.aaload, 1) := fq1_50 (fl_X11_mark_0 (j := 22) rfl rfl)
theorem dX11_mark_23 : decode cX11_mark 23 = .ok (.aload_n 0, 1) := fq1_42 (fl_X11_mark_0 (j := 23) rfl rfl)
theorem dX11_mark_24 : decode cX11_mark 24 = .ok (.getfield 18, 3) := fq3_180 (fl_X11_mark_0 (j := 24) rfl rfl) (fl_X11_mark_0 (j := 25) rfl rfl) (fl_X11_mark_0 (j := 26) rfl rfl) (by decide)
theorem dX11_mark_27 : decode cX11_mark 27 = .ok (.invokevirtual 394, 3) := fq3_182 (fl_X11_mark_0 (j := 27) rfl rfl) (fl_X11_mark_0 (j := 28) rfl rfl) (fl_X11_mark_0 (j := 29) rfl rfl) (by decide)
theorem dX11_mark_30 : decode cX11_mark 30 = .ok (.aload_n 0, 1) := fq1_42 (fl_X11_mark_0 (j := 30) rfl rfl)
theorem dX11_mark_31 : decode cX11_mark 31 = .ok (.dup, 1) := fq1_89 (fl_X11_mark_0 (j := 31) rfl rfl)
theorem dX11_mark_32 : decode cX11_mark 32 = .ok (.getfield 391, 3) := fq3_180 (fl_X11_mark_0 (j := 32) rfl rfl) (fl_X11_mark_0 (j := 33) rfl rfl) (fl_X11_mark_0 (j := 34) rfl rfl) (by decide)
theorem dX11_mark_35 : decode cX11_mark 35 = .ok (.iconst 1, 1) := fq1_4 (fl_X11_mark_0 (j := 35) rfl rfl)
theorem dX11_mark_36 : decode cX11_mark 36 = .ok (.iadd, 1) := fq1_96 (fl_X11_mark_0 (j := 36) rfl rfl)
theorem dX11_mark_37 : decode cX11_mark 37 = .ok (.putfield 391, 3) := fq3_181 (fl_X11_mark_0 (j := 37) rfl rfl) (fl_X11_mark_0 (j := 38) rfl rfl) (fl_X11_mark_0 (j := 39) rfl rfl) (by decide)
theorem dX11_mark_40 : decode cX11_mark 40 = .ok (.aload_n 0, 1) := fq1_42 (fl_X11_mark_0 (j := 40) rfl rfl)
theorem dX11_mark_41 : decode cX11_mark 41 = .ok (.aload_n 0, 1) := fq1_42 (fl_X11_mark_0 (j := 41) rfl rfl)
theorem dX11_mark_42 : decode cX11_mark 42 = .ok (.getfield 391, 3) := fq3_180 (fl_X11_mark_0 (j := 42) rfl rfl) (fl_X11_mark_0 (j := 43) rfl rfl) (fl_X11_mark_0 (j := 44) rfl rfl) (by decide)
theorem dX11_mark_45 : decode cX11_mark 45 = .ok (.invokevirtual 174, 3) := fq3_182 (fl_X11_mark_0 (j := 45) rfl rfl) (fl_X11_mark_0 (j := 46) rfl rfl) (fl_X11_mark_0 (j := 47) rfl rfl) (by decide)
theorem dX11_mark_48 : decode cX11_mark 48 = .ok (.ireturn, 1) := fq1_172 (fl_X11_mark_0 (j := 48) rfl rfl)
