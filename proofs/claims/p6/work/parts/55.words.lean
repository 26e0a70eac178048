theorem qf_X11_391 : Cond.fieldLink RX11 391 "SlowWorlds" "marks" "I" ∈ gw := tbt (tb2 (List.mem_of_getElem? (i := 208) rfl)) rfl
theorem qf_X11_25 : Cond.fieldLink RX11 25 "SlowWorlds" "kept" "[LSlowWorlds$World;" ∈ gw := tbt (tb2 (List.mem_of_getElem? (i := 199) rfl)) rfl
theorem qc_X8_copyFrom : Cond.code yX8_copyFrom cX8_copyFrom 2 none ∈ gw := tbt (tb6 (List.mem_of_getElem? (i := 27) rfl)) rfl
theorem qi_yX8_copyFrom : Cond.instanceMethod yX8_copyFrom ∈ gw := tbt (tb6 (List.mem_of_getElem? (i := 25) rfl)) rfl
theorem qs_X8_copyFrom : Cond.selects (yX8_copyFrom).cls yX8_copyFrom yX8_copyFrom ∈ gw := tbt (tb6 (List.mem_of_getElem? (i := 26) rfl)) rfl
theorem ci_X8_copyFrom : CIv yX8_copyFrom cX8_copyFrom 2 none 1 := ⟨qc_X8_copyFrom, qi_yX8_copyFrom, qs_X8_copyFrom, qz_X8, by decide +kernel⟩
theorem qm_X11_394 : Cond.methodLink RX11 394 yX8_copyFrom ∈ gw := tbt (tb6 (List.mem_of_getElem? (i := 24) rfl)) rfl
theorem dX11_mark_0 : decode cX11_mark 0 = .ok (.aload_n 0, 1) := by decide +kernel
theorem dX11_mark_1 : decode cX11_mark 1 = .ok (.getfield 391, 3) := by decide +kernel
theorem dX11_mark_4 : decode cX11_mark 4 = .ok (.iconst 3, 1) := by decide +kernel
theorem dX11_mark_5 : decode cX11_mark 5 = .ok (.if_icmp .ne 9, 3) := by decide +kernel
theorem dX11_mark_8 : decode cX11_mark 8 = .ok (.aload_n 0, 1) := by decide +kernel
theorem dX11_mark_9 : decode cX11_mark 9 = .ok (.iconst 4, 1) := by decide +kernel
theorem dX11_mark_10 : decode cX11_mark 10 = .ok (.invokevirtual 126, 3) := by decide +kernel
theorem dX11_mark_13 : decode cX11_mark 13 = .ok (.ireturn, 1) := by decide +kernel
theorem dX11_mark_14 : decode cX11_mark 14 = .ok (.aload_n 0, 1) := by decide +kernel
theorem dX11_mark_15 : decode cX11_mark 15 = .ok (.getfield 25, 3) := by decide +kernel
theorem dX11_mark_18 : decode cX11_mark 18 = .ok (.aload_n 0, 1) := by decide +kernel
theorem dX11_mark_19 : decode cX11_mark 19 = .ok (.getfield 391, 3) := by decide +kernel
theorem dX11_mark_22 : decode cX11_mark 22 = .ok (.aaload, 1) := by decide +kernel
theorem dX11_mark_23 : decode cX11_mark 23 = .ok (.aload_n 0, 1) := by decide +kernel
theorem dX11_mark_24 : decode cX11_mark 24 = .ok (.getfield 18, 3) := by decide +kernel
theorem dX11_mark_27 : decode cX11_mark 27 = .ok (.invokevirtual 394, 3) := by decide +kernel
theorem dX11_mark_30 : decode cX11_mark 30 = .ok (.aload_n 0, 1) := by decide +kernel
theorem dX11_mark_31 : decode cX11_mark 31 = .ok (.dup, 1) := by decide +kernel
theorem dX11_mark_32 : decode cX11_mark 32 = .ok (.getfield 391, 3) := by decide +kernel
theorem dX11_mark_35 : decode cX11_mark 35 = .ok (.iconst 1, 1) := by decide +kernel
theorem dX11_mark_36 : decode cX11_mark 36 = .ok (.iadd, 1) := by decide +kernel
theorem dX11_mark_37 : decode cX11_mark 37 = .ok (.putfield 391, 3) := by decide +kernel
theorem dX11_mark_40 : decode cX11_mark 40 = .ok (.aload_n 0, 1) := by decide +kernel
theorem dX11_mark_41 : decode cX11_mark 41 = .ok (.aload_n 0, 1) := by decide +kernel
theorem dX11_mark_42 : decode cX11_mark 42 = .ok (.getfield 391, 3) := by decide +kernel
theorem dX11_mark_45 : decode cX11_mark 45 = .ok (.invokevirtual 174, 3) := by decide +kernel
theorem dX11_mark_48 : decode cX11_mark 48 = .ok (.ireturn, 1) := by decide +kernel
