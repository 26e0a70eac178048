theorem qk_X12_399 : Cond.constantLong RX12 399 (9999) ∈ gw := tbt (tb9 (List.mem_of_getElem? (i := 4) rfl)) rfl
theorem qc_X12_lives : Cond.code yX12_lives cX12_lives 4 none ∈ gw := tbt (tb9 (List.mem_of_getElem? (i := 8) rfl)) rfl
theorem qi_yX12_lives : Cond.instanceMethod yX12_lives ∈ gw := tbt (tb9 (List.mem_of_getElem? (i := 7) rfl)) rfl
theorem qs_X12_lives : Cond.selects (yX12_lives).cls yX12_lives yX12_lives ∈ gw := tb0 (List.mem_of_getElem? (i := 99) rfl) rfl
theorem ci_X12_lives : CIv yX12_lives cX12_lives 4 none 1 := ⟨qc_X12_lives, qi_yX12_lives, qs_X12_lives, qz_X12, by decide +kernel⟩
theorem qm_X12_401 : Cond.methodLink RX12 401 yX12_lives ∈ gw := tbt (tb9 (List.mem_of_getElem? (i := 5) rfl)) rfl
theorem qf_X12_404 : Cond.fieldLink RX12 404 "SlowWorldsModel" "isTold" "Z" ∈ gw := tbt (tb6 (List.mem_of_getElem? (i := 78) rfl)) rfl
theorem qf_X12_68 : Cond.fieldLink RX12 68 "SlowWorldsModel" "told0" "[I" ∈ gw := tbt (tb6 (List.mem_of_getElem? (i := 77) rfl)) rfl
theorem dX12_live_0 : decode cX12_live 0 = .ok (.iload_n 1, 1) := by decide +kernel
theorem dX12_live_1 : decode cX12_live 1 = .ok (.i2l, 1) := by decide +kernel
theorem dX12_live_2 : decode cX12_live 2 = .ok (.lconst 0, 1) := by decide +kernel
theorem dX12_live_3 : decode cX12_live 3 = .ok (.ldc2_w 399, 3) := by decide +kernel
theorem dX12_live_6 : decode cX12_live 6 = .ok (.invokestatic 295, 3) := by decide +kernel
theorem dX12_live_9 : decode cX12_live 9 = .ok (.ifCond .ne 9, 3) := by decide +kernel
theorem dX12_live_12 : decode cX12_live 12 = .ok (.aload_n 0, 1) := by decide +kernel
theorem dX12_live_13 : decode cX12_live 13 = .ok (.iconst 1, 1) := by decide +kernel
theorem dX12_live_14 : decode cX12_live 14 = .ok (.invokevirtual 81, 3) := by decide +kernel
theorem dX12_live_17 : decode cX12_live 17 = .ok (.ireturn, 1) := by decide +kernel
theorem dX12_live_18 : decode cX12_live 18 = .ok (.aload_n 0, 1) := by decide +kernel
theorem dX12_live_19 : decode cX12_live 19 = .ok (.getfield 7, 3) := by decide +kernel
theorem dX12_live_22 : decode cX12_live 22 = .ok (.iconst 5, 1) := by decide +kernel
theorem dX12_live_23 : decode cX12_live 23 = .ok (.iaload, 1) := by decide +kernel
theorem dX12_live_24 : decode cX12_live 24 = .ok (.iconst (-1), 1) := by decide +kernel
theorem dX12_live_25 : decode cX12_live 25 = .ok (.if_icmp .ne 10, 3) := by decide +kernel
theorem dX12_live_28 : decode cX12_live 28 = .ok (.aload_n 0, 1) := by decide +kernel
theorem dX12_live_29 : decode cX12_live 29 = .ok (.bipush 6, 2) := by decide +kernel
theorem dX12_live_31 : decode cX12_live 31 = .ok (.invokevirtual 81, 3) := by decide +kernel
theorem dX12_live_34 : decode cX12_live 34 = .ok (.ireturn, 1) := by decide +kernel
theorem dX12_live_35 : decode cX12_live 35 = .ok (.aload_n 0, 1) := by decide +kernel
theorem dX12_live_36 : decode cX12_live 36 = .ok (.iload_n 1, 1) := by decide +kernel
theorem dX12_live_37 : decode cX12_live 37 = .ok (.invokevirtual 401, 3) := by decide +kernel
theorem dX12_live_40 : decode cX12_live 40 = .ok (.iconst 0, 1) := by decide +kernel
theorem dX12_live_41 : decode cX12_live 41 = .ok (.istore_n 2, 1) := by decide +kernel
theorem dX12_live_42 : decode cX12_live 42 = .ok (.iload_n 2, 1) := by decide +kernel
theorem dX12_live_43 : decode cX12_live 43 = .ok (.iconst 5, 1) := by decide +kernel
theorem dX12_live_44 : decode cX12_live 44 = .ok (.if_icmp .ge 21, 3) := by decide +kernel
theorem dX12_live_47 : decode cX12_live 47 = .ok (.aload_n 0, 1) := by decide +kernel
theorem dX12_live_48 : decode cX12_live 48 = .ok (.getfield 68, 3) := by decide +kernel
theorem dX12_live_51 : decode cX12_live 51 = .ok (.iload_n 2, 1) := by decide +kernel
theorem dX12_live_52 : decode cX12_live 52 = .ok (.aload_n 0, 1) := by decide +kernel
theorem dX12_live_53 : decode cX12_live 53 = .ok (.getfield 65, 3) := by decide +kernel
theorem dX12_live_56 : decode cX12_live 56 = .ok (.iload_n 2, 1) := by decide +kernel
theorem dX12_live_57 : decode cX12_live 57 = .ok (.iaload, 1) := by decide +kernel
theorem dX12_live_58 : decode cX12_live 58 = .ok (.iastore, 1) := by decide +kernel
theorem dX12_live_59 : decode cX12_live 59 = .ok (.iinc 2 1, 3) := by decide +kernel
theorem dX12_live_62 : decode cX12_live 62 = .ok (.goto (-20), 3) := by decide +kernel
theorem dX12_live_65 : decode cX12_live 65 = .ok (.aload_n 0, 1) := by decide +kernel
theorem dX12_live_66 : decode cX12_live 66 = .ok (.iconst 1, 1) := by decide +kernel
theorem dX12_live_67 : decode cX12_live 67 = .ok (.putfield 404, 3) := by decide +kernel
theorem dX12_live_70 : decode cX12_live 70 = .ok (.aload_n 0, 1) := by decide +kernel
theorem dX12_live_71 : decode cX12_live 71 = .ok (.aload_n 0, 1) := by decide +kernel
theorem dX12_live_72 : decode cX12_live 72 = .ok (.getfield 387, 3) := by decide +kernel
theorem dX12_live_75 : decode cX12_live 75 = .ok (.invokevirtual 85, 3) := by decide +kernel
theorem dX12_live_78 : decode cX12_live 78 = .ok (.ireturn, 1) := by decide +kernel
theorem dX12_lived_0 : decode cX12_lived 0 = .ok (.iload_n 1, 1) := by decide +kernel
theorem dX12_lived_1 : decode cX12_lived 1 = .ok (.ifCond .lt 8, 3) := by decide +kernel
theorem dX12_lived_4 : decode cX12_lived 4 = .ok (.iload_n 1, 1) := by decide +kernel
theorem dX12_lived_5 : decode cX12_lived 5 = .ok (.iconst 4, 1) := by decide +kernel
theorem dX12_lived_6 : decode cX12_lived 6 = .ok (.if_icmp .le 11, 3) := by decide +kernel
theorem dX12_lived_9 : decode cX12_lived 9 = .ok (.aload_n 0, 1) := by decide +kernel
theorem dX12_lived_10 : decode cX12_lived 10 = .ok (.iconst 1, 1) := by decide +kernel
theorem dX12_lived_11 : decode cX12_lived 11 = .ok (.invokevirtual 81, 3) := by decide +kernel
theorem dX12_lived_14 : decode cX12_lived 14 = .ok (.goto 29, 3) := by decide +kernel
theorem dX12_lived_17 : decode cX12_lived 17 = .ok (.aload_n 0, 1) := by decide +kernel
theorem dX12_lived_18 : decode cX12_lived 18 = .ok (.getfield 404, 3) := by decide +kernel
theorem dX12_lived_21 : decode cX12_lived 21 = .ok (.ifCond .eq 16, 3) := by decide +kernel
theorem dX12_lived_24 : decode cX12_lived 24 = .ok (.aload_n 0, 1) := by decide +kernel
theorem dX12_lived_25 : decode cX12_lived 25 = .ok (.aload_n 0, 1) := by decide +kernel
theorem dX12_lived_26 : decode cX12_lived 26 = .ok (.getfield 68, 3) := by decide +kernel
theorem dX12_lived_29 : decode cX12_lived 29 = .ok (.iload_n 1, 1) := by decide +kernel
theorem dX12_lived_30 : decode cX12_lived 30 = .ok (.iaload, 1) := by decide +kernel
theorem dX12_lived_31 : decode cX12_lived 31 = .ok (.invokevirtual 85, 3) := by decide +kernel
theorem dX12_lived_34 : decode cX12_lived 34 = .ok (.goto 9, 3) := by decide +kernel
theorem dX12_lived_37 : decode cX12_lived 37 = .ok (.aload_n 0, 1) := by decide +kernel
theorem dX12_lived_38 : decode cX12_lived 38 = .ok (.bipush 6, 2) := by decide +kernel
theorem dX12_lived_40 : decode cX12_lived 40 = .ok (.invokevirtual 81, 3) := by decide +kernel
theorem dX12_lived_43 : decode cX12_lived 43 = .ok (.ireturn, 1) := by decide +kernel
