theorem qf_X11_79 : Cond.fieldLink RX11 79 "SlowWorlds" "life" "LSlowWorlds$Life;" ∈ gw := tbt (tb2 (List.mem_of_getElem? (i := 205) rfl)) rfl
theorem qm_X11_293 : Cond.methodLink RX11 293 yX1_giveOrder ∈ gw := tbt (tb4 (List.mem_of_getElem? (i := 219) rfl)) rfl
theorem qm_X11_347 : Cond.methodLink RX11 347 yX1_letPass ∈ gw := tbt (tb5 (List.mem_of_getElem? (i := 163) rfl)) rfl
theorem qf_X11_362 : Cond.fieldLink RX11 362 "SlowWorlds$Years" "there" "Z" ∈ gw := tbt (tb1 (List.mem_of_getElem? (i := 145) rfl)) rfl
theorem qc_X1_run : Cond.code yX1_run cX1_run 5 none ∈ gw := tbt (tb5 (List.mem_of_getElem? (i := 220) rfl)) rfl
theorem qi_yX1_run : Cond.instanceMethod yX1_run ∈ gw := tbt (tb5 (List.mem_of_getElem? (i := 218) rfl)) rfl
theorem qs_X1_run : Cond.selects (yX1_run).cls yX1_run yX1_run ∈ gw := tbt (tb5 (List.mem_of_getElem? (i := 219) rfl)) rfl
theorem ci_X1_run : CIv yX1_run cX1_run 5 none 1 := ⟨qc_X1_run, qi_yX1_run, qs_X1_run, qz_X1, by decide +kernel⟩
theorem qm_X11_366 : Cond.methodLink RX11 366 yX1_run ∈ gw := tbt (tb5 (List.mem_of_getElem? (i := 217) rfl)) rfl
theorem qf_X11_372 : Cond.fieldLink RX11 372 "SlowWorlds$Life" "missed" "I" ∈ gw := tbt (tb2 (List.mem_of_getElem? (i := 146) rfl)) rfl
theorem qf_X11_375 : Cond.fieldLink RX11 375 "SlowWorlds$Life" "weeks" "I" ∈ gw := tbt (tb2 (List.mem_of_getElem? (i := 148) rfl)) rfl
theorem qf_X11_378 : Cond.fieldLink RX11 378 "SlowWorlds$Life" "turned" "I" ∈ gw := tbt (tb2 (List.mem_of_getElem? (i := 150) rfl)) rfl
theorem qf_X11_381 : Cond.fieldLink RX11 381 "SlowWorlds$Life" "ordered" "I" ∈ gw := tbt (tb2 (List.mem_of_getElem? (i := 152) rfl)) rfl
theorem qf_X11_384 : Cond.fieldLink RX11 384 "SlowWorlds$Life" "left" "I" ∈ gw := tbt (tb2 (List.mem_of_getElem? (i := 154) rfl)) rfl
theorem qf_X11_387 : Cond.fieldLink RX11 387 "SlowWorlds$Life" "steps" "I" ∈ gw := tbt (tb2 (List.mem_of_getElem? (i := 144) rfl)) rfl
theorem dX11_live_0 : decode cX11_live 0 = .ok (.iload_n 1, 1) := by decide +kernel
theorem dX11_live_1 : decode cX11_live 1 = .ok (.sipush 9999, 3) := by decide +kernel
theorem dX11_live_4 : decode cX11_live 4 = .ok (.invokestatic 103, 3) := by decide +kernel
theorem dX11_live_7 : decode cX11_live 7 = .ok (.ifCond .ne 9, 3) := by decide +kernel
theorem dX11_live_10 : decode cX11_live 10 = .ok (.aload_n 0, 1) := by decide +kernel
theorem dX11_live_11 : decode cX11_live 11 = .ok (.iconst 1, 1) := by decide +kernel
theorem dX11_live_12 : decode cX11_live 12 = .ok (.invokevirtual 126, 3) := by decide +kernel
theorem dX11_live_15 : decode cX11_live 15 = .ok (.ireturn, 1) := by decide +kernel
theorem dX11_live_16 : decode cX11_live 16 = .ok (.aload_n 0, 1) := by decide +kernel
theorem dX11_live_17 : decode cX11_live 17 = .ok (.getfield 18, 3) := by decide +kernel
theorem dX11_live_20 : decode cX11_live 20 = .ok (.getfield 177, 3) := by decide +kernel
theorem dX11_live_23 : decode cX11_live 23 = .ok (.getfield 362, 3) := by decide +kernel
theorem dX11_live_26 : decode cX11_live 26 = .ok (.ifCond .ne 10, 3) := by decide +kernel
theorem dX11_live_29 : decode cX11_live 29 = .ok (.aload_n 0, 1) := by decide +kernel
theorem dX11_live_30 : decode cX11_live 30 = .ok (.bipush 6, 2) := by decide +kernel
theorem dX11_live_32 : decode cX11_live 32 = .ok (.invokevirtual 126, 3) := by decide +kernel
theorem dX11_live_35 : decode cX11_live 35 = .ok (.ireturn, 1) := by decide +kernel
theorem dX11_live_36 : decode cX11_live 36 = .ok (.aload_n 0, 1) := by decide +kernel
theorem dX11_live_37 : decode cX11_live 37 = .ok (.getfield 79, 3) := by decide +kernel
theorem dX11_live_40 : decode cX11_live 40 = .ok (.iload_n 1, 1) := by decide +kernel
theorem dX11_live_41 : decode cX11_live 41 = .ok (.invokevirtual 366, 3) := by decide +kernel
theorem dX11_live_44 : decode cX11_live 44 = .ok (.aload_n 0, 1) := by decide +kernel
theorem dX11_live_45 : decode cX11_live 45 = .ok (.iconst 1, 1) := by decide +kernel
theorem dX11_live_46 : decode cX11_live 46 = .ok (.putfield 369, 3) := by decide +kernel
theorem dX11_live_49 : decode cX11_live 49 = .ok (.aload_n 0, 1) := by decide +kernel
theorem dX11_live_50 : decode cX11_live 50 = .ok (.getfield 83, 3) := by decide +kernel
theorem dX11_live_53 : decode cX11_live 53 = .ok (.iconst 0, 1) := by decide +kernel
theorem dX11_live_54 : decode cX11_live 54 = .ok (.aload_n 0, 1) := by decide +kernel
theorem dX11_live_55 : decode cX11_live 55 = .ok (.getfield 79, 3) := by decide +kernel
theorem dX11_live_58 : decode cX11_live 58 = .ok (.getfield 372, 3) := by decide +kernel
theorem dX11_live_61 : decode cX11_live 61 = .ok (.iastore, 1) := by decide +kernel
theorem dX11_live_62 : decode cX11_live 62 = .ok (.aload_n 0, 1) := by decide +kernel
theorem dX11_live_63 : decode cX11_live 63 = .ok (.getfield 83, 3) := by decide +kernel
theorem dX11_live_66 : decode cX11_live 66 = .ok (.iconst 1, 1) := by decide +kernel
theorem dX11_live_67 : decode cX11_live 67 = .ok (.aload_n 0, 1) := by decide +kernel
theorem dX11_live_68 : decode cX11_live 68 = .ok (.getfield 79, 3) := by decide +kernel
theorem dX11_live_71 : decode cX11_live 71 = .ok (.getfield 375, 3) := by decide +kernel
theorem dX11_live_74 : decode cX11_live 74 = .ok (.iastore, 1) := by decide +kernel
theorem dX11_live_75 : decode cX11_live 75 = .ok (.aload_n 0, 1) := by decide +kernel
theorem dX11_live_76 : decode cX11_live 76 = .ok (.getfield 83, 3) := by decide +kernel
theorem dX11_live_79 : decode cX11_live 79 = .ok (.iconst 2, 1) := by decide +kernel
theorem dX11_live_80 : decode cX11_live 80 = .ok (.aload_n 0, 1) := by decide +kernel
theorem dX11_live_81 : decode cX11_live 81 = .ok (.getfield 79, 3) := by decide +kernel
theorem dX11_live_84 : decode cX11_live 84 = .ok (.getfield 378, 3) := by decide +kernel
theorem dX11_live_87 : decode cX11_live 87 = .ok (.iastore, 1) := by decide +kernel
theorem dX11_live_88 : decode cX11_live 88 = .ok (.aload_n 0, 1) := by decide +kernel
theorem dX11_live_89 : decode cX11_live 89 = .ok (.getfield 83, 3) := by decide +kernel
theorem dX11_live_92 : decode cX11_live 92 = .ok (.iconst 3, 1) := by decide +kernel
theorem dX11_live_93 : decode cX11_live 93 = .ok (.aload_n 0, 1) := by decide +kernel
theorem dX11_live_94 : decode cX11_live 94 = .ok (.getfield 79, 3) := by decide +kernel
theorem dX11_live_97 : decode cX11_live 97 = .ok (.getfield 381, 3) := by decide +kernel
theorem dX11_live_100 : decode cX11_live 100 = .ok (.iastore, 1) := by decide +kernel
theorem dX11_live_101 : decode cX11_live 101 = .ok (.aload_n 0, 1) := by decide +kernel
theorem dX11_live_102 : decode cX11_live 102 = .ok (.getfield 83, 3) := by decide +kernel
theorem dX11_live_105 : decode cX11_live 105 = .ok (.iconst 4, 1) := by decide +kernel
theorem dX11_live_106 : decode cX11_live 106 = .ok (.aload_n 0, 1) := by decide +kernel
theorem dX11_live_107 : decode cX11_live 107 = .ok (.getfield 79, 3) := by decide +kernel
theorem dX11_live_110 : decode cX11_live 110 = .ok (.getfield 384, 3) := by decide +kernel
theorem dX11_live_113 : decode cX11_live 113 = .ok (.iastore, 1) := by decide +kernel
theorem dX11_live_114 : decode cX11_live 114 = .ok (.aload_n 0, 1) := by decide +kernel
theorem dX11_live_115 : decode cX11_live 115 = .ok (.aload_n 0, 1) := by decide +kernel
theorem dX11_live_116 : decode cX11_live 116 = .ok (.getfield 79, 3) := by decide +kernel
theorem dX11_live_119 : decode cX11_live 119 = .ok (.getfield 387, 3) := by decide +kernel
theorem dX11_live_122 : decode cX11_live 122 = .ok (.invokevirtual 174, 3) := by decide +kernel
theorem dX11_live_125 : decode cX11_live 125 = .ok (.ireturn, 1) := by decide +kernel
theorem dX11_order_0 : decode cX11_order 0 = .ok (.aload_n 0, 1) := by decide +kernel
theorem dX11_order_1 : decode cX11_order 1 = .ok (.iload_n 1, 1) := by decide +kernel
theorem dX11_order_2 : decode cX11_order 2 = .ok (.invokevirtual 221, 3) := by decide +kernel
theorem dX11_order_5 : decode cX11_order 5 = .ok (.ifCond .ne 9, 3) := by decide +kernel
theorem dX11_order_8 : decode cX11_order 8 = .ok (.aload_n 0, 1) := by decide +kernel
theorem dX11_order_9 : decode cX11_order 9 = .ok (.iconst 1, 1) := by decide +kernel
theorem dX11_order_10 : decode cX11_order 10 = .ok (.invokevirtual 126, 3) := by decide +kernel
theorem dX11_order_13 : decode cX11_order 13 = .ok (.ireturn, 1) := by decide +kernel
theorem dX11_order_14 : decode cX11_order 14 = .ok (.aload_n 0, 1) := by decide +kernel
theorem dX11_order_15 : decode cX11_order 15 = .ok (.getfield 79, 3) := by decide +kernel
theorem dX11_order_18 : decode cX11_order 18 = .ok (.iload_n 1, 1) := by decide +kernel
theorem dX11_order_19 : decode cX11_order 19 = .ok (.invokevirtual 293, 3) := by decide +kernel
theorem dX11_order_22 : decode cX11_order 22 = .ok (.istore_n 2, 1) := by decide +kernel
theorem dX11_order_23 : decode cX11_order 23 = .ok (.iload_n 2, 1) := by decide +kernel
theorem dX11_order_24 : decode cX11_order 24 = .ok (.iconst (-1), 1) := by decide +kernel
theorem dX11_order_25 : decode cX11_order 25 = .ok (.if_icmp .ne 11, 3) := by decide +kernel
theorem dX11_order_28 : decode cX11_order 28 = .ok (.aload_n 0, 1) := by decide +kernel
theorem dX11_order_29 : decode cX11_order 29 = .ok (.iconst 4, 1) := by decide +kernel
theorem dX11_order_30 : decode cX11_order 30 = .ok (.invokevirtual 126, 3) := by decide +kernel
theorem dX11_order_33 : decode cX11_order 33 = .ok (.goto 8, 3) := by decide +kernel
theorem dX11_order_36 : decode cX11_order 36 = .ok (.aload_n 0, 1) := by decide +kernel
theorem dX11_order_37 : decode cX11_order 37 = .ok (.iload_n 2, 1) := by decide +kernel
theorem dX11_order_38 : decode cX11_order 38 = .ok (.invokevirtual 174, 3) := by decide +kernel
theorem dX11_order_41 : decode cX11_order 41 = .ok (.ireturn, 1) := by decide +kernel
theorem dX11_pass_0 : decode cX11_pass 0 = .ok (.iload_n 1, 1) := by decide +kernel
theorem dX11_pass_1 : decode cX11_pass 1 = .ok (.iconst 1, 1) := by decide +kernel
theorem dX11_pass_2 : decode cX11_pass 2 = .ok (.if_icmp .lt 9, 3) := by decide +kernel
theorem dX11_pass_5 : decode cX11_pass 5 = .ok (.iload_n 1, 1) := by decide +kernel
theorem dX11_pass_6 : decode cX11_pass 6 = .ok (.bipush 99, 2) := by decide +kernel
theorem dX11_pass_8 : decode cX11_pass 8 = .ok (.if_icmp .le 9, 3) := by decide +kernel
theorem dX11_pass_11 : decode cX11_pass 11 = .ok (.aload_n 0, 1) := by decide +kernel
theorem dX11_pass_12 : decode cX11_pass 12 = .ok (.iconst 1, 1) := by decide +kernel
theorem dX11_pass_13 : decode cX11_pass 13 = .ok (.invokevirtual 126, 3) := by decide +kernel
theorem dX11_pass_16 : decode cX11_pass 16 = .ok (.ireturn, 1) := by decide +kernel
theorem dX11_pass_17 : decode cX11_pass 17 = .ok (.aload_n 0, 1) := by decide +kernel
theorem dX11_pass_18 : decode cX11_pass 18 = .ok (.getfield 18, 3) := by decide +kernel
theorem dX11_pass_21 : decode cX11_pass 21 = .ok (.getfield 205, 3) := by decide +kernel
theorem dX11_pass_24 : decode cX11_pass 24 = .ok (.getfield 209, 3) := by decide +kernel
theorem dX11_pass_27 : decode cX11_pass 27 = .ok (.iload_n 1, 1) := by decide +kernel
theorem dX11_pass_28 : decode cX11_pass 28 = .ok (.iadd, 1) := by decide +kernel
theorem dX11_pass_29 : decode cX11_pass 29 = .ok (.sipush 400, 3) := by decide +kernel
theorem dX11_pass_32 : decode cX11_pass 32 = .ok (.if_icmp .le 9, 3) := by decide +kernel
theorem dX11_pass_35 : decode cX11_pass 35 = .ok (.aload_n 0, 1) := by decide +kernel
theorem dX11_pass_36 : decode cX11_pass 36 = .ok (.iconst 4, 1) := by decide +kernel
theorem dX11_pass_37 : decode cX11_pass 37 = .ok (.invokevirtual 126, 3) := by decide +kernel
theorem dX11_pass_40 : decode cX11_pass 40 = .ok (.ireturn, 1) := by decide +kernel
theorem dX11_pass_41 : decode cX11_pass 41 = .ok (.aload_n 0, 1) := by decide +kernel
theorem dX11_pass_42 : decode cX11_pass 42 = .ok (.getfield 79, 3) := by decide +kernel
theorem dX11_pass_45 : decode cX11_pass 45 = .ok (.iload_n 1, 1) := by decide +kernel
theorem dX11_pass_46 : decode cX11_pass 46 = .ok (.invokevirtual 347, 3) := by decide +kernel
theorem dX11_pass_49 : decode cX11_pass 49 = .ok (.pop, 1) := by decide +kernel
theorem dX11_pass_50 : decode cX11_pass 50 = .ok (.aload_n 0, 1) := by decide +kernel
theorem dX11_pass_51 : decode cX11_pass 51 = .ok (.aload_n 0, 1) := by decide +kernel
theorem dX11_pass_52 : decode cX11_pass 52 = .ok (.getfield 18, 3) := by decide +kernel
theorem dX11_pass_55 : decode cX11_pass 55 = .ok (.getfield 205, 3) := by decide +kernel
theorem dX11_pass_58 : decode cX11_pass 58 = .ok (.getfield 209, 3) := by decide +kernel
theorem dX11_pass_61 : decode cX11_pass 61 = .ok (.invokevirtual 174, 3) := by decide +kernel
theorem dX11_pass_64 : decode cX11_pass 64 = .ok (.ireturn, 1) := by decide +kernel
