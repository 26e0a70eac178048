theorem qf_X4_42 : Cond.fieldLink RX4 42 "SlowWorlds$Reader" "taped" "I" ∈ gw := tbt (tb2 (List.mem_of_getElem? (i := 4) rfl)) rfl
theorem qf_X4_19 : Cond.fieldLink RX4 19 "SlowWorlds$Reader" "faultKind" "I" ∈ gw := tbt (tb2 (List.mem_of_getElem? (i := 16) rfl)) rfl
theorem qf_X4_23 : Cond.fieldLink RX4 23 "SlowWorlds$Reader" "faultPlace" "I" ∈ gw := tbt (tb2 (List.mem_of_getElem? (i := 18) rfl)) rfl
theorem qc_X4_next : Cond.code yX4_next cX4_next 1 none ∈ gw := tbt (tb3 (List.mem_of_getElem? (i := 96) rfl)) rfl
theorem qi_yX4_next : Cond.instanceMethod yX4_next ∈ gw := tbt (tb3 (List.mem_of_getElem? (i := 94) rfl)) rfl
theorem qs_X4_next : Cond.selects (yX4_next).cls yX4_next yX4_next ∈ gw := tbt (tb3 (List.mem_of_getElem? (i := 95) rfl)) rfl
theorem ci_X4_next : CIv yX4_next cX4_next 1 none 0 := ⟨qc_X4_next, qi_yX4_next, qs_X4_next, qz_X4, by decide +kernel⟩
theorem qm_X4_50 : Cond.methodLink RX4 50 yX4_next ∈ gw := tbt (tb3 (List.mem_of_getElem? (i := 93) rfl)) rfl
theorem qc_X4_fail : Cond.code yX4_fail cX4_fail 2 (some .boolean) ∈ gw := tbt (tb3 (List.mem_of_getElem? (i := 132) rfl)) rfl
theorem qi_yX4_fail : Cond.instanceMethod yX4_fail ∈ gw := tbt (tb3 (List.mem_of_getElem? (i := 130) rfl)) rfl
theorem qs_X4_fail : Cond.selects (yX4_fail).cls yX4_fail yX4_fail ∈ gw := tbt (tb3 (List.mem_of_getElem? (i := 131) rfl)) rfl
theorem ci_X4_fail : CIv yX4_fail cX4_fail 2 (some .boolean) 1 := ⟨qc_X4_fail, qi_yX4_fail, qs_X4_fail, qz_X4, by decide +kernel⟩
theorem qm_X4_80 : Cond.methodLink RX4 80 yX4_fail ∈ gw := tbt (tb3 (List.mem_of_getElem? (i := 154) rfl)) rfl
theorem qc_X4_isName : Cond.code yX4_isName cX4_isName 1 (some .boolean) ∈ gw := tbt (tb3 (List.mem_of_getElem? (i := 141) rfl)) rfl
theorem qi_yX4_isName : Cond.instanceMethod yX4_isName ∈ gw := tbt (tb3 (List.mem_of_getElem? (i := 139) rfl)) rfl
theorem qs_X4_isName : Cond.selects (yX4_isName).cls yX4_isName yX4_isName ∈ gw := tbt (tb3 (List.mem_of_getElem? (i := 140) rfl)) rfl
theorem ci_X4_isName : CIv yX4_isName cX4_isName 1 (some .boolean) 0 := ⟨qc_X4_isName, qi_yX4_isName, qs_X4_isName, qz_X4, by decide +kernel⟩
theorem qm_X4_84 : Cond.methodLink RX4 84 yX4_isName ∈ gw := tbt (tb3 (List.mem_of_getElem? (i := 171) rfl)) rfl
theorem qc_X5_named : Cond.code yX5_named cX5_named 4 (some .int) ∈ gw := tbt (tb3 (List.mem_of_getElem? (i := 145) rfl)) rfl
theorem qi_yX5_named : Cond.instanceMethod yX5_named ∈ gw := tbt (tb3 (List.mem_of_getElem? (i := 143) rfl)) rfl
theorem qs_X5_named : Cond.selects (yX5_named).cls yX5_named yX5_named ∈ gw := tbt (tb3 (List.mem_of_getElem? (i := 144) rfl)) rfl
theorem ci_X5_named : CIv yX5_named cX5_named 4 (some .int) 1 := ⟨qc_X5_named, qi_yX5_named, qs_X5_named, qz_X5, by decide +kernel⟩
theorem qm_X4_88 : Cond.methodLink RX4 88 yX5_named ∈ gw := tbt (tb3 (List.mem_of_getElem? (i := 172) rfl)) rfl
theorem dX4_fail_0 : decode cX4_fail 0 = .ok (.aload_n 0, 1) := by decide +kernel
theorem dX4_fail_1 : decode cX4_fail 1 = .ok (.aload_n 0, 1) := by decide +kernel
theorem dX4_fail_2 : decode cX4_fail 2 = .ok (.getfield 68, 3) := by decide +kernel
theorem dX4_fail_5 : decode cX4_fail 5 = .ok (.iconst 4, 1) := by decide +kernel
theorem dX4_fail_6 : decode cX4_fail 6 = .ok (.if_icmp .ne 7, 3) := by decide +kernel
theorem dX4_fail_9 : decode cX4_fail 9 = .ok (.iconst 1, 1) := by decide +kernel
theorem dX4_fail_10 : decode cX4_fail 10 = .ok (.goto 4, 3) := by decide +kernel
theorem dX4_fail_13 : decode cX4_fail 13 = .ok (.iload_n 1, 1) := by decide +kernel
theorem dX4_fail_14 : decode cX4_fail 14 = .ok (.putfield 19, 3) := by decide +kernel
theorem dX4_fail_17 : decode cX4_fail 17 = .ok (.aload_n 0, 1) := by decide +kernel
theorem dX4_fail_18 : decode cX4_fail 18 = .ok (.aload_n 0, 1) := by decide +kernel
theorem dX4_fail_19 : decode cX4_fail 19 = .ok (.getfield 53, 3) := by decide +kernel
theorem dX4_fail_22 : decode cX4_fail 22 = .ok (.putfield 23, 3) := by decide +kernel
theorem dX4_fail_25 : decode cX4_fail 25 = .ok (.iconst 0, 1) := by decide +kernel
theorem dX4_fail_26 : decode cX4_fail 26 = .ok (.ireturn, 1) := by decide +kernel
theorem dX4_isAtEnd_0 : decode cX4_isAtEnd 0 = .ok (.aload_n 0, 1) := by decide +kernel
theorem dX4_isAtEnd_1 : decode cX4_isAtEnd 1 = .ok (.getfield 68, 3) := by decide +kernel
theorem dX4_isAtEnd_4 : decode cX4_isAtEnd 4 = .ok (.ifCond .ne 7, 3) := by decide +kernel
theorem dX4_isAtEnd_7 : decode cX4_isAtEnd 7 = .ok (.iconst 1, 1) := by decide +kernel
theorem dX4_isAtEnd_8 : decode cX4_isAtEnd 8 = .ok (.goto 4, 3) := by decide +kernel
theorem dX4_isAtEnd_11 : decode cX4_isAtEnd 11 = .ok (.iconst 0, 1) := by decide +kernel
theorem dX4_isAtEnd_12 : decode cX4_isAtEnd 12 = .ok (.ireturn, 1) := by decide +kernel
theorem dX4_isName_0 : decode cX4_isName 0 = .ok (.aload_n 0, 1) := by decide +kernel
theorem dX4_isName_1 : decode cX4_isName 1 = .ok (.getfield 68, 3) := by decide +kernel
theorem dX4_isName_4 : decode cX4_isName 4 = .ok (.iconst 1, 1) := by decide +kernel
theorem dX4_isName_5 : decode cX4_isName 5 = .ok (.if_icmp .ne 26, 3) := by decide +kernel
theorem dX4_isName_8 : decode cX4_isName 8 = .ok (.aload_n 0, 1) := by decide +kernel
theorem dX4_isName_9 : decode cX4_isName 9 = .ok (.getfield 56, 3) := by decide +kernel
theorem dX4_isName_12 : decode cX4_isName 12 = .ok (.iconst (-1), 1) := by decide +kernel
theorem dX4_isName_13 : decode cX4_isName 13 = .ok (.if_icmp .ne 18, 3) := by decide +kernel
theorem dX4_isName_16 : decode cX4_isName 16 = .ok (.aload_n 0, 1) := by decide +kernel
theorem dX4_isName_17 : decode cX4_isName 17 = .ok (.getfield 61, 3) := by decide +kernel
theorem dX4_isName_20 : decode cX4_isName 20 = .ok (.ldc2_w 59, 3) := by decide +kernel
theorem dX4_isName_23 : decode cX4_isName 23 = .ok (.lcmp, 1) := by decide +kernel
theorem dX4_isName_24 : decode cX4_isName 24 = .ok (.ifCond .eq 7, 3) := by decide +kernel
theorem dX4_isName_27 : decode cX4_isName 27 = .ok (.iconst 1, 1) := by decide +kernel
theorem dX4_isName_28 : decode cX4_isName 28 = .ok (.goto 4, 3) := by decide +kernel
theorem dX4_isName_31 : decode cX4_isName 31 = .ok (.iconst 0, 1) := by decide +kernel
theorem dX4_isName_32 : decode cX4_isName 32 = .ok (.ireturn, 1) := by decide +kernel
theorem dX4_open_0 : decode cX4_open 0 = .ok (.aload_n 0, 1) := by decide +kernel
theorem dX4_open_1 : decode cX4_open 1 = .ok (.iload_n 1, 1) := by decide +kernel
theorem dX4_open_2 : decode cX4_open 2 = .ok (.putfield 45, 3) := by decide +kernel
theorem dX4_open_5 : decode cX4_open 5 = .ok (.aload_n 0, 1) := by decide +kernel
theorem dX4_open_6 : decode cX4_open 6 = .ok (.iconst 0, 1) := by decide +kernel
theorem dX4_open_7 : decode cX4_open 7 = .ok (.putfield 42, 3) := by decide +kernel
theorem dX4_open_10 : decode cX4_open 10 = .ok (.aload_n 0, 1) := by decide +kernel
theorem dX4_open_11 : decode cX4_open 11 = .ok (.iconst 0, 1) := by decide +kernel
theorem dX4_open_12 : decode cX4_open 12 = .ok (.putfield 47, 3) := by decide +kernel
theorem dX4_open_15 : decode cX4_open 15 = .ok (.aload_n 0, 1) := by decide +kernel
theorem dX4_open_16 : decode cX4_open 16 = .ok (.iconst 0, 1) := by decide +kernel
theorem dX4_open_17 : decode cX4_open 17 = .ok (.putfield 19, 3) := by decide +kernel
theorem dX4_open_20 : decode cX4_open 20 = .ok (.aload_n 0, 1) := by decide +kernel
theorem dX4_open_21 : decode cX4_open 21 = .ok (.iconst (-1), 1) := by decide +kernel
theorem dX4_open_22 : decode cX4_open 22 = .ok (.putfield 23, 3) := by decide +kernel
theorem dX4_open_25 : decode cX4_open 25 = .ok (.aload_n 0, 1) := by decide +kernel
theorem dX4_open_26 : decode cX4_open 26 = .ok (.invokevirtual 50, 3) := by decide +kernel
theorem dX4_open_29 : decode cX4_open 29 = .ok (.return_, 1) := by decide +kernel
theorem dX4_putOnTape_0 : decode cX4_putOnTape 0 = .ok (.bipush 24, 2) := by decide +kernel
theorem dX4_putOnTape_2 : decode cX4_putOnTape 2 = .ok (.istore_n 2, 1) := by decide +kernel
theorem dX4_putOnTape_3 : decode cX4_putOnTape 3 = .ok (.iload_n 2, 1) := by decide +kernel
theorem dX4_putOnTape_4 : decode cX4_putOnTape 4 = .ok (.ifCond .lt 32, 3) := by decide +kernel
theorem dX4_putOnTape_7 : decode cX4_putOnTape 7 = .ok (.aload_n 0, 1) := by decide +kernel
theorem dX4_putOnTape_8 : decode cX4_putOnTape 8 = .ok (.getfield 9, 3) := by decide +kernel
theorem dX4_putOnTape_11 : decode cX4_putOnTape 11 = .ok (.aload_n 0, 1) := by decide +kernel
theorem dX4_putOnTape_12 : decode cX4_putOnTape 12 = .ok (.getfield 42, 3) := by decide +kernel
theorem dX4_putOnTape_15 : decode cX4_putOnTape 15 = .ok (.iload_n 1, 1) := by decide +kernel
theorem dX4_putOnTape_16 : decode cX4_putOnTape 16 = .ok (.iload_n 2, 1) := by decide +kernel
theorem dX4_putOnTape_17 : decode cX4_putOnTape 17 = .ok (.ishr, 1) := by decide +kernel
theorem dX4_putOnTape_18 : decode cX4_putOnTape 18 = .ok (.i2b, 1) := by decide +kernel
theorem dX4_putOnTape_19 : decode cX4_putOnTape 19 = .ok (.bastore, 1) := by decide +kernel
theorem dX4_putOnTape_20 : decode cX4_putOnTape 20 = .ok (.aload_n 0, 1) := by decide +kernel
theorem dX4_putOnTape_21 : decode cX4_putOnTape 21 = .ok (.dup, 1) := by decide +kernel
theorem dX4_putOnTape_22 : decode cX4_putOnTape 22 = .ok (.getfield 42, 3) := by decide +kernel
theorem dX4_putOnTape_25 : decode cX4_putOnTape 25 = .ok (.iconst 1, 1) := by decide +kernel
theorem dX4_putOnTape_26 : decode cX4_putOnTape 26 = .ok (.iadd, 1) := by decide +kernel
theorem dX4_putOnTape_27 : decode cX4_putOnTape 27 = .ok (.putfield 42, 3) := by decide +kernel
theorem dX4_putOnTape_30 : decode cX4_putOnTape 30 = .ok (.iinc 2 (-8), 3) := by decide +kernel
theorem dX4_putOnTape_33 : decode cX4_putOnTape 33 = .ok (.goto (-30), 3) := by decide +kernel
theorem dX4_putOnTape_36 : decode cX4_putOnTape 36 = .ok (.return_, 1) := by decide +kernel
theorem dX4_takeCompares_0 : decode cX4_takeCompares 0 = .ok (.aload_n 0, 1) := by decide +kernel
theorem dX4_takeCompares_1 : decode cX4_takeCompares 1 = .ok (.getfield 65, 3) := by decide +kernel
theorem dX4_takeCompares_4 : decode cX4_takeCompares 4 = .ok (.istore_n 1, 1) := by decide +kernel
theorem dX4_takeCompares_5 : decode cX4_takeCompares 5 = .ok (.aload_n 0, 1) := by decide +kernel
theorem dX4_takeCompares_6 : decode cX4_takeCompares 6 = .ok (.getfield 68, 3) := by decide +kernel
theorem dX4_takeCompares_9 : decode cX4_takeCompares 9 = .ok (.iconst 3, 1) := by decide +kernel
theorem dX4_takeCompares_10 : decode cX4_takeCompares 10 = .ok (.if_icmp .ne 9, 3) := by decide +kernel
theorem dX4_takeCompares_13 : decode cX4_takeCompares 13 = .ok (.iload_n 1, 1) := by decide +kernel
theorem dX4_takeCompares_14 : decode cX4_takeCompares 14 = .ok (.bipush 59, 2) := by decide +kernel
theorem dX4_takeCompares_16 : decode cX4_takeCompares 16 = .ok (.if_icmp .ne 11, 3) := by decide +kernel
theorem dX4_takeCompares_19 : decode cX4_takeCompares 19 = .ok (.aload_n 0, 1) := by decide +kernel
theorem dX4_takeCompares_20 : decode cX4_takeCompares 20 = .ok (.iconst 2, 1) := by decide +kernel
theorem dX4_takeCompares_21 : decode cX4_takeCompares 21 = .ok (.invokevirtual 80, 3) := by decide +kernel
theorem dX4_takeCompares_24 : decode cX4_takeCompares 24 = .ok (.pop, 1) := by decide +kernel
theorem dX4_takeCompares_25 : decode cX4_takeCompares 25 = .ok (.iconst (-1), 1) := by decide +kernel
theorem dX4_takeCompares_26 : decode cX4_takeCompares 26 = .ok (.ireturn, 1) := by decide +kernel
theorem dX4_takeCompares_27 : decode cX4_takeCompares 27 = .ok (.aload_n 0, 1) := by decide +kernel
theorem dX4_takeCompares_28 : decode cX4_takeCompares 28 = .ok (.invokevirtual 50, 3) := by decide +kernel
theorem dX4_takeCompares_31 : decode cX4_takeCompares 31 = .ok (.iload_n 1, 1) := by decide +kernel
theorem dX4_takeCompares_32 : decode cX4_takeCompares 32 = .ok (.ireturn, 1) := by decide +kernel
theorem dX4_takeNumber_0 : decode cX4_takeNumber 0 = .ok (.aload_n 0, 1) := by decide +kernel
theorem dX4_takeNumber_1 : decode cX4_takeNumber 1 = .ok (.getfield 65, 3) := by decide +kernel
theorem dX4_takeNumber_4 : decode cX4_takeNumber 4 = .ok (.istore_n 3, 1) := by decide +kernel
theorem dX4_takeNumber_5 : decode cX4_takeNumber 5 = .ok (.aload_n 0, 1) := by decide +kernel
theorem dX4_takeNumber_6 : decode cX4_takeNumber 6 = .ok (.getfield 68, 3) := by decide +kernel
theorem dX4_takeNumber_9 : decode cX4_takeNumber 9 = .ok (.iconst 2, 1) := by decide +kernel
theorem dX4_takeNumber_10 : decode cX4_takeNumber 10 = .ok (.if_icmp .ne 13, 3) := by decide +kernel
theorem dX4_takeNumber_13 : decode cX4_takeNumber 13 = .ok (.iload_n 3, 1) := by decide +kernel
theorem dX4_takeNumber_14 : decode cX4_takeNumber 14 = .ok (.iload_n 1, 1) := by decide +kernel
theorem dX4_takeNumber_15 : decode cX4_takeNumber 15 = .ok (.if_icmp .lt 8, 3) := by decide +kernel
theorem dX4_takeNumber_18 : decode cX4_takeNumber 18 = .ok (.iload_n 3, 1) := by decide +kernel
theorem dX4_takeNumber_19 : decode cX4_takeNumber 19 = .ok (.iload_n 2, 1) := by decide +kernel
theorem dX4_takeNumber_20 : decode cX4_takeNumber 20 = .ok (.if_icmp .le 23, 3) := by decide +kernel
theorem dX4_takeNumber_23 : decode cX4_takeNumber 23 = .ok (.aload_n 0, 1) := by decide +kernel
theorem dX4_takeNumber_24 : decode cX4_takeNumber 24 = .ok (.aload_n 0, 1) := by decide +kernel
theorem dX4_takeNumber_25 : decode cX4_takeNumber 25 = .ok (.getfield 68, 3) := by decide +kernel
theorem dX4_takeNumber_28 : decode cX4_takeNumber 28 = .ok (.iconst 2, 1) := by decide +kernel
theorem dX4_takeNumber_29 : decode cX4_takeNumber 29 = .ok (.if_icmp .ne 7, 3) := by decide +kernel
theorem dX4_takeNumber_32 : decode cX4_takeNumber 32 = .ok (.iconst 4, 1) := by decide +kernel
theorem dX4_takeNumber_33 : decode cX4_takeNumber 33 = .ok (.goto 4, 3) := by decide +kernel
theorem dX4_takeNumber_36 : decode cX4_takeNumber 36 = .ok (.iconst 2, 1) := by decide +kernel
theorem dX4_takeNumber_37 : decode cX4_takeNumber 37 = .ok (.invokevirtual 80, 3) := by decide +kernel
theorem dX4_takeNumber_40 : decode cX4_takeNumber 40 = .ok (.pop, 1) := by decide +kernel
theorem dX4_takeNumber_41 : decode cX4_takeNumber 41 = .ok (.iconst (-1), 1) := by decide +kernel
theorem dX4_takeNumber_42 : decode cX4_takeNumber 42 = .ok (.ireturn, 1) := by decide +kernel
theorem dX4_takeNumber_43 : decode cX4_takeNumber 43 = .ok (.aload_n 0, 1) := by decide +kernel
theorem dX4_takeNumber_44 : decode cX4_takeNumber 44 = .ok (.invokevirtual 50, 3) := by decide +kernel
theorem dX4_takeNumber_47 : decode cX4_takeNumber 47 = .ok (.iload_n 3, 1) := by decide +kernel
theorem dX4_takeNumber_48 : decode cX4_takeNumber 48 = .ok (.ireturn, 1) := by decide +kernel
theorem dX4_takeRock_0 : decode cX4_takeRock 0 = .ok (.aload_n 0, 1) := by decide +kernel
theorem dX4_takeRock_1 : decode cX4_takeRock 1 = .ok (.invokevirtual 84, 3) := by decide +kernel
theorem dX4_takeRock_4 : decode cX4_takeRock 4 = .ok (.ifCond .eq 14, 3) := by decide +kernel
theorem dX4_takeRock_7 : decode cX4_takeRock 7 = .ok (.aload_n 1, 1) := by decide +kernel
theorem dX4_takeRock_8 : decode cX4_takeRock 8 = .ok (.aload_n 0, 1) := by decide +kernel
theorem dX4_takeRock_9 : decode cX4_takeRock 9 = .ok (.getfield 61, 3) := by decide +kernel
theorem dX4_takeRock_12 : decode cX4_takeRock 12 = .ok (.invokevirtual 88, 3) := by decide +kernel
theorem dX4_takeRock_15 : decode cX4_takeRock 15 = .ok (.goto 4, 3) := by decide +kernel
theorem dX4_takeRock_18 : decode cX4_takeRock 18 = .ok (.iconst (-1), 1) := by decide +kernel
theorem dX4_takeRock_19 : decode cX4_takeRock 19 = .ok (.istore_n 3, 1) := by decide +kernel
theorem dX4_takeRock_20 : decode cX4_takeRock 20 = .ok (.iload_n 3, 1) := by decide +kernel
theorem dX4_takeRock_21 : decode cX4_takeRock 21 = .ok (.iconst (-1), 1) := by decide +kernel
theorem dX4_takeRock_22 : decode cX4_takeRock 22 = .ok (.if_icmp .eq 8, 3) := by decide +kernel
theorem dX4_takeRock_25 : decode cX4_takeRock 25 = .ok (.iload_n 3, 1) := by decide +kernel
theorem dX4_takeRock_26 : decode cX4_takeRock 26 = .ok (.iload_n 2, 1) := by decide +kernel
theorem dX4_takeRock_27 : decode cX4_takeRock 27 = .ok (.if_icmp .ne 35, 3) := by decide +kernel
theorem dX4_takeRock_30 : decode cX4_takeRock 30 = .ok (.iload_n 3, 1) := by decide +kernel
theorem dX4_takeRock_31 : decode cX4_takeRock 31 = .ok (.iconst (-1), 1) := by decide +kernel
theorem dX4_takeRock_32 : decode cX4_takeRock 32 = .ok (.if_icmp .ne 7, 3) := by decide +kernel
theorem dX4_takeRock_35 : decode cX4_takeRock 35 = .ok (.iconst 3, 1) := by decide +kernel
theorem dX4_takeRock_36 : decode cX4_takeRock 36 = .ok (.goto 4, 3) := by decide +kernel
theorem dX4_takeRock_39 : decode cX4_takeRock 39 = .ok (.iconst 5, 1) := by decide +kernel
theorem dX4_takeRock_40 : decode cX4_takeRock 40 = .ok (.istore 4, 2) := by decide +kernel
theorem dX4_takeRock_42 : decode cX4_takeRock 42 = .ok (.aload_n 0, 1) := by decide +kernel
theorem dX4_takeRock_43 : decode cX4_takeRock 43 = .ok (.aload_n 0, 1) := by decide +kernel
theorem dX4_takeRock_44 : decode cX4_takeRock 44 = .ok (.invokevirtual 84, 3) := by decide +kernel
theorem dX4_takeRock_47 : decode cX4_takeRock 47 = .ok (.ifCond .eq 8, 3) := by decide +kernel
theorem dX4_takeRock_50 : decode cX4_takeRock 50 = .ok (.iload 4, 2) := by decide +kernel
theorem dX4_takeRock_52 : decode cX4_takeRock 52 = .ok (.goto 4, 3) := by decide +kernel
theorem dX4_takeRock_55 : decode cX4_takeRock 55 = .ok (.iconst 2, 1) := by decide +kernel
theorem dX4_takeRock_56 : decode cX4_takeRock 56 = .ok (.invokevirtual 80, 3) := by decide +kernel
theorem dX4_takeRock_59 : decode cX4_takeRock 59 = .ok (.pop, 1) := by decide +kernel
theorem dX4_takeRock_60 : decode cX4_takeRock 60 = .ok (.iconst (-1), 1) := by decide +kernel
theorem dX4_takeRock_61 : decode cX4_takeRock 61 = .ok (.ireturn, 1) := by decide +kernel
theorem dX4_takeRock_62 : decode cX4_takeRock 62 = .ok (.aload_n 0, 1) := by decide +kernel
theorem dX4_takeRock_63 : decode cX4_takeRock 63 = .ok (.invokevirtual 50, 3) := by decide +kernel
theorem dX4_takeRock_66 : decode cX4_takeRock 66 = .ok (.iload_n 3, 1) := by decide +kernel
theorem dX4_takeRock_67 : decode cX4_takeRock 67 = .ok (.ireturn, 1) := by decide +kernel
theorem dX4_takeSign_0 : decode cX4_takeSign 0 = .ok (.aload_n 0, 1) := by decide +kernel
theorem dX4_takeSign_1 : decode cX4_takeSign 1 = .ok (.getfield 68, 3) := by decide +kernel
theorem dX4_takeSign_4 : decode cX4_takeSign 4 = .ok (.iconst 3, 1) := by decide +kernel
theorem dX4_takeSign_5 : decode cX4_takeSign 5 = .ok (.if_icmp .ne 11, 3) := by decide +kernel
theorem dX4_takeSign_8 : decode cX4_takeSign 8 = .ok (.aload_n 0, 1) := by decide +kernel
theorem dX4_takeSign_9 : decode cX4_takeSign 9 = .ok (.getfield 65, 3) := by decide +kernel
theorem dX4_takeSign_12 : decode cX4_takeSign 12 = .ok (.iload_n 1, 1) := by decide +kernel
theorem dX4_takeSign_13 : decode cX4_takeSign 13 = .ok (.if_icmp .eq 9, 3) := by decide +kernel
theorem dX4_takeSign_16 : decode cX4_takeSign 16 = .ok (.aload_n 0, 1) := by decide +kernel
theorem dX4_takeSign_17 : decode cX4_takeSign 17 = .ok (.iconst 2, 1) := by decide +kernel
theorem dX4_takeSign_18 : decode cX4_takeSign 18 = .ok (.invokevirtual 80, 3) := by decide +kernel
theorem dX4_takeSign_21 : decode cX4_takeSign 21 = .ok (.ireturn, 1) := by decide +kernel
theorem dX4_takeSign_22 : decode cX4_takeSign 22 = .ok (.aload_n 0, 1) := by decide +kernel
theorem dX4_takeSign_23 : decode cX4_takeSign 23 = .ok (.invokevirtual 50, 3) := by decide +kernel
theorem dX4_takeSign_26 : decode cX4_takeSign 26 = .ok (.iconst 1, 1) := by decide +kernel
theorem dX4_takeSign_27 : decode cX4_takeSign 27 = .ok (.ireturn, 1) := by decide +kernel
theorem dX4_takeWord_0 : decode cX4_takeWord 0 = .ok (.aload_n 0, 1) := by decide +kernel
theorem dX4_takeWord_1 : decode cX4_takeWord 1 = .ok (.getfield 56, 3) := by decide +kernel
theorem dX4_takeWord_4 : decode cX4_takeWord 4 = .ok (.iload_n 1, 1) := by decide +kernel
theorem dX4_takeWord_5 : decode cX4_takeWord 5 = .ok (.if_icmp .eq 9, 3) := by decide +kernel
theorem dX4_takeWord_8 : decode cX4_takeWord 8 = .ok (.aload_n 0, 1) := by decide +kernel
theorem dX4_takeWord_9 : decode cX4_takeWord 9 = .ok (.iconst 2, 1) := by decide +kernel
theorem dX4_takeWord_10 : decode cX4_takeWord 10 = .ok (.invokevirtual 80, 3) := by decide +kernel
theorem dX4_takeWord_13 : decode cX4_takeWord 13 = .ok (.ireturn, 1) := by decide +kernel
theorem dX4_takeWord_14 : decode cX4_takeWord 14 = .ok (.aload_n 0, 1) := by decide +kernel
theorem dX4_takeWord_15 : decode cX4_takeWord 15 = .ok (.invokevirtual 50, 3) := by decide +kernel
theorem dX4_takeWord_18 : decode cX4_takeWord 18 = .ok (.iconst 1, 1) := by decide +kernel
theorem dX4_takeWord_19 : decode cX4_takeWord 19 = .ok (.ireturn, 1) := by decide +kernel
