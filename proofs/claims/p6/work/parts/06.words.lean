theorem qc_X5_heading : Cond.code yX5_heading cX5_heading 5 (some .int) ∈ gw := tbt (tb4 (List.mem_of_getElem? (i := 48) rfl)) rfl
theorem qi_yX5_heading : Cond.instanceMethod yX5_heading ∈ gw := tbt (tb4 (List.mem_of_getElem? (i := 46) rfl)) rfl
theorem qs_X5_heading : Cond.selects (yX5_heading).cls yX5_heading yX5_heading ∈ gw := tbt (tb4 (List.mem_of_getElem? (i := 47) rfl)) rfl
theorem qz_X5 : Cond.initialized RX5 ∈ gw := tbt (tb1 (List.mem_of_getElem? (i := 3) rfl)) rfl
theorem ci_X5_heading : CIv yX5_heading cX5_heading 5 (some .int) 2 := ⟨qc_X5_heading, qi_yX5_heading, qs_X5_heading, qz_X5, by decide +kernel⟩
theorem qm_X5_47 : Cond.methodLink RX5 47 yX5_heading ∈ gw := tbt (tb4 (List.mem_of_getElem? (i := 57) rfl)) rfl
theorem qc_X5_apart : Cond.code yX5_apart cX5_apart 12 (some .int) ∈ gw := tbt (tb4 (List.mem_of_getElem? (i := 61) rfl)) rfl
theorem qi_yX5_apart : Cond.instanceMethod yX5_apart ∈ gw := tbt (tb4 (List.mem_of_getElem? (i := 59) rfl)) rfl
theorem qs_X5_apart : Cond.selects (yX5_apart).cls yX5_apart yX5_apart ∈ gw := tbt (tb4 (List.mem_of_getElem? (i := 60) rfl)) rfl
theorem ci_X5_apart : CIv yX5_apart cX5_apart 12 (some .int) 4 := ⟨qc_X5_apart, qi_yX5_apart, qs_X5_apart, qz_X5, by decide +kernel⟩
theorem qm_X5_51 : Cond.methodLink RX5 51 yX5_apart ∈ gw := tbt (tb4 (List.mem_of_getElem? (i := 58) rfl)) rfl
theorem qc_X5_landing : Cond.code yX5_landing cX5_landing 7 (some .int) ∈ gw := tbt (tb4 (List.mem_of_getElem? (i := 103) rfl)) rfl
theorem qi_yX5_landing : Cond.instanceMethod yX5_landing ∈ gw := tbt (tb4 (List.mem_of_getElem? (i := 101) rfl)) rfl
theorem qs_X5_landing : Cond.selects (yX5_landing).cls yX5_landing yX5_landing ∈ gw := tbt (tb4 (List.mem_of_getElem? (i := 102) rfl)) rfl
theorem ci_X5_landing : CIv yX5_landing cX5_landing 7 (some .int) 3 := ⟨qc_X5_landing, qi_yX5_landing, qs_X5_landing, qz_X5, by decide +kernel⟩
theorem qm_X5_55 : Cond.methodLink RX5 55 yX5_landing ∈ gw := tbt (tb5 (List.mem_of_getElem? (i := 135) rfl)) rfl
theorem qc_X5_priceIn : Cond.code yX5_priceIn cX5_priceIn 3 (some .int) ∈ gw := tbt (tb5 (List.mem_of_getElem? (i := 122) rfl)) rfl
theorem qi_yX5_priceIn : Cond.instanceMethod yX5_priceIn ∈ gw := tbt (tb5 (List.mem_of_getElem? (i := 120) rfl)) rfl
theorem qs_X5_priceIn : Cond.selects (yX5_priceIn).cls yX5_priceIn yX5_priceIn ∈ gw := tbt (tb5 (List.mem_of_getElem? (i := 121) rfl)) rfl
theorem ci_X5_priceIn : CIv yX5_priceIn cX5_priceIn 3 (some .int) 2 := ⟨qc_X5_priceIn, qi_yX5_priceIn, qs_X5_priceIn, qz_X5, by decide +kernel⟩
theorem qm_X5_59 : Cond.methodLink RX5 59 yX5_priceIn ∈ gw := tbt (tb5 (List.mem_of_getElem? (i := 136) rfl)) rfl
theorem qf_X5_26 : Cond.fieldLink RX5 26 "SlowWorlds$Sky" "ices" "I" ∈ gw := tbt (tb1 (List.mem_of_getElem? (i := 57) rfl)) rfl
theorem qf_X5_19 : Cond.fieldLink RX5 19 "SlowWorlds$Sky" "iceFacts" "[I" ∈ gw := tbt (tb1 (List.mem_of_getElem? (i := 48) rfl)) rfl
theorem qf_X5_22 : Cond.fieldLink RX5 22 "SlowWorlds$Sky" "rocks" "I" ∈ gw := tbt (tb1 (List.mem_of_getElem? (i := 51) rfl)) rfl
theorem qf_X5_9 : Cond.fieldLink RX5 9 "SlowWorlds$Sky" "names" "[J" ∈ gw := tbt (tb1 (List.mem_of_getElem? (i := 44) rfl)) rfl
theorem dX5_fact_0 : decode cX5_fact 0 = .ok (.aload_n 0, 1) := by decide +kernel
theorem dX5_fact_1 : decode cX5_fact 1 = .ok (.getfield 15, 3) := by decide +kernel
theorem dX5_fact_4 : decode cX5_fact 4 = .ok (.iload_n 1, 1) := by decide +kernel
theorem dX5_fact_5 : decode cX5_fact 5 = .ok (.bipush 6, 2) := by decide +kernel
theorem dX5_fact_7 : decode cX5_fact 7 = .ok (.imul, 1) := by decide +kernel
theorem dX5_fact_8 : decode cX5_fact 8 = .ok (.iload_n 2, 1) := by decide +kernel
theorem dX5_fact_9 : decode cX5_fact 9 = .ok (.iadd, 1) := by decide +kernel
theorem dX5_fact_10 : decode cX5_fact 10 = .ok (.iaload, 1) := by decide +kernel
theorem dX5_fact_11 : decode cX5_fact 11 = .ok (.ireturn, 1) := by decide +kernel
theorem dX5_gainOf_0 : decode cX5_gainOf 0 = .ok (.aload_n 0, 1) := by decide +kernel
theorem dX5_gainOf_1 : decode cX5_gainOf 1 = .ok (.iload_n 3, 1) := by decide +kernel
theorem dX5_gainOf_2 : decode cX5_gainOf 2 = .ok (.aload_n 0, 1) := by decide +kernel
theorem dX5_gainOf_3 : decode cX5_gainOf 3 = .ok (.iload_n 1, 1) := by decide +kernel
theorem dX5_gainOf_4 : decode cX5_gainOf 4 = .ok (.iload_n 2, 1) := by decide +kernel
theorem dX5_gainOf_5 : decode cX5_gainOf 5 = .ok (.iload_n 3, 1) := by decide +kernel
theorem dX5_gainOf_6 : decode cX5_gainOf 6 = .ok (.invokevirtual 55, 3) := by decide +kernel
theorem dX5_gainOf_9 : decode cX5_gainOf 9 = .ok (.invokevirtual 59, 3) := by decide +kernel
theorem dX5_gainOf_12 : decode cX5_gainOf 12 = .ok (.aload_n 0, 1) := by decide +kernel
theorem dX5_gainOf_13 : decode cX5_gainOf 13 = .ok (.iload_n 1, 1) := by decide +kernel
theorem dX5_gainOf_14 : decode cX5_gainOf 14 = .ok (.iload_n 2, 1) := by decide +kernel
theorem dX5_gainOf_15 : decode cX5_gainOf 15 = .ok (.invokevirtual 59, 3) := by decide +kernel
theorem dX5_gainOf_18 : decode cX5_gainOf 18 = .ok (.isub, 1) := by decide +kernel
theorem dX5_gainOf_19 : decode cX5_gainOf 19 = .ok (.ireturn, 1) := by decide +kernel
theorem dX5_hasIce_0 : decode cX5_hasIce 0 = .ok (.iconst 0, 1) := by decide +kernel
theorem dX5_hasIce_1 : decode cX5_hasIce 1 = .ok (.istore 4, 2) := by decide +kernel
theorem dX5_hasIce_3 : decode cX5_hasIce 3 = .ok (.iload 4, 2) := by decide +kernel
theorem dX5_hasIce_5 : decode cX5_hasIce 5 = .ok (.aload_n 0, 1) := by decide +kernel
theorem dX5_hasIce_6 : decode cX5_hasIce 6 = .ok (.getfield 26, 3) := by decide +kernel
theorem dX5_hasIce_9 : decode cX5_hasIce 9 = .ok (.if_icmp .ge 101, 3) := by decide +kernel
theorem dX5_hasIce_12 : decode cX5_hasIce 12 = .ok (.iload 4, 2) := by decide +kernel
theorem dX5_hasIce_14 : decode cX5_hasIce 14 = .ok (.iconst 4, 1) := by decide +kernel
theorem dX5_hasIce_15 : decode cX5_hasIce 15 = .ok (.imul, 1) := by decide +kernel
theorem dX5_hasIce_16 : decode cX5_hasIce 16 = .ok (.istore 5, 2) := by decide +kernel
theorem dX5_hasIce_18 : decode cX5_hasIce 18 = .ok (.aload_n 0, 1) := by decide +kernel
theorem dX5_hasIce_19 : decode cX5_hasIce 19 = .ok (.getfield 19, 3) := by decide +kernel
theorem dX5_hasIce_22 : decode cX5_hasIce 22 = .ok (.iload 5, 2) := by decide +kernel
theorem dX5_hasIce_24 : decode cX5_hasIce 24 = .ok (.iconst 0, 1) := by decide +kernel
theorem dX5_hasIce_25 : decode cX5_hasIce 25 = .ok (.iadd, 1) := by decide +kernel
theorem dX5_hasIce_26 : decode cX5_hasIce 26 = .ok (.iaload, 1) := by decide +kernel
theorem dX5_hasIce_27 : decode cX5_hasIce 27 = .ok (.istore 6, 2) := by decide +kernel
theorem dX5_hasIce_29 : decode cX5_hasIce 29 = .ok (.aload_n 0, 1) := by decide +kernel
theorem dX5_hasIce_30 : decode cX5_hasIce 30 = .ok (.getfield 19, 3) := by decide +kernel
theorem dX5_hasIce_33 : decode cX5_hasIce 33 = .ok (.iload 5, 2) := by decide +kernel
theorem dX5_hasIce_35 : decode cX5_hasIce 35 = .ok (.iconst 1, 1) := by decide +kernel
theorem dX5_hasIce_36 : decode cX5_hasIce 36 = .ok (.iadd, 1) := by decide +kernel
theorem dX5_hasIce_37 : decode cX5_hasIce 37 = .ok (.iaload, 1) := by decide +kernel
theorem dX5_hasIce_38 : decode cX5_hasIce 38 = .ok (.istore 7, 2) := by decide +kernel
theorem dX5_hasIce_40 : decode cX5_hasIce 40 = .ok (.iload 6, 2) := by decide +kernel
theorem dX5_hasIce_42 : decode cX5_hasIce 42 = .ok (.iload_n 1, 1) := by decide +kernel
theorem dX5_hasIce_43 : decode cX5_hasIce 43 = .ok (.if_icmp .ne 9, 3) := by decide +kernel
theorem dX5_hasIce_46 : decode cX5_hasIce 46 = .ok (.iload 7, 2) := by decide +kernel
theorem dX5_hasIce_48 : decode cX5_hasIce 48 = .ok (.iload_n 2, 1) := by decide +kernel
theorem dX5_hasIce_49 : decode cX5_hasIce 49 = .ok (.if_icmp .eq 15, 3) := by decide +kernel
theorem dX5_hasIce_52 : decode cX5_hasIce 52 = .ok (.iload 6, 2) := by decide +kernel
theorem dX5_hasIce_54 : decode cX5_hasIce 54 = .ok (.iload_n 2, 1) := by decide +kernel
theorem dX5_hasIce_55 : decode cX5_hasIce 55 = .ok (.if_icmp .ne 13, 3) := by decide +kernel
theorem dX5_hasIce_58 : decode cX5_hasIce 58 = .ok (.iload 7, 2) := by decide +kernel
theorem dX5_hasIce_60 : decode cX5_hasIce 60 = .ok (.iload_n 1, 1) := by decide +kernel
theorem dX5_hasIce_61 : decode cX5_hasIce 61 = .ok (.if_icmp .ne 7, 3) := by decide +kernel
theorem dX5_hasIce_64 : decode cX5_hasIce 64 = .ok (.iconst 1, 1) := by decide +kernel
theorem dX5_hasIce_65 : decode cX5_hasIce 65 = .ok (.goto 4, 3) := by decide +kernel
theorem dX5_hasIce_68 : decode cX5_hasIce 68 = .ok (.iconst 0, 1) := by decide +kernel
theorem dX5_hasIce_69 : decode cX5_hasIce 69 = .ok (.istore 8, 2) := by decide +kernel
theorem dX5_hasIce_71 : decode cX5_hasIce 71 = .ok (.iload 8, 2) := by decide +kernel
theorem dX5_hasIce_73 : decode cX5_hasIce 73 = .ok (.ifCond .eq 31, 3) := by decide +kernel
theorem dX5_hasIce_76 : decode cX5_hasIce 76 = .ok (.iload_n 3, 1) := by decide +kernel
theorem dX5_hasIce_77 : decode cX5_hasIce 77 = .ok (.aload_n 0, 1) := by decide +kernel
theorem dX5_hasIce_78 : decode cX5_hasIce 78 = .ok (.getfield 19, 3) := by decide +kernel
theorem dX5_hasIce_81 : decode cX5_hasIce 81 = .ok (.iload 5, 2) := by decide +kernel
theorem dX5_hasIce_83 : decode cX5_hasIce 83 = .ok (.iconst 2, 1) := by decide +kernel
theorem dX5_hasIce_84 : decode cX5_hasIce 84 = .ok (.iadd, 1) := by decide +kernel
theorem dX5_hasIce_85 : decode cX5_hasIce 85 = .ok (.iaload, 1) := by decide +kernel
theorem dX5_hasIce_86 : decode cX5_hasIce 86 = .ok (.if_icmp .lt 18, 3) := by decide +kernel
theorem dX5_hasIce_89 : decode cX5_hasIce 89 = .ok (.iload_n 3, 1) := by decide +kernel
theorem dX5_hasIce_90 : decode cX5_hasIce 90 = .ok (.aload_n 0, 1) := by decide +kernel
theorem dX5_hasIce_91 : decode cX5_hasIce 91 = .ok (.getfield 19, 3) := by decide +kernel
theorem dX5_hasIce_94 : decode cX5_hasIce 94 = .ok (.iload 5, 2) := by decide +kernel
theorem dX5_hasIce_96 : decode cX5_hasIce 96 = .ok (.iconst 3, 1) := by decide +kernel
theorem dX5_hasIce_97 : decode cX5_hasIce 97 = .ok (.iadd, 1) := by decide +kernel
theorem dX5_hasIce_98 : decode cX5_hasIce 98 = .ok (.iaload, 1) := by decide +kernel
theorem dX5_hasIce_99 : decode cX5_hasIce 99 = .ok (.if_icmp .gt 5, 3) := by decide +kernel
theorem dX5_hasIce_102 : decode cX5_hasIce 102 = .ok (.iconst 1, 1) := by decide +kernel
theorem dX5_hasIce_103 : decode cX5_hasIce 103 = .ok (.ireturn, 1) := by decide +kernel
theorem dX5_hasIce_104 : decode cX5_hasIce 104 = .ok (.iinc 4 1, 3) := by decide +kernel
theorem dX5_hasIce_107 : decode cX5_hasIce 107 = .ok (.goto (-104), 3) := by decide +kernel
theorem dX5_hasIce_110 : decode cX5_hasIce 110 = .ok (.iconst 0, 1) := by decide +kernel
theorem dX5_hasIce_111 : decode cX5_hasIce 111 = .ok (.ireturn, 1) := by decide +kernel
theorem dX5_landing_0 : decode cX5_landing 0 = .ok (.iload_n 1, 1) := by decide +kernel
theorem dX5_landing_1 : decode cX5_landing 1 = .ok (.iload_n 3, 1) := by decide +kernel
theorem dX5_landing_2 : decode cX5_landing 2 = .ok (.if_icmp .ne 5, 3) := by decide +kernel
theorem dX5_landing_5 : decode cX5_landing 5 = .ok (.iload_n 2, 1) := by decide +kernel
theorem dX5_landing_6 : decode cX5_landing 6 = .ok (.ireturn, 1) := by decide +kernel
theorem dX5_landing_7 : decode cX5_landing 7 = .ok (.aload_n 0, 1) := by decide +kernel
theorem dX5_landing_8 : decode cX5_landing 8 = .ok (.iload_n 1, 1) := by decide +kernel
theorem dX5_landing_9 : decode cX5_landing 9 = .ok (.iload_n 2, 1) := by decide +kernel
theorem dX5_landing_10 : decode cX5_landing 10 = .ok (.invokevirtual 47, 3) := by decide +kernel
theorem dX5_landing_13 : decode cX5_landing 13 = .ok (.istore 4, 2) := by decide +kernel
theorem dX5_landing_15 : decode cX5_landing 15 = .ok (.iload_n 2, 1) := by decide +kernel
theorem dX5_landing_16 : decode cX5_landing 16 = .ok (.sipush 200, 3) := by decide +kernel
theorem dX5_landing_19 : decode cX5_landing 19 = .ok (.iadd, 1) := by decide +kernel
theorem dX5_landing_20 : decode cX5_landing 20 = .ok (.istore 5, 2) := by decide +kernel
theorem dX5_landing_22 : decode cX5_landing 22 = .ok (.iload_n 2, 1) := by decide +kernel
theorem dX5_landing_23 : decode cX5_landing 23 = .ok (.bipush 10, 2) := by decide +kernel
theorem dX5_landing_25 : decode cX5_landing 25 = .ok (.iadd, 1) := by decide +kernel
theorem dX5_landing_26 : decode cX5_landing 26 = .ok (.istore 6, 2) := by decide +kernel
theorem dX5_landing_28 : decode cX5_landing 28 = .ok (.iload 6, 2) := by decide +kernel
theorem dX5_landing_30 : decode cX5_landing 30 = .ok (.iload 5, 2) := by decide +kernel
theorem dX5_landing_32 : decode cX5_landing 32 = .ok (.if_icmp .ge 37, 3) := by decide +kernel
theorem dX5_landing_35 : decode cX5_landing 35 = .ok (.bipush 10, 2) := by decide +kernel
theorem dX5_landing_37 : decode cX5_landing 37 = .ok (.aload_n 0, 1) := by decide +kernel
theorem dX5_landing_38 : decode cX5_landing 38 = .ok (.iload_n 1, 1) := by decide +kernel
theorem dX5_landing_39 : decode cX5_landing 39 = .ok (.iload 4, 2) := by decide +kernel
theorem dX5_landing_41 : decode cX5_landing 41 = .ok (.iload_n 3, 1) := by decide +kernel
theorem dX5_landing_42 : decode cX5_landing 42 = .ok (.aload_n 0, 1) := by decide +kernel
theorem dX5_landing_43 : decode cX5_landing 43 = .ok (.iload_n 3, 1) := by decide +kernel
theorem dX5_landing_44 : decode cX5_landing 44 = .ok (.iload 6, 2) := by decide +kernel
theorem dX5_landing_46 : decode cX5_landing 46 = .ok (.invokevirtual 47, 3) := by decide +kernel
theorem dX5_landing_49 : decode cX5_landing 49 = .ok (.invokevirtual 51, 3) := by decide +kernel
theorem dX5_landing_52 : decode cX5_landing 52 = .ok (.imul, 1) := by decide +kernel
theorem dX5_landing_53 : decode cX5_landing 53 = .ok (.iload 6, 2) := by decide +kernel
theorem dX5_landing_55 : decode cX5_landing 55 = .ok (.iload_n 2, 1) := by decide +kernel
theorem dX5_landing_56 : decode cX5_landing 56 = .ok (.isub, 1) := by decide +kernel
theorem dX5_landing_57 : decode cX5_landing 57 = .ok (.if_icmp .gt 6, 3) := by decide +kernel
theorem dX5_landing_60 : decode cX5_landing 60 = .ok (.iload 6, 2) := by decide +kernel
theorem dX5_landing_62 : decode cX5_landing 62 = .ok (.ireturn, 1) := by decide +kernel
theorem dX5_landing_63 : decode cX5_landing 63 = .ok (.iinc 6 1, 3) := by decide +kernel
theorem dX5_landing_66 : decode cX5_landing 66 = .ok (.goto (-38), 3) := by decide +kernel
theorem dX5_landing_69 : decode cX5_landing 69 = .ok (.iload 5, 2) := by decide +kernel
theorem dX5_landing_71 : decode cX5_landing 71 = .ok (.ireturn, 1) := by decide +kernel
theorem dX5_lightBetween_0 : decode cX5_lightBetween 0 = .ok (.aload_n 0, 1) := by decide +kernel
theorem dX5_lightBetween_1 : decode cX5_lightBetween 1 = .ok (.iload_n 1, 1) := by decide +kernel
theorem dX5_lightBetween_2 : decode cX5_lightBetween 2 = .ok (.aload_n 0, 1) := by decide +kernel
theorem dX5_lightBetween_3 : decode cX5_lightBetween 3 = .ok (.iload_n 1, 1) := by decide +kernel
theorem dX5_lightBetween_4 : decode cX5_lightBetween 4 = .ok (.iload_n 2, 1) := by decide +kernel
theorem dX5_lightBetween_5 : decode cX5_lightBetween 5 = .ok (.invokevirtual 47, 3) := by decide +kernel
theorem dX5_lightBetween_8 : decode cX5_lightBetween 8 = .ok (.iload_n 3, 1) := by decide +kernel
theorem dX5_lightBetween_9 : decode cX5_lightBetween 9 = .ok (.aload_n 0, 1) := by decide +kernel
theorem dX5_lightBetween_10 : decode cX5_lightBetween 10 = .ok (.iload_n 3, 1) := by decide +kernel
theorem dX5_lightBetween_11 : decode cX5_lightBetween 11 = .ok (.iload 4, 2) := by decide +kernel
theorem dX5_lightBetween_13 : decode cX5_lightBetween 13 = .ok (.invokevirtual 47, 3) := by decide +kernel
theorem dX5_lightBetween_16 : decode cX5_lightBetween 16 = .ok (.invokevirtual 51, 3) := by decide +kernel
theorem dX5_lightBetween_19 : decode cX5_lightBetween 19 = .ok (.ireturn, 1) := by decide +kernel
theorem dX5_named_0 : decode cX5_named 0 = .ok (.iconst 0, 1) := by decide +kernel
theorem dX5_named_1 : decode cX5_named 1 = .ok (.istore_n 3, 1) := by decide +kernel
theorem dX5_named_2 : decode cX5_named 2 = .ok (.iload_n 3, 1) := by decide +kernel
theorem dX5_named_3 : decode cX5_named 3 = .ok (.aload_n 0, 1) := by decide +kernel
theorem dX5_named_4 : decode cX5_named 4 = .ok (.getfield 22, 3) := by decide +kernel
theorem dX5_named_7 : decode cX5_named 7 = .ok (.if_icmp .ge 22, 3) := by decide +kernel
theorem dX5_named_10 : decode cX5_named 10 = .ok (.aload_n 0, 1) := by decide +kernel
theorem dX5_named_11 : decode cX5_named 11 = .ok (.getfield 9, 3) := by decide +kernel
theorem dX5_named_14 : decode cX5_named 14 = .ok (.iload_n 3, 1) := by decide +kernel
theorem dX5_named_15 : decode cX5_named 15 = .ok (.laload, 1) := by decide +kernel
theorem dX5_named_16 : decode cX5_named 16 = .ok (.lload_n 1, 1) := by decide +kernel
theorem dX5_named_17 : decode cX5_named 17 = .ok (.lcmp, 1) := by decide +kernel
theorem dX5_named_18 : decode cX5_named 18 = .ok (.ifCond .ne 5, 3) := by decide +kernel
theorem dX5_named_21 : decode cX5_named 21 = .ok (.iload_n 3, 1) := by decide +kernel
theorem dX5_named_22 : decode cX5_named 22 = .ok (.ireturn, 1) := by decide +kernel
theorem dX5_named_23 : decode cX5_named 23 = .ok (.iinc 3 1, 3) := by decide +kernel
theorem dX5_named_26 : decode cX5_named 26 = .ok (.goto (-24), 3) := by decide +kernel
theorem dX5_named_29 : decode cX5_named 29 = .ok (.iconst (-1), 1) := by decide +kernel
theorem dX5_named_30 : decode cX5_named 30 = .ok (.ireturn, 1) := by decide +kernel
theorem dX5_priceIn_0 : decode cX5_priceIn 0 = .ok (.aload_n 0, 1) := by decide +kernel
theorem dX5_priceIn_1 : decode cX5_priceIn 1 = .ok (.getfield 15, 3) := by decide +kernel
theorem dX5_priceIn_4 : decode cX5_priceIn 4 = .ok (.iload_n 1, 1) := by decide +kernel
theorem dX5_priceIn_5 : decode cX5_priceIn 5 = .ok (.bipush 6, 2) := by decide +kernel
theorem dX5_priceIn_7 : decode cX5_priceIn 7 = .ok (.imul, 1) := by decide +kernel
theorem dX5_priceIn_8 : decode cX5_priceIn 8 = .ok (.iconst 4, 1) := by decide +kernel
theorem dX5_priceIn_9 : decode cX5_priceIn 9 = .ok (.iadd, 1) := by decide +kernel
theorem dX5_priceIn_10 : decode cX5_priceIn 10 = .ok (.iaload, 1) := by decide +kernel
theorem dX5_priceIn_11 : decode cX5_priceIn 11 = .ok (.aload_n 0, 1) := by decide +kernel
theorem dX5_priceIn_12 : decode cX5_priceIn 12 = .ok (.getfield 15, 3) := by decide +kernel
theorem dX5_priceIn_15 : decode cX5_priceIn 15 = .ok (.iload_n 1, 1) := by decide +kernel
theorem dX5_priceIn_16 : decode cX5_priceIn 16 = .ok (.bipush 6, 2) := by decide +kernel
theorem dX5_priceIn_18 : decode cX5_priceIn 18 = .ok (.imul, 1) := by decide +kernel
theorem dX5_priceIn_19 : decode cX5_priceIn 19 = .ok (.iconst 5, 1) := by decide +kernel
theorem dX5_priceIn_20 : decode cX5_priceIn 20 = .ok (.iadd, 1) := by decide +kernel
theorem dX5_priceIn_21 : decode cX5_priceIn 21 = .ok (.iaload, 1) := by decide +kernel
theorem dX5_priceIn_22 : decode cX5_priceIn 22 = .ok (.aload_n 0, 1) := by decide +kernel
theorem dX5_priceIn_23 : decode cX5_priceIn 23 = .ok (.iload_n 1, 1) := by decide +kernel
theorem dX5_priceIn_24 : decode cX5_priceIn 24 = .ok (.iload_n 2, 1) := by decide +kernel
theorem dX5_priceIn_25 : decode cX5_priceIn 25 = .ok (.invokevirtual 47, 3) := by decide +kernel
theorem dX5_priceIn_28 : decode cX5_priceIn 28 = .ok (.imul, 1) := by decide +kernel
theorem dX5_priceIn_29 : decode cX5_priceIn 29 = .ok (.iadd, 1) := by decide +kernel
theorem dX5_priceIn_30 : decode cX5_priceIn 30 = .ok (.ireturn, 1) := by decide +kernel
