theorem qf_X11_61 : Cond.fieldLink RX11 61 "SlowWorlds" "rays" "LSlowWorlds$Rays;" ∈ gw := tbt (tb2 (List.mem_of_getElem? (i := 203) rfl)) rfl
theorem qm_X11_247 : Cond.methodLink RX11 247 yX3_arrival ∈ gw := tbt (tb4 (List.mem_of_getElem? (i := 81) rfl)) rfl
theorem qm_X11_257 : Cond.methodLink RX11 257 yX3_seen ∈ gw := tbt (tb4 (List.mem_of_getElem? (i := 108) rfl)) rfl
theorem qc_X3_echoOf : Cond.code yX3_echoOf cX3_echoOf 4 (some .int) ∈ gw := tbt (tb5 (List.mem_of_getElem? (i := 81) rfl)) rfl
theorem qi_yX3_echoOf : Cond.instanceMethod yX3_echoOf ∈ gw := tbt (tb5 (List.mem_of_getElem? (i := 79) rfl)) rfl
theorem qs_X3_echoOf : Cond.selects (yX3_echoOf).cls yX3_echoOf yX3_echoOf ∈ gw := tbt (tb5 (List.mem_of_getElem? (i := 80) rfl)) rfl
theorem ci_X3_echoOf : CIv yX3_echoOf cX3_echoOf 4 (some .int) 3 := ⟨qc_X3_echoOf, qi_yX3_echoOf, qs_X3_echoOf, qz_X3, by decide +kernel⟩
theorem qm_X11_328 : Cond.methodLink RX11 328 yX3_echoOf ∈ gw := tbt (tb5 (List.mem_of_getElem? (i := 78) rfl)) rfl
theorem qm_X11_265 : Cond.methodLink RX11 265 yJ9_min_7cf53 ∈ gw := tbt (tb4 (List.mem_of_getElem? (i := 137) rfl)) rfl
theorem dX11_answered_0 : decode cX11_answered 0 = .ok (.aload_n 0, 1) := by decide +kernel
theorem dX11_answered_1 : decode cX11_answered 1 = .ok (.iload_n 1, 1) := by decide +kernel
theorem dX11_answered_2 : decode cX11_answered 2 = .ok (.iload_n 2, 1) := by decide +kernel
theorem dX11_answered_3 : decode cX11_answered 3 = .ok (.invokevirtual 237, 3) := by decide +kernel
theorem dX11_answered_6 : decode cX11_answered 6 = .ok (.ifCond .eq 13, 3) := by decide +kernel
theorem dX11_answered_9 : decode cX11_answered 9 = .ok (.iload_n 3, 1) := by decide +kernel
theorem dX11_answered_10 : decode cX11_answered 10 = .ok (.sipush 500, 3) := by decide +kernel
theorem dX11_answered_13 : decode cX11_answered 13 = .ok (.invokestatic 103, 3) := by decide +kernel
theorem dX11_answered_16 : decode cX11_answered 16 = .ok (.ifCond .ne 9, 3) := by decide +kernel
theorem dX11_answered_19 : decode cX11_answered 19 = .ok (.aload_n 0, 1) := by decide +kernel
theorem dX11_answered_20 : decode cX11_answered 20 = .ok (.iconst 1, 1) := by decide +kernel
theorem dX11_answered_21 : decode cX11_answered 21 = .ok (.invokevirtual 126, 3) := by decide +kernel
theorem dX11_answered_24 : decode cX11_answered 24 = .ok (.ireturn, 1) := by decide +kernel
theorem dX11_answered_25 : decode cX11_answered 25 = .ok (.iload_n 3, 1) := by decide +kernel
theorem dX11_answered_26 : decode cX11_answered 26 = .ok (.sipush 400, 3) := by decide +kernel
theorem dX11_answered_29 : decode cX11_answered 29 = .ok (.invokestatic 265, 3) := by decide +kernel
theorem dX11_answered_32 : decode cX11_answered 32 = .ok (.istore 4, 2) := by decide +kernel
theorem dX11_answered_34 : decode cX11_answered 34 = .ok (.iload 4, 2) := by decide +kernel
theorem dX11_answered_36 : decode cX11_answered 36 = .ok (.ifCond .lt 41, 3) := by decide +kernel
theorem dX11_answered_39 : decode cX11_answered 39 = .ok (.aload_n 0, 1) := by decide +kernel
theorem dX11_answered_40 : decode cX11_answered 40 = .ok (.getfield 61, 3) := by decide +kernel
theorem dX11_answered_43 : decode cX11_answered 43 = .ok (.iload_n 1, 1) := by decide +kernel
theorem dX11_answered_44 : decode cX11_answered 44 = .ok (.iload 4, 2) := by decide +kernel
theorem dX11_answered_46 : decode cX11_answered 46 = .ok (.iload_n 2, 1) := by decide +kernel
theorem dX11_answered_47 : decode cX11_answered 47 = .ok (.invokevirtual 328, 3) := by decide +kernel
theorem dX11_answered_50 : decode cX11_answered 50 = .ok (.istore 5, 2) := by decide +kernel
theorem dX11_answered_52 : decode cX11_answered 52 = .ok (.iload 5, 2) := by decide +kernel
theorem dX11_answered_54 : decode cX11_answered 54 = .ok (.iconst (-1), 1) := by decide +kernel
theorem dX11_answered_55 : decode cX11_answered 55 = .ok (.if_icmp .eq 16, 3) := by decide +kernel
theorem dX11_answered_58 : decode cX11_answered 58 = .ok (.iload 5, 2) := by decide +kernel
theorem dX11_answered_60 : decode cX11_answered 60 = .ok (.iload_n 3, 1) := by decide +kernel
theorem dX11_answered_61 : decode cX11_answered 61 = .ok (.if_icmp .gt 10, 3) := by decide +kernel
theorem dX11_answered_64 : decode cX11_answered 64 = .ok (.aload_n 0, 1) := by decide +kernel
theorem dX11_answered_65 : decode cX11_answered 65 = .ok (.iload 4, 2) := by decide +kernel
theorem dX11_answered_67 : decode cX11_answered 67 = .ok (.invokevirtual 174, 3) := by decide +kernel
theorem dX11_answered_70 : decode cX11_answered 70 = .ok (.ireturn, 1) := by decide +kernel
theorem dX11_answered_71 : decode cX11_answered 71 = .ok (.iinc 4 (-1), 3) := by decide +kernel
theorem dX11_answered_74 : decode cX11_answered 74 = .ok (.goto (-40), 3) := by decide +kernel
theorem dX11_answered_77 : decode cX11_answered 77 = .ok (.aload_n 0, 1) := by decide +kernel
theorem dX11_answered_78 : decode cX11_answered 78 = .ok (.bipush 6, 2) := by decide +kernel
theorem dX11_answered_80 : decode cX11_answered 80 = .ok (.invokevirtual 126, 3) := by decide +kernel
theorem dX11_answered_83 : decode cX11_answered 83 = .ok (.ireturn, 1) := by decide +kernel
theorem dX11_arrives_0 : decode cX11_arrives 0 = .ok (.aload_n 0, 1) := by decide +kernel
theorem dX11_arrives_1 : decode cX11_arrives 1 = .ok (.iload_n 1, 1) := by decide +kernel
theorem dX11_arrives_2 : decode cX11_arrives 2 = .ok (.invokevirtual 221, 3) := by decide +kernel
theorem dX11_arrives_5 : decode cX11_arrives 5 = .ok (.ifCond .eq 18, 3) := by decide +kernel
theorem dX11_arrives_8 : decode cX11_arrives 8 = .ok (.aload_n 0, 1) := by decide +kernel
theorem dX11_arrives_9 : decode cX11_arrives 9 = .ok (.iload_n 3, 1) := by decide +kernel
theorem dX11_arrives_10 : decode cX11_arrives 10 = .ok (.invokevirtual 221, 3) := by decide +kernel
theorem dX11_arrives_13 : decode cX11_arrives 13 = .ok (.ifCond .eq 10, 3) := by decide +kernel
theorem dX11_arrives_16 : decode cX11_arrives 16 = .ok (.iload_n 2, 1) := by decide +kernel
theorem dX11_arrives_17 : decode cX11_arrives 17 = .ok (.invokestatic 240, 3) := by decide +kernel
theorem dX11_arrives_20 : decode cX11_arrives 20 = .ok (.ifCond .ne 9, 3) := by decide +kernel
theorem dX11_arrives_23 : decode cX11_arrives 23 = .ok (.aload_n 0, 1) := by decide +kernel
theorem dX11_arrives_24 : decode cX11_arrives 24 = .ok (.iconst 1, 1) := by decide +kernel
theorem dX11_arrives_25 : decode cX11_arrives 25 = .ok (.invokevirtual 126, 3) := by decide +kernel
theorem dX11_arrives_28 : decode cX11_arrives 28 = .ok (.ireturn, 1) := by decide +kernel
theorem dX11_arrives_29 : decode cX11_arrives 29 = .ok (.aload_n 0, 1) := by decide +kernel
theorem dX11_arrives_30 : decode cX11_arrives 30 = .ok (.aload_n 0, 1) := by decide +kernel
theorem dX11_arrives_31 : decode cX11_arrives 31 = .ok (.getfield 61, 3) := by decide +kernel
theorem dX11_arrives_34 : decode cX11_arrives 34 = .ok (.iload_n 1, 1) := by decide +kernel
theorem dX11_arrives_35 : decode cX11_arrives 35 = .ok (.iload_n 2, 1) := by decide +kernel
theorem dX11_arrives_36 : decode cX11_arrives 36 = .ok (.iload_n 3, 1) := by decide +kernel
theorem dX11_arrives_37 : decode cX11_arrives 37 = .ok (.invokevirtual 247, 3) := by decide +kernel
theorem dX11_arrives_40 : decode cX11_arrives 40 = .ok (.invokevirtual 251, 3) := by decide +kernel
theorem dX11_arrives_43 : decode cX11_arrives 43 = .ok (.ireturn, 1) := by decide +kernel
theorem dX11_blind_0 : decode cX11_blind 0 = .ok (.aload_n 0, 1) := by decide +kernel
theorem dX11_blind_1 : decode cX11_blind 1 = .ok (.iload_n 1, 1) := by decide +kernel
theorem dX11_blind_2 : decode cX11_blind 2 = .ok (.invokevirtual 221, 3) := by decide +kernel
theorem dX11_blind_5 : decode cX11_blind 5 = .ok (.ifCond .ne 9, 3) := by decide +kernel
theorem dX11_blind_8 : decode cX11_blind 8 = .ok (.aload_n 0, 1) := by decide +kernel
theorem dX11_blind_9 : decode cX11_blind 9 = .ok (.iconst 1, 1) := by decide +kernel
theorem dX11_blind_10 : decode cX11_blind 10 = .ok (.invokevirtual 126, 3) := by decide +kernel
theorem dX11_blind_13 : decode cX11_blind 13 = .ok (.ireturn, 1) := by decide +kernel
theorem dX11_blind_14 : decode cX11_blind 14 = .ok (.sipush 401, 3) := by decide +kernel
theorem dX11_blind_17 : decode cX11_blind 17 = .ok (.istore_n 2, 1) := by decide +kernel
theorem dX11_blind_18 : decode cX11_blind 18 = .ok (.iconst 0, 1) := by decide +kernel
theorem dX11_blind_19 : decode cX11_blind 19 = .ok (.istore_n 3, 1) := by decide +kernel
theorem dX11_blind_20 : decode cX11_blind 20 = .ok (.iload_n 3, 1) := by decide +kernel
theorem dX11_blind_21 : decode cX11_blind 21 = .ok (.aload_n 0, 1) := by decide +kernel
theorem dX11_blind_22 : decode cX11_blind 22 = .ok (.getfield 18, 3) := by decide +kernel
theorem dX11_blind_25 : decode cX11_blind 25 = .ok (.getfield 54, 3) := by decide +kernel
theorem dX11_blind_28 : decode cX11_blind 28 = .ok (.getfield 169, 3) := by decide +kernel
theorem dX11_blind_31 : decode cX11_blind 31 = .ok (.if_icmp .ge 55, 3) := by decide +kernel
theorem dX11_blind_34 : decode cX11_blind 34 = .ok (.iconst 0, 1) := by decide +kernel
theorem dX11_blind_35 : decode cX11_blind 35 = .ok (.istore 4, 2) := by decide +kernel
theorem dX11_blind_37 : decode cX11_blind 37 = .ok (.iload 4, 2) := by decide +kernel
theorem dX11_blind_39 : decode cX11_blind 39 = .ok (.iload_n 2, 1) := by decide +kernel
theorem dX11_blind_40 : decode cX11_blind 40 = .ok (.if_icmp .ge 40, 3) := by decide +kernel
theorem dX11_blind_43 : decode cX11_blind 43 = .ok (.iload_n 3, 1) := by decide +kernel
theorem dX11_blind_44 : decode cX11_blind 44 = .ok (.iload_n 1, 1) := by decide +kernel
theorem dX11_blind_45 : decode cX11_blind 45 = .ok (.if_icmp .eq 35, 3) := by decide +kernel
theorem dX11_blind_48 : decode cX11_blind 48 = .ok (.aload_n 0, 1) := by decide +kernel
theorem dX11_blind_49 : decode cX11_blind 49 = .ok (.getfield 61, 3) := by decide +kernel
theorem dX11_blind_52 : decode cX11_blind 52 = .ok (.iload_n 3, 1) := by decide +kernel
theorem dX11_blind_53 : decode cX11_blind 53 = .ok (.iload 4, 2) := by decide +kernel
theorem dX11_blind_55 : decode cX11_blind 55 = .ok (.iload_n 1, 1) := by decide +kernel
theorem dX11_blind_56 : decode cX11_blind 56 = .ok (.invokevirtual 247, 3) := by decide +kernel
theorem dX11_blind_59 : decode cX11_blind 59 = .ok (.istore 5, 2) := by decide +kernel
theorem dX11_blind_61 : decode cX11_blind 61 = .ok (.iload 5, 2) := by decide +kernel
theorem dX11_blind_63 : decode cX11_blind 63 = .ok (.iconst (-1), 1) := by decide +kernel
theorem dX11_blind_64 : decode cX11_blind 64 = .ok (.if_icmp .eq 10, 3) := by decide +kernel
theorem dX11_blind_67 : decode cX11_blind 67 = .ok (.iload_n 2, 1) := by decide +kernel
theorem dX11_blind_68 : decode cX11_blind 68 = .ok (.iload 5, 2) := by decide +kernel
theorem dX11_blind_70 : decode cX11_blind 70 = .ok (.invokestatic 265, 3) := by decide +kernel
theorem dX11_blind_73 : decode cX11_blind 73 = .ok (.istore_n 2, 1) := by decide +kernel
theorem dX11_blind_74 : decode cX11_blind 74 = .ok (.iinc 4 1, 3) := by decide +kernel
theorem dX11_blind_77 : decode cX11_blind 77 = .ok (.goto (-40), 3) := by decide +kernel
theorem dX11_blind_80 : decode cX11_blind 80 = .ok (.iinc 3 1, 3) := by decide +kernel
theorem dX11_blind_83 : decode cX11_blind 83 = .ok (.goto (-63), 3) := by decide +kernel
theorem dX11_blind_86 : decode cX11_blind 86 = .ok (.aload_n 0, 1) := by decide +kernel
theorem dX11_blind_87 : decode cX11_blind 87 = .ok (.iload_n 2, 1) := by decide +kernel
theorem dX11_blind_88 : decode cX11_blind 88 = .ok (.invokevirtual 174, 3) := by decide +kernel
theorem dX11_blind_91 : decode cX11_blind 91 = .ok (.ireturn, 1) := by decide +kernel
theorem dX11_echo_0 : decode cX11_echo 0 = .ok (.aload_n 0, 1) := by decide +kernel
theorem dX11_echo_1 : decode cX11_echo 1 = .ok (.iload_n 1, 1) := by decide +kernel
theorem dX11_echo_2 : decode cX11_echo 2 = .ok (.iload_n 3, 1) := by decide +kernel
theorem dX11_echo_3 : decode cX11_echo 3 = .ok (.invokevirtual 237, 3) := by decide +kernel
theorem dX11_echo_6 : decode cX11_echo 6 = .ok (.ifCond .eq 10, 3) := by decide +kernel
theorem dX11_echo_9 : decode cX11_echo 9 = .ok (.iload_n 2, 1) := by decide +kernel
theorem dX11_echo_10 : decode cX11_echo 10 = .ok (.invokestatic 240, 3) := by decide +kernel
theorem dX11_echo_13 : decode cX11_echo 13 = .ok (.ifCond .ne 9, 3) := by decide +kernel
theorem dX11_echo_16 : decode cX11_echo 16 = .ok (.aload_n 0, 1) := by decide +kernel
theorem dX11_echo_17 : decode cX11_echo 17 = .ok (.iconst 1, 1) := by decide +kernel
theorem dX11_echo_18 : decode cX11_echo 18 = .ok (.invokevirtual 126, 3) := by decide +kernel
theorem dX11_echo_21 : decode cX11_echo 21 = .ok (.ireturn, 1) := by decide +kernel
theorem dX11_echo_22 : decode cX11_echo 22 = .ok (.aload_n 0, 1) := by decide +kernel
theorem dX11_echo_23 : decode cX11_echo 23 = .ok (.aload_n 0, 1) := by decide +kernel
theorem dX11_echo_24 : decode cX11_echo 24 = .ok (.getfield 61, 3) := by decide +kernel
theorem dX11_echo_27 : decode cX11_echo 27 = .ok (.iload_n 1, 1) := by decide +kernel
theorem dX11_echo_28 : decode cX11_echo 28 = .ok (.iload_n 2, 1) := by decide +kernel
theorem dX11_echo_29 : decode cX11_echo 29 = .ok (.iload_n 3, 1) := by decide +kernel
theorem dX11_echo_30 : decode cX11_echo 30 = .ok (.invokevirtual 328, 3) := by decide +kernel
theorem dX11_echo_33 : decode cX11_echo 33 = .ok (.invokevirtual 251, 3) := by decide +kernel
theorem dX11_echo_36 : decode cX11_echo 36 = .ok (.ireturn, 1) := by decide +kernel
theorem dX11_hoped_0 : decode cX11_hoped 0 = .ok (.aload_n 0, 1) := by decide +kernel
theorem dX11_hoped_1 : decode cX11_hoped 1 = .ok (.iload_n 1, 1) := by decide +kernel
theorem dX11_hoped_2 : decode cX11_hoped 2 = .ok (.iload_n 3, 1) := by decide +kernel
theorem dX11_hoped_3 : decode cX11_hoped 3 = .ok (.invokevirtual 237, 3) := by decide +kernel
theorem dX11_hoped_6 : decode cX11_hoped 6 = .ok (.ifCond .eq 10, 3) := by decide +kernel
theorem dX11_hoped_9 : decode cX11_hoped 9 = .ok (.iload_n 2, 1) := by decide +kernel
theorem dX11_hoped_10 : decode cX11_hoped 10 = .ok (.invokestatic 240, 3) := by decide +kernel
theorem dX11_hoped_13 : decode cX11_hoped 13 = .ok (.ifCond .ne 9, 3) := by decide +kernel
theorem dX11_hoped_16 : decode cX11_hoped 16 = .ok (.aload_n 0, 1) := by decide +kernel
theorem dX11_hoped_17 : decode cX11_hoped 17 = .ok (.iconst 1, 1) := by decide +kernel
theorem dX11_hoped_18 : decode cX11_hoped 18 = .ok (.invokevirtual 126, 3) := by decide +kernel
theorem dX11_hoped_21 : decode cX11_hoped 21 = .ok (.ireturn, 1) := by decide +kernel
theorem dX11_hoped_22 : decode cX11_hoped 22 = .ok (.aload_n 0, 1) := by decide +kernel
theorem dX11_hoped_23 : decode cX11_hoped 23 = .ok (.getfield 61, 3) := by decide +kernel
theorem dX11_hoped_26 : decode cX11_hoped 26 = .ok (.iload_n 1, 1) := by decide +kernel
theorem dX11_hoped_27 : decode cX11_hoped 27 = .ok (.iload_n 3, 1) := by decide +kernel
theorem dX11_hoped_28 : decode cX11_hoped 28 = .ok (.iload_n 2, 1) := by decide +kernel
theorem dX11_hoped_29 : decode cX11_hoped 29 = .ok (.invokevirtual 257, 3) := by decide +kernel
theorem dX11_hoped_32 : decode cX11_hoped 32 = .ok (.istore 4, 2) := by decide +kernel
theorem dX11_hoped_34 : decode cX11_hoped 34 = .ok (.iload 4, 2) := by decide +kernel
theorem dX11_hoped_36 : decode cX11_hoped 36 = .ok (.iconst (-1), 1) := by decide +kernel
theorem dX11_hoped_37 : decode cX11_hoped 37 = .ok (.if_icmp .ne 10, 3) := by decide +kernel
theorem dX11_hoped_40 : decode cX11_hoped 40 = .ok (.aload_n 0, 1) := by decide +kernel
theorem dX11_hoped_41 : decode cX11_hoped 41 = .ok (.bipush 6, 2) := by decide +kernel
theorem dX11_hoped_43 : decode cX11_hoped 43 = .ok (.invokevirtual 126, 3) := by decide +kernel
theorem dX11_hoped_46 : decode cX11_hoped 46 = .ok (.ireturn, 1) := by decide +kernel
theorem dX11_hoped_47 : decode cX11_hoped 47 = .ok (.aload_n 0, 1) := by decide +kernel
theorem dX11_hoped_48 : decode cX11_hoped 48 = .ok (.aload_n 0, 1) := by decide +kernel
theorem dX11_hoped_49 : decode cX11_hoped 49 = .ok (.getfield 18, 3) := by decide +kernel
theorem dX11_hoped_52 : decode cX11_hoped 52 = .ok (.getfield 54, 3) := by decide +kernel
theorem dX11_hoped_55 : decode cX11_hoped 55 = .ok (.iload_n 3, 1) := by decide +kernel
theorem dX11_hoped_56 : decode cX11_hoped 56 = .ok (.iload 4, 2) := by decide +kernel
theorem dX11_hoped_58 : decode cX11_hoped 58 = .ok (.invokevirtual 337, 3) := by decide +kernel
theorem dX11_hoped_61 : decode cX11_hoped 61 = .ok (.aload_n 0, 1) := by decide +kernel
theorem dX11_hoped_62 : decode cX11_hoped 62 = .ok (.getfield 18, 3) := by decide +kernel
theorem dX11_hoped_65 : decode cX11_hoped 65 = .ok (.getfield 54, 3) := by decide +kernel
theorem dX11_hoped_68 : decode cX11_hoped 68 = .ok (.iload_n 1, 1) := by decide +kernel
theorem dX11_hoped_69 : decode cX11_hoped 69 = .ok (.iload_n 2, 1) := by decide +kernel
theorem dX11_hoped_70 : decode cX11_hoped 70 = .ok (.invokevirtual 337, 3) := by decide +kernel
theorem dX11_hoped_73 : decode cX11_hoped 73 = .ok (.isub, 1) := by decide +kernel
theorem dX11_hoped_74 : decode cX11_hoped 74 = .ok (.invokevirtual 174, 3) := by decide +kernel
theorem dX11_hoped_77 : decode cX11_hoped 77 = .ok (.ireturn, 1) := by decide +kernel
theorem dX11_priceSeen_0 : decode cX11_priceSeen 0 = .ok (.aload_n 0, 1) := by decide +kernel
theorem dX11_priceSeen_1 : decode cX11_priceSeen 1 = .ok (.iload_n 1, 1) := by decide +kernel
theorem dX11_priceSeen_2 : decode cX11_priceSeen 2 = .ok (.invokevirtual 221, 3) := by decide +kernel
theorem dX11_priceSeen_5 : decode cX11_priceSeen 5 = .ok (.ifCond .eq 18, 3) := by decide +kernel
theorem dX11_priceSeen_8 : decode cX11_priceSeen 8 = .ok (.aload_n 0, 1) := by decide +kernel
theorem dX11_priceSeen_9 : decode cX11_priceSeen 9 = .ok (.iload_n 2, 1) := by decide +kernel
theorem dX11_priceSeen_10 : decode cX11_priceSeen 10 = .ok (.invokevirtual 221, 3) := by decide +kernel
theorem dX11_priceSeen_13 : decode cX11_priceSeen 13 = .ok (.ifCond .eq 10, 3) := by decide +kernel
theorem dX11_priceSeen_16 : decode cX11_priceSeen 16 = .ok (.iload_n 3, 1) := by decide +kernel
theorem dX11_priceSeen_17 : decode cX11_priceSeen 17 = .ok (.invokestatic 240, 3) := by decide +kernel
theorem dX11_priceSeen_20 : decode cX11_priceSeen 20 = .ok (.ifCond .ne 9, 3) := by decide +kernel
theorem dX11_priceSeen_23 : decode cX11_priceSeen 23 = .ok (.aload_n 0, 1) := by decide +kernel
theorem dX11_priceSeen_24 : decode cX11_priceSeen 24 = .ok (.iconst 1, 1) := by decide +kernel
theorem dX11_priceSeen_25 : decode cX11_priceSeen 25 = .ok (.invokevirtual 126, 3) := by decide +kernel
theorem dX11_priceSeen_28 : decode cX11_priceSeen 28 = .ok (.ireturn, 1) := by decide +kernel
theorem dX11_priceSeen_29 : decode cX11_priceSeen 29 = .ok (.aload_n 0, 1) := by decide +kernel
theorem dX11_priceSeen_30 : decode cX11_priceSeen 30 = .ok (.getfield 61, 3) := by decide +kernel
theorem dX11_priceSeen_33 : decode cX11_priceSeen 33 = .ok (.iload_n 1, 1) := by decide +kernel
theorem dX11_priceSeen_34 : decode cX11_priceSeen 34 = .ok (.iload_n 2, 1) := by decide +kernel
theorem dX11_priceSeen_35 : decode cX11_priceSeen 35 = .ok (.iload_n 3, 1) := by decide +kernel
theorem dX11_priceSeen_36 : decode cX11_priceSeen 36 = .ok (.invokevirtual 257, 3) := by decide +kernel
theorem dX11_priceSeen_39 : decode cX11_priceSeen 39 = .ok (.istore 4, 2) := by decide +kernel
theorem dX11_priceSeen_41 : decode cX11_priceSeen 41 = .ok (.iload 4, 2) := by decide +kernel
theorem dX11_priceSeen_43 : decode cX11_priceSeen 43 = .ok (.iconst (-1), 1) := by decide +kernel
theorem dX11_priceSeen_44 : decode cX11_priceSeen 44 = .ok (.if_icmp .ne 12, 3) := by decide +kernel
theorem dX11_priceSeen_47 : decode cX11_priceSeen 47 = .ok (.aload_n 0, 1) := by decide +kernel
theorem dX11_priceSeen_48 : decode cX11_priceSeen 48 = .ok (.bipush 6, 2) := by decide +kernel
theorem dX11_priceSeen_50 : decode cX11_priceSeen 50 = .ok (.invokevirtual 126, 3) := by decide +kernel
theorem dX11_priceSeen_53 : decode cX11_priceSeen 53 = .ok (.goto 20, 3) := by decide +kernel
theorem dX11_priceSeen_56 : decode cX11_priceSeen 56 = .ok (.aload_n 0, 1) := by decide +kernel
theorem dX11_priceSeen_57 : decode cX11_priceSeen 57 = .ok (.aload_n 0, 1) := by decide +kernel
theorem dX11_priceSeen_58 : decode cX11_priceSeen 58 = .ok (.getfield 18, 3) := by decide +kernel
theorem dX11_priceSeen_61 : decode cX11_priceSeen 61 = .ok (.getfield 54, 3) := by decide +kernel
theorem dX11_priceSeen_64 : decode cX11_priceSeen 64 = .ok (.iload_n 2, 1) := by decide +kernel
theorem dX11_priceSeen_65 : decode cX11_priceSeen 65 = .ok (.iload 4, 2) := by decide +kernel
theorem dX11_priceSeen_67 : decode cX11_priceSeen 67 = .ok (.invokevirtual 337, 3) := by decide +kernel
theorem dX11_priceSeen_70 : decode cX11_priceSeen 70 = .ok (.invokevirtual 174, 3) := by decide +kernel
theorem dX11_priceSeen_73 : decode cX11_priceSeen 73 = .ok (.ireturn, 1) := by decide +kernel
theorem dX11_sees_0 : decode cX11_sees 0 = .ok (.aload_n 0, 1) := by decide +kernel
theorem dX11_sees_1 : decode cX11_sees 1 = .ok (.iload_n 1, 1) := by decide +kernel
theorem dX11_sees_2 : decode cX11_sees 2 = .ok (.invokevirtual 221, 3) := by decide +kernel
theorem dX11_sees_5 : decode cX11_sees 5 = .ok (.ifCond .eq 18, 3) := by decide +kernel
theorem dX11_sees_8 : decode cX11_sees 8 = .ok (.aload_n 0, 1) := by decide +kernel
theorem dX11_sees_9 : decode cX11_sees 9 = .ok (.iload_n 2, 1) := by decide +kernel
theorem dX11_sees_10 : decode cX11_sees 10 = .ok (.invokevirtual 221, 3) := by decide +kernel
theorem dX11_sees_13 : decode cX11_sees 13 = .ok (.ifCond .eq 10, 3) := by decide +kernel
theorem dX11_sees_16 : decode cX11_sees 16 = .ok (.iload_n 3, 1) := by decide +kernel
theorem dX11_sees_17 : decode cX11_sees 17 = .ok (.invokestatic 240, 3) := by decide +kernel
theorem dX11_sees_20 : decode cX11_sees 20 = .ok (.ifCond .ne 9, 3) := by decide +kernel
theorem dX11_sees_23 : decode cX11_sees 23 = .ok (.aload_n 0, 1) := by decide +kernel
theorem dX11_sees_24 : decode cX11_sees 24 = .ok (.iconst 1, 1) := by decide +kernel
theorem dX11_sees_25 : decode cX11_sees 25 = .ok (.invokevirtual 126, 3) := by decide +kernel
theorem dX11_sees_28 : decode cX11_sees 28 = .ok (.ireturn, 1) := by decide +kernel
theorem dX11_sees_29 : decode cX11_sees 29 = .ok (.aload_n 0, 1) := by decide +kernel
theorem dX11_sees_30 : decode cX11_sees 30 = .ok (.aload_n 0, 1) := by decide +kernel
theorem dX11_sees_31 : decode cX11_sees 31 = .ok (.getfield 61, 3) := by decide +kernel
theorem dX11_sees_34 : decode cX11_sees 34 = .ok (.iload_n 1, 1) := by decide +kernel
theorem dX11_sees_35 : decode cX11_sees 35 = .ok (.iload_n 2, 1) := by decide +kernel
theorem dX11_sees_36 : decode cX11_sees 36 = .ok (.iload_n 3, 1) := by decide +kernel
theorem dX11_sees_37 : decode cX11_sees 37 = .ok (.invokevirtual 257, 3) := by decide +kernel
theorem dX11_sees_40 : decode cX11_sees 40 = .ok (.invokevirtual 251, 3) := by decide +kernel
theorem dX11_sees_43 : decode cX11_sees 43 = .ok (.ireturn, 1) := by decide +kernel
theorem dX11_stale_0 : decode cX11_stale 0 = .ok (.aload_n 0, 1) := by decide +kernel
theorem dX11_stale_1 : decode cX11_stale 1 = .ok (.iload_n 1, 1) := by decide +kernel
theorem dX11_stale_2 : decode cX11_stale 2 = .ok (.invokevirtual 221, 3) := by decide +kernel
theorem dX11_stale_5 : decode cX11_stale 5 = .ok (.ifCond .eq 18, 3) := by decide +kernel
theorem dX11_stale_8 : decode cX11_stale 8 = .ok (.aload_n 0, 1) := by decide +kernel
theorem dX11_stale_9 : decode cX11_stale 9 = .ok (.iload_n 2, 1) := by decide +kernel
theorem dX11_stale_10 : decode cX11_stale 10 = .ok (.invokevirtual 221, 3) := by decide +kernel
theorem dX11_stale_13 : decode cX11_stale 13 = .ok (.ifCond .eq 10, 3) := by decide +kernel
theorem dX11_stale_16 : decode cX11_stale 16 = .ok (.iload_n 3, 1) := by decide +kernel
theorem dX11_stale_17 : decode cX11_stale 17 = .ok (.invokestatic 240, 3) := by decide +kernel
theorem dX11_stale_20 : decode cX11_stale 20 = .ok (.ifCond .ne 9, 3) := by decide +kernel
theorem dX11_stale_23 : decode cX11_stale 23 = .ok (.aload_n 0, 1) := by decide +kernel
theorem dX11_stale_24 : decode cX11_stale 24 = .ok (.iconst 1, 1) := by decide +kernel
theorem dX11_stale_25 : decode cX11_stale 25 = .ok (.invokevirtual 126, 3) := by decide +kernel
theorem dX11_stale_28 : decode cX11_stale 28 = .ok (.ireturn, 1) := by decide +kernel
theorem dX11_stale_29 : decode cX11_stale 29 = .ok (.aload_n 0, 1) := by decide +kernel
theorem dX11_stale_30 : decode cX11_stale 30 = .ok (.getfield 61, 3) := by decide +kernel
theorem dX11_stale_33 : decode cX11_stale 33 = .ok (.iload_n 1, 1) := by decide +kernel
theorem dX11_stale_34 : decode cX11_stale 34 = .ok (.iload_n 2, 1) := by decide +kernel
theorem dX11_stale_35 : decode cX11_stale 35 = .ok (.iload_n 3, 1) := by decide +kernel
theorem dX11_stale_36 : decode cX11_stale 36 = .ok (.invokevirtual 257, 3) := by decide +kernel
theorem dX11_stale_39 : decode cX11_stale 39 = .ok (.istore 4, 2) := by decide +kernel
theorem dX11_stale_41 : decode cX11_stale 41 = .ok (.iload 4, 2) := by decide +kernel
theorem dX11_stale_43 : decode cX11_stale 43 = .ok (.iconst (-1), 1) := by decide +kernel
theorem dX11_stale_44 : decode cX11_stale 44 = .ok (.if_icmp .ne 12, 3) := by decide +kernel
theorem dX11_stale_47 : decode cX11_stale 47 = .ok (.aload_n 0, 1) := by decide +kernel
theorem dX11_stale_48 : decode cX11_stale 48 = .ok (.bipush 6, 2) := by decide +kernel
theorem dX11_stale_50 : decode cX11_stale 50 = .ok (.invokevirtual 126, 3) := by decide +kernel
theorem dX11_stale_53 : decode cX11_stale 53 = .ok (.goto 11, 3) := by decide +kernel
theorem dX11_stale_56 : decode cX11_stale 56 = .ok (.aload_n 0, 1) := by decide +kernel
theorem dX11_stale_57 : decode cX11_stale 57 = .ok (.iload_n 3, 1) := by decide +kernel
theorem dX11_stale_58 : decode cX11_stale 58 = .ok (.iload 4, 2) := by decide +kernel
theorem dX11_stale_60 : decode cX11_stale 60 = .ok (.isub, 1) := by decide +kernel
theorem dX11_stale_61 : decode cX11_stale 61 = .ok (.invokevirtual 174, 3) := by decide +kernel
theorem dX11_stale_64 : decode cX11_stale 64 = .ok (.ireturn, 1) := by decide +kernel
