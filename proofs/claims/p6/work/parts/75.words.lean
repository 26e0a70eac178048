theorem qc_X12_laysOrders : Cond.code yX12_laysOrders cX12_laysOrders 2 none ∈ gw := tbt (tb8 (List.mem_of_getElem? (i := 65) rfl)) rfl
theorem qi_yX12_laysOrders : Cond.instanceMethod yX12_laysOrders ∈ gw := tbt (tb8 (List.mem_of_getElem? (i := 64) rfl)) rfl
theorem qs_X12_laysOrders : Cond.selects (yX12_laysOrders).cls yX12_laysOrders yX12_laysOrders ∈ gw := tb0 (List.mem_of_getElem? (i := 83) rfl) rfl
theorem ci_X12_laysOrders : CIv yX12_laysOrders cX12_laysOrders 2 none 0 := ⟨qc_X12_laysOrders, qi_yX12_laysOrders, qs_X12_laysOrders, qz_X12, by decide +kernel⟩
theorem qm_X12_330 : Cond.methodLink RX12 330 yX12_laysOrders ∈ gw := tbt (tb8 (List.mem_of_getElem? (i := 62) rfl)) rfl
theorem qc_X12_areOrders : Cond.code yX12_areOrders cX12_areOrders 3 (some .boolean) ∈ gw := tbt (tb8 (List.mem_of_getElem? (i := 85) rfl)) rfl
theorem qi_yX12_areOrders : Cond.instanceMethod yX12_areOrders ∈ gw := tbt (tb8 (List.mem_of_getElem? (i := 84) rfl)) rfl
theorem qs_X12_areOrders : Cond.selects (yX12_areOrders).cls yX12_areOrders yX12_areOrders ∈ gw := tb0 (List.mem_of_getElem? (i := 86) rfl) rfl
theorem ci_X12_areOrders : CIv yX12_areOrders cX12_areOrders 3 (some .boolean) 2 := ⟨qc_X12_areOrders, qi_yX12_areOrders, qs_X12_areOrders, qz_X12, by decide +kernel⟩
theorem qm_X12_336 : Cond.methodLink RX12 336 yX12_areOrders ∈ gw := tbt (tb8 (List.mem_of_getElem? (i := 82) rfl)) rfl
theorem qc_X12_isOne : Cond.code yX12_isOne cX12_isOne 8 (some .boolean) ∈ gw := tbt (tb8 (List.mem_of_getElem? (i := 93) rfl)) rfl
theorem qi_yX12_isOne : Cond.instanceMethod yX12_isOne ∈ gw := tbt (tb8 (List.mem_of_getElem? (i := 92) rfl)) rfl
theorem qs_X12_isOne : Cond.selects (yX12_isOne).cls yX12_isOne yX12_isOne ∈ gw := tb0 (List.mem_of_getElem? (i := 87) rfl) rfl
theorem ci_X12_isOne : CIv yX12_isOne cX12_isOne 8 (some .boolean) 2 := ⟨qc_X12_isOne, qi_yX12_isOne, qs_X12_isOne, qz_X12, by decide +kernel⟩
theorem qm_X12_339 : Cond.methodLink RX12 339 yX12_isOne ∈ gw := tbt (tb8 (List.mem_of_getElem? (i := 90) rfl)) rfl
theorem qc_X12_reignOf : Cond.code yX12_reignOf cX12_reignOf 5 (some .int) ∈ gw := tbt (tb8 (List.mem_of_getElem? (i := 109) rfl)) rfl
theorem qi_yX12_reignOf : Cond.instanceMethod yX12_reignOf ∈ gw := tbt (tb8 (List.mem_of_getElem? (i := 108) rfl)) rfl
theorem qs_X12_reignOf : Cond.selects (yX12_reignOf).cls yX12_reignOf yX12_reignOf ∈ gw := tb0 (List.mem_of_getElem? (i := 88) rfl) rfl
theorem ci_X12_reignOf : CIv yX12_reignOf cX12_reignOf 5 (some .int) 2 := ⟨qc_X12_reignOf, qi_yX12_reignOf, qs_X12_reignOf, qz_X12, by decide +kernel⟩
theorem qm_X12_342 : Cond.methodLink RX12 342 yX12_reignOf ∈ gw := tbt (tb8 (List.mem_of_getElem? (i := 106) rfl)) rfl
theorem qc_X12_isSetOf : Cond.code yX12_isSetOf cX12_isSetOf 2 (some .boolean) ∈ gw := tbt (tb8 (List.mem_of_getElem? (i := 137) rfl)) rfl
theorem qi_yX12_isSetOf : Cond.instanceMethod yX12_isSetOf ∈ gw := tbt (tb8 (List.mem_of_getElem? (i := 136) rfl)) rfl
theorem qs_X12_isSetOf : Cond.selects (yX12_isSetOf).cls yX12_isSetOf yX12_isSetOf ∈ gw := tb0 (List.mem_of_getElem? (i := 90) rfl) rfl
theorem ci_X12_isSetOf : CIv yX12_isSetOf cX12_isSetOf 2 (some .boolean) 1 := ⟨qc_X12_isSetOf, qi_yX12_isSetOf, qs_X12_isSetOf, qz_X12, by decide +kernel⟩
theorem qm_X12_348 : Cond.methodLink RX12 348 yX12_isSetOf ∈ gw := tbt (tb8 (List.mem_of_getElem? (i := 134) rfl)) rfl
theorem dX12_before_0 : decode cX12_before 0 = .ok (.aload_n 0, 1) := by decide +kernel
theorem dX12_before_1 : decode cX12_before 1 = .ok (.iload_n 1, 1) := by decide +kernel
theorem dX12_before_2 : decode cX12_before 2 = .ok (.iload_n 2, 1) := by decide +kernel
theorem dX12_before_3 : decode cX12_before 3 = .ok (.invokevirtual 336, 3) := by decide +kernel
theorem dX12_before_6 : decode cX12_before 6 = .ok (.ifCond .eq 11, 3) := by decide +kernel
theorem dX12_before_9 : decode cX12_before 9 = .ok (.aload_n 0, 1) := by decide +kernel
theorem dX12_before_10 : decode cX12_before 10 = .ok (.iload_n 3, 1) := by decide +kernel
theorem dX12_before_11 : decode cX12_before 11 = .ok (.invokevirtual 243, 3) := by decide +kernel
theorem dX12_before_14 : decode cX12_before 14 = .ok (.ifCond .ne 9, 3) := by decide +kernel
theorem dX12_before_17 : decode cX12_before 17 = .ok (.aload_n 0, 1) := by decide +kernel
theorem dX12_before_18 : decode cX12_before 18 = .ok (.iconst 1, 1) := by decide +kernel
theorem dX12_before_19 : decode cX12_before 19 = .ok (.invokevirtual 81, 3) := by decide +kernel
theorem dX12_before_22 : decode cX12_before 22 = .ok (.ireturn, 1) := by decide +kernel
theorem dX12_before_23 : decode cX12_before 23 = .ok (.aload_n 0, 1) := by decide +kernel
theorem dX12_before_24 : decode cX12_before 24 = .ok (.invokevirtual 330, 3) := by decide +kernel
theorem dX12_before_27 : decode cX12_before 27 = .ok (.aload_n 0, 1) := by decide +kernel
theorem dX12_before_28 : decode cX12_before 28 = .ok (.getfield 56, 3) := by decide +kernel
theorem dX12_before_31 : decode cX12_before 31 = .ok (.bipush 6, 2) := by decide +kernel
theorem dX12_before_33 : decode cX12_before 33 = .ok (.iload_n 1, 1) := by decide +kernel
theorem dX12_before_34 : decode cX12_before 34 = .ok (.imul, 1) := by decide +kernel
theorem dX12_before_35 : decode cX12_before 35 = .ok (.iload_n 3, 1) := by decide +kernel
theorem dX12_before_36 : decode cX12_before 36 = .ok (.iadd, 1) := by decide +kernel
theorem dX12_before_37 : decode cX12_before 37 = .ok (.iaload, 1) := by decide +kernel
theorem dX12_before_38 : decode cX12_before 38 = .ok (.istore 4, 2) := by decide +kernel
theorem dX12_before_40 : decode cX12_before 40 = .ok (.aload_n 0, 1) := by decide +kernel
theorem dX12_before_41 : decode cX12_before 41 = .ok (.getfield 56, 3) := by decide +kernel
theorem dX12_before_44 : decode cX12_before 44 = .ok (.bipush 6, 2) := by decide +kernel
theorem dX12_before_46 : decode cX12_before 46 = .ok (.iload_n 2, 1) := by decide +kernel
theorem dX12_before_47 : decode cX12_before 47 = .ok (.imul, 1) := by decide +kernel
theorem dX12_before_48 : decode cX12_before 48 = .ok (.iload_n 3, 1) := by decide +kernel
theorem dX12_before_49 : decode cX12_before 49 = .ok (.iadd, 1) := by decide +kernel
theorem dX12_before_50 : decode cX12_before 50 = .ok (.iaload, 1) := by decide +kernel
theorem dX12_before_51 : decode cX12_before 51 = .ok (.istore 5, 2) := by decide +kernel
theorem dX12_before_53 : decode cX12_before 53 = .ok (.iload 4, 2) := by decide +kernel
theorem dX12_before_55 : decode cX12_before 55 = .ok (.ldc 88, 2) := by decide +kernel
theorem dX12_before_57 : decode cX12_before 57 = .ok (.if_icmp .ne 19, 3) := by decide +kernel
theorem dX12_before_60 : decode cX12_before 60 = .ok (.iload 5, 2) := by decide +kernel
theorem dX12_before_62 : decode cX12_before 62 = .ok (.ldc 88, 2) := by decide +kernel
theorem dX12_before_64 : decode cX12_before 64 = .ok (.if_icmp .ne 12, 3) := by decide +kernel
theorem dX12_before_67 : decode cX12_before 67 = .ok (.aload_n 0, 1) := by decide +kernel
theorem dX12_before_68 : decode cX12_before 68 = .ok (.bipush 6, 2) := by decide +kernel
theorem dX12_before_70 : decode cX12_before 70 = .ok (.invokevirtual 81, 3) := by decide +kernel
theorem dX12_before_73 : decode cX12_before 73 = .ok (.goto 30, 3) := by decide +kernel
theorem dX12_before_76 : decode cX12_before 76 = .ok (.aload_n 0, 1) := by decide +kernel
theorem dX12_before_77 : decode cX12_before 77 = .ok (.iload 4, 2) := by decide +kernel
theorem dX12_before_79 : decode cX12_before 79 = .ok (.iload 5, 2) := by decide +kernel
theorem dX12_before_81 : decode cX12_before 81 = .ok (.if_icmp .ge 7, 3) := by decide +kernel
theorem dX12_before_84 : decode cX12_before 84 = .ok (.iconst 0, 1) := by decide +kernel
theorem dX12_before_85 : decode cX12_before 85 = .ok (.goto 15, 3) := by decide +kernel
theorem dX12_before_88 : decode cX12_before 88 = .ok (.iload 4, 2) := by decide +kernel
theorem dX12_before_90 : decode cX12_before 90 = .ok (.iload 5, 2) := by decide +kernel
theorem dX12_before_92 : decode cX12_before 92 = .ok (.if_icmp .le 7, 3) := by decide +kernel
theorem dX12_before_95 : decode cX12_before 95 = .ok (.iconst 1, 1) := by decide +kernel
theorem dX12_before_96 : decode cX12_before 96 = .ok (.goto 4, 3) := by decide +kernel
theorem dX12_before_99 : decode cX12_before 99 = .ok (.iconst 2, 1) := by decide +kernel
theorem dX12_before_100 : decode cX12_before 100 = .ok (.invokevirtual 85, 3) := by decide +kernel
theorem dX12_before_103 : decode cX12_before 103 = .ok (.ireturn, 1) := by decide +kernel
theorem dX12_confirmed_0 : decode cX12_confirmed 0 = .ok (.aload_n 0, 1) := by decide +kernel
theorem dX12_confirmed_1 : decode cX12_confirmed 1 = .ok (.iload_n 1, 1) := by decide +kernel
theorem dX12_confirmed_2 : decode cX12_confirmed 2 = .ok (.invokevirtual 324, 3) := by decide +kernel
theorem dX12_confirmed_5 : decode cX12_confirmed 5 = .ok (.ifCond .eq 11, 3) := by decide +kernel
theorem dX12_confirmed_8 : decode cX12_confirmed 8 = .ok (.aload_n 0, 1) := by decide +kernel
theorem dX12_confirmed_9 : decode cX12_confirmed 9 = .ok (.iload_n 2, 1) := by decide +kernel
theorem dX12_confirmed_10 : decode cX12_confirmed 10 = .ok (.invokevirtual 348, 3) := by decide +kernel
theorem dX12_confirmed_13 : decode cX12_confirmed 13 = .ok (.ifCond .ne 9, 3) := by decide +kernel
theorem dX12_confirmed_16 : decode cX12_confirmed 16 = .ok (.aload_n 0, 1) := by decide +kernel
theorem dX12_confirmed_17 : decode cX12_confirmed 17 = .ok (.iconst 1, 1) := by decide +kernel
theorem dX12_confirmed_18 : decode cX12_confirmed 18 = .ok (.invokevirtual 81, 3) := by decide +kernel
theorem dX12_confirmed_21 : decode cX12_confirmed 21 = .ok (.ireturn, 1) := by decide +kernel
theorem dX12_confirmed_22 : decode cX12_confirmed 22 = .ok (.aload_n 0, 1) := by decide +kernel
theorem dX12_confirmed_23 : decode cX12_confirmed 23 = .ok (.iload_n 1, 1) := by decide +kernel
theorem dX12_confirmed_24 : decode cX12_confirmed 24 = .ok (.invokevirtual 318, 3) := by decide +kernel
theorem dX12_confirmed_27 : decode cX12_confirmed 27 = .ok (.aload_n 0, 1) := by decide +kernel
theorem dX12_confirmed_28 : decode cX12_confirmed 28 = .ok (.getfield 7, 3) := by decide +kernel
theorem dX12_confirmed_31 : decode cX12_confirmed 31 = .ok (.iload_n 1, 1) := by decide +kernel
theorem dX12_confirmed_32 : decode cX12_confirmed 32 = .ok (.invokestatic 315, 3) := by decide +kernel
theorem dX12_confirmed_35 : decode cX12_confirmed 35 = .ok (.iaload, 1) := by decide +kernel
theorem dX12_confirmed_36 : decode cX12_confirmed 36 = .ok (.istore_n 3, 1) := by decide +kernel
theorem dX12_confirmed_37 : decode cX12_confirmed 37 = .ok (.aload_n 0, 1) := by decide +kernel
theorem dX12_confirmed_38 : decode cX12_confirmed 38 = .ok (.getfield 7, 3) := by decide +kernel
theorem dX12_confirmed_41 : decode cX12_confirmed 41 = .ok (.iload_n 1, 1) := by decide +kernel
theorem dX12_confirmed_42 : decode cX12_confirmed 42 = .ok (.invokestatic 315, 3) := by decide +kernel
theorem dX12_confirmed_45 : decode cX12_confirmed 45 = .ok (.iconst 1, 1) := by decide +kernel
theorem dX12_confirmed_46 : decode cX12_confirmed 46 = .ok (.iadd, 1) := by decide +kernel
theorem dX12_confirmed_47 : decode cX12_confirmed 47 = .ok (.iaload, 1) := by decide +kernel
theorem dX12_confirmed_48 : decode cX12_confirmed 48 = .ok (.istore 4, 2) := by decide +kernel
theorem dX12_confirmed_50 : decode cX12_confirmed 50 = .ok (.iconst 0, 1) := by decide +kernel
theorem dX12_confirmed_51 : decode cX12_confirmed 51 = .ok (.istore 5, 2) := by decide +kernel
theorem dX12_confirmed_53 : decode cX12_confirmed 53 = .ok (.iload 5, 2) := by decide +kernel
theorem dX12_confirmed_55 : decode cX12_confirmed 55 = .ok (.aload_n 0, 1) := by decide +kernel
theorem dX12_confirmed_56 : decode cX12_confirmed 56 = .ok (.getfield 7, 3) := by decide +kernel
theorem dX12_confirmed_59 : decode cX12_confirmed 59 = .ok (.iconst 0, 1) := by decide +kernel
theorem dX12_confirmed_60 : decode cX12_confirmed 60 = .ok (.iaload, 1) := by decide +kernel
theorem dX12_confirmed_61 : decode cX12_confirmed 61 = .ok (.if_icmp .ge 63, 3) := by decide +kernel
theorem dX12_confirmed_64 : decode cX12_confirmed 64 = .ok (.iload 5, 2) := by decide +kernel
theorem dX12_confirmed_66 : decode cX12_confirmed 66 = .ok (.iload_n 3, 1) := by decide +kernel
theorem dX12_confirmed_67 : decode cX12_confirmed 67 = .ok (.if_icmp .eq 51, 3) := by decide +kernel
theorem dX12_confirmed_70 : decode cX12_confirmed 70 = .ok (.iload_n 2, 1) := by decide +kernel
theorem dX12_confirmed_71 : decode cX12_confirmed 71 = .ok (.iload 5, 2) := by decide +kernel
theorem dX12_confirmed_73 : decode cX12_confirmed 73 = .ok (.ishr, 1) := by decide +kernel
theorem dX12_confirmed_74 : decode cX12_confirmed 74 = .ok (.iconst 1, 1) := by decide +kernel
theorem dX12_confirmed_75 : decode cX12_confirmed 75 = .ok (.iand, 1) := by decide +kernel
theorem dX12_confirmed_76 : decode cX12_confirmed 76 = .ok (.iconst 1, 1) := by decide +kernel
theorem dX12_confirmed_77 : decode cX12_confirmed 77 = .ok (.if_icmp .ne 41, 3) := by decide +kernel
theorem dX12_confirmed_80 : decode cX12_confirmed 80 = .ok (.iload 4, 2) := by decide +kernel
theorem dX12_confirmed_82 : decode cX12_confirmed 82 = .ok (.aload_n 0, 1) := by decide +kernel
theorem dX12_confirmed_83 : decode cX12_confirmed 83 = .ok (.getfield 47, 3) := by decide +kernel
theorem dX12_confirmed_86 : decode cX12_confirmed 86 = .ok (.iload 5, 2) := by decide +kernel
theorem dX12_confirmed_88 : decode cX12_confirmed 88 = .ok (.iaload, 1) := by decide +kernel
theorem dX12_confirmed_89 : decode cX12_confirmed 89 = .ok (.ldc 88, 2) := by decide +kernel
theorem dX12_confirmed_91 : decode cX12_confirmed 91 = .ok (.if_icmp .ne 8, 3) := by decide +kernel
theorem dX12_confirmed_94 : decode cX12_confirmed 94 = .ok (.ldc 88, 2) := by decide +kernel
theorem dX12_confirmed_96 : decode cX12_confirmed 96 = .ok (.goto 17, 3) := by decide +kernel
theorem dX12_confirmed_99 : decode cX12_confirmed 99 = .ok (.aload_n 0, 1) := by decide +kernel
theorem dX12_confirmed_100 : decode cX12_confirmed 100 = .ok (.iload 5, 2) := by decide +kernel
theorem dX12_confirmed_102 : decode cX12_confirmed 102 = .ok (.aload_n 0, 1) := by decide +kernel
theorem dX12_confirmed_103 : decode cX12_confirmed 103 = .ok (.getfield 47, 3) := by decide +kernel
theorem dX12_confirmed_106 : decode cX12_confirmed 106 = .ok (.iload 5, 2) := by decide +kernel
theorem dX12_confirmed_108 : decode cX12_confirmed 108 = .ok (.iaload, 1) := by decide +kernel
theorem dX12_confirmed_109 : decode cX12_confirmed 109 = .ok (.iload_n 3, 1) := by decide +kernel
theorem dX12_confirmed_110 : decode cX12_confirmed 110 = .ok (.invokevirtual 280, 3) := by decide +kernel
theorem dX12_confirmed_113 : decode cX12_confirmed 113 = .ok (.invokestatic 255, 3) := by decide +kernel
theorem dX12_confirmed_116 : decode cX12_confirmed 116 = .ok (.istore 4, 2) := by decide +kernel
theorem dX12_confirmed_118 : decode cX12_confirmed 118 = .ok (.iinc 5 1, 3) := by decide +kernel
theorem dX12_confirmed_121 : decode cX12_confirmed 121 = .ok (.goto (-68), 3) := by decide +kernel
theorem dX12_confirmed_124 : decode cX12_confirmed 124 = .ok (.aload_n 0, 1) := by decide +kernel
theorem dX12_confirmed_125 : decode cX12_confirmed 125 = .ok (.iload 4, 2) := by decide +kernel
theorem dX12_confirmed_127 : decode cX12_confirmed 127 = .ok (.invokevirtual 284, 3) := by decide +kernel
theorem dX12_confirmed_130 : decode cX12_confirmed 130 = .ok (.ireturn, 1) := by decide +kernel
theorem dX12_disputes_0 : decode cX12_disputes 0 = .ok (.aload_n 0, 1) := by decide +kernel
theorem dX12_disputes_1 : decode cX12_disputes 1 = .ok (.invokevirtual 330, 3) := by decide +kernel
theorem dX12_disputes_4 : decode cX12_disputes 4 = .ok (.iconst 0, 1) := by decide +kernel
theorem dX12_disputes_5 : decode cX12_disputes 5 = .ok (.istore_n 1, 1) := by decide +kernel
theorem dX12_disputes_6 : decode cX12_disputes 6 = .ok (.iconst 0, 1) := by decide +kernel
theorem dX12_disputes_7 : decode cX12_disputes 7 = .ok (.istore_n 2, 1) := by decide +kernel
theorem dX12_disputes_8 : decode cX12_disputes 8 = .ok (.iload_n 2, 1) := by decide +kernel
theorem dX12_disputes_9 : decode cX12_disputes 9 = .ok (.aload_n 0, 1) := by decide +kernel
theorem dX12_disputes_10 : decode cX12_disputes 10 = .ok (.getfield 7, 3) := by decide +kernel
theorem dX12_disputes_13 : decode cX12_disputes 13 = .ok (.iconst 4, 1) := by decide +kernel
theorem dX12_disputes_14 : decode cX12_disputes 14 = .ok (.iaload, 1) := by decide +kernel
theorem dX12_disputes_15 : decode cX12_disputes 15 = .ok (.if_icmp .ge 39, 3) := by decide +kernel
theorem dX12_disputes_18 : decode cX12_disputes 18 = .ok (.iconst 0, 1) := by decide +kernel
theorem dX12_disputes_19 : decode cX12_disputes 19 = .ok (.istore_n 3, 1) := by decide +kernel
theorem dX12_disputes_20 : decode cX12_disputes 20 = .ok (.iload_n 3, 1) := by decide +kernel
theorem dX12_disputes_21 : decode cX12_disputes 21 = .ok (.iload_n 2, 1) := by decide +kernel
theorem dX12_disputes_22 : decode cX12_disputes 22 = .ok (.if_icmp .ge 26, 3) := by decide +kernel
theorem dX12_disputes_25 : decode cX12_disputes 25 = .ok (.iload_n 1, 1) := by decide +kernel
theorem dX12_disputes_26 : decode cX12_disputes 26 = .ok (.aload_n 0, 1) := by decide +kernel
theorem dX12_disputes_27 : decode cX12_disputes 27 = .ok (.iload_n 2, 1) := by decide +kernel
theorem dX12_disputes_28 : decode cX12_disputes 28 = .ok (.iload_n 3, 1) := by decide +kernel
theorem dX12_disputes_29 : decode cX12_disputes 29 = .ok (.invokevirtual 339, 3) := by decide +kernel
theorem dX12_disputes_32 : decode cX12_disputes 32 = .ok (.ifCond .eq 7, 3) := by decide +kernel
theorem dX12_disputes_35 : decode cX12_disputes 35 = .ok (.iconst 0, 1) := by decide +kernel
theorem dX12_disputes_36 : decode cX12_disputes 36 = .ok (.goto 4, 3) := by decide +kernel
theorem dX12_disputes_39 : decode cX12_disputes 39 = .ok (.iconst 1, 1) := by decide +kernel
theorem dX12_disputes_40 : decode cX12_disputes 40 = .ok (.iadd, 1) := by decide +kernel
theorem dX12_disputes_41 : decode cX12_disputes 41 = .ok (.istore_n 1, 1) := by decide +kernel
theorem dX12_disputes_42 : decode cX12_disputes 42 = .ok (.iinc 3 1, 3) := by decide +kernel
theorem dX12_disputes_45 : decode cX12_disputes 45 = .ok (.goto (-25), 3) := by decide +kernel
theorem dX12_disputes_48 : decode cX12_disputes 48 = .ok (.iinc 2 1, 3) := by decide +kernel
theorem dX12_disputes_51 : decode cX12_disputes 51 = .ok (.goto (-43), 3) := by decide +kernel
theorem dX12_disputes_54 : decode cX12_disputes 54 = .ok (.aload_n 0, 1) := by decide +kernel
theorem dX12_disputes_55 : decode cX12_disputes 55 = .ok (.iload_n 1, 1) := by decide +kernel
theorem dX12_disputes_56 : decode cX12_disputes 56 = .ok (.invokevirtual 85, 3) := by decide +kernel
theorem dX12_disputes_59 : decode cX12_disputes 59 = .ok (.ireturn, 1) := by decide +kernel
theorem dX12_given_0 : decode cX12_given 0 = .ok (.aload_n 0, 1) := by decide +kernel
theorem dX12_given_1 : decode cX12_given 1 = .ok (.iload_n 1, 1) := by decide +kernel
theorem dX12_given_2 : decode cX12_given 2 = .ok (.invokevirtual 324, 3) := by decide +kernel
theorem dX12_given_5 : decode cX12_given 5 = .ok (.ifCond .eq 30, 3) := by decide +kernel
theorem dX12_given_8 : decode cX12_given 8 = .ok (.iload_n 2, 1) := by decide +kernel
theorem dX12_given_9 : decode cX12_given 9 = .ok (.ifCond .lt 26, 3) := by decide +kernel
theorem dX12_given_12 : decode cX12_given 12 = .ok (.iload_n 2, 1) := by decide +kernel
theorem dX12_given_13 : decode cX12_given 13 = .ok (.iconst 1, 1) := by decide +kernel
theorem dX12_given_14 : decode cX12_given 14 = .ok (.if_icmp .gt 21, 3) := by decide +kernel
theorem dX12_given_17 : decode cX12_given 17 = .ok (.aload_n 0, 1) := by decide +kernel
theorem dX12_given_18 : decode cX12_given 18 = .ok (.aload_n 0, 1) := by decide +kernel
theorem dX12_given_19 : decode cX12_given 19 = .ok (.getfield 7, 3) := by decide +kernel
theorem dX12_given_22 : decode cX12_given 22 = .ok (.iload_n 1, 1) := by decide +kernel
theorem dX12_given_23 : decode cX12_given 23 = .ok (.invokestatic 315, 3) := by decide +kernel
theorem dX12_given_26 : decode cX12_given 26 = .ok (.iload_n 2, 1) := by decide +kernel
theorem dX12_given_27 : decode cX12_given 27 = .ok (.iadd, 1) := by decide +kernel
theorem dX12_given_28 : decode cX12_given 28 = .ok (.iaload, 1) := by decide +kernel
theorem dX12_given_29 : decode cX12_given 29 = .ok (.invokevirtual 85, 3) := by decide +kernel
theorem dX12_given_32 : decode cX12_given 32 = .ok (.goto 8, 3) := by decide +kernel
theorem dX12_given_35 : decode cX12_given 35 = .ok (.aload_n 0, 1) := by decide +kernel
theorem dX12_given_36 : decode cX12_given 36 = .ok (.iconst 1, 1) := by decide +kernel
theorem dX12_given_37 : decode cX12_given 37 = .ok (.invokevirtual 81, 3) := by decide +kernel
theorem dX12_given_40 : decode cX12_given 40 = .ok (.ireturn, 1) := by decide +kernel
theorem dX12_heard_0 : decode cX12_heard 0 = .ok (.aload_n 0, 1) := by decide +kernel
theorem dX12_heard_1 : decode cX12_heard 1 = .ok (.iload_n 1, 1) := by decide +kernel
theorem dX12_heard_2 : decode cX12_heard 2 = .ok (.invokevirtual 324, 3) := by decide +kernel
theorem dX12_heard_5 : decode cX12_heard 5 = .ok (.ifCond .eq 11, 3) := by decide +kernel
theorem dX12_heard_8 : decode cX12_heard 8 = .ok (.aload_n 0, 1) := by decide +kernel
theorem dX12_heard_9 : decode cX12_heard 9 = .ok (.iload_n 2, 1) := by decide +kernel
theorem dX12_heard_10 : decode cX12_heard 10 = .ok (.invokevirtual 243, 3) := by decide +kernel
theorem dX12_heard_13 : decode cX12_heard 13 = .ok (.ifCond .ne 9, 3) := by decide +kernel
theorem dX12_heard_16 : decode cX12_heard 16 = .ok (.aload_n 0, 1) := by decide +kernel
theorem dX12_heard_17 : decode cX12_heard 17 = .ok (.iconst 1, 1) := by decide +kernel
theorem dX12_heard_18 : decode cX12_heard 18 = .ok (.invokevirtual 81, 3) := by decide +kernel
theorem dX12_heard_21 : decode cX12_heard 21 = .ok (.ireturn, 1) := by decide +kernel
theorem dX12_heard_22 : decode cX12_heard 22 = .ok (.aload_n 0, 1) := by decide +kernel
theorem dX12_heard_23 : decode cX12_heard 23 = .ok (.iload_n 1, 1) := by decide +kernel
theorem dX12_heard_24 : decode cX12_heard 24 = .ok (.invokevirtual 318, 3) := by decide +kernel
theorem dX12_heard_27 : decode cX12_heard 27 = .ok (.aload_n 0, 1) := by decide +kernel
theorem dX12_heard_28 : decode cX12_heard 28 = .ok (.aload_n 0, 1) := by decide +kernel
theorem dX12_heard_29 : decode cX12_heard 29 = .ok (.getfield 47, 3) := by decide +kernel
theorem dX12_heard_32 : decode cX12_heard 32 = .ok (.iload_n 2, 1) := by decide +kernel
theorem dX12_heard_33 : decode cX12_heard 33 = .ok (.iaload, 1) := by decide +kernel
theorem dX12_heard_34 : decode cX12_heard 34 = .ok (.invokevirtual 284, 3) := by decide +kernel
theorem dX12_heard_37 : decode cX12_heard 37 = .ok (.ireturn, 1) := by decide +kernel
theorem dX12_idle_0 : decode cX12_idle 0 = .ok (.aload_n 0, 1) := by decide +kernel
theorem dX12_idle_1 : decode cX12_idle 1 = .ok (.invokevirtual 330, 3) := by decide +kernel
theorem dX12_idle_4 : decode cX12_idle 4 = .ok (.iconst 0, 1) := by decide +kernel
theorem dX12_idle_5 : decode cX12_idle 5 = .ok (.istore_n 1, 1) := by decide +kernel
theorem dX12_idle_6 : decode cX12_idle 6 = .ok (.iconst 0, 1) := by decide +kernel
theorem dX12_idle_7 : decode cX12_idle 7 = .ok (.istore_n 2, 1) := by decide +kernel
theorem dX12_idle_8 : decode cX12_idle 8 = .ok (.iload_n 2, 1) := by decide +kernel
theorem dX12_idle_9 : decode cX12_idle 9 = .ok (.aload_n 0, 1) := by decide +kernel
theorem dX12_idle_10 : decode cX12_idle 10 = .ok (.getfield 7, 3) := by decide +kernel
theorem dX12_idle_13 : decode cX12_idle 13 = .ok (.iconst 4, 1) := by decide +kernel
theorem dX12_idle_14 : decode cX12_idle 14 = .ok (.iaload, 1) := by decide +kernel
theorem dX12_idle_15 : decode cX12_idle 15 = .ok (.if_icmp .ge 53, 3) := by decide +kernel
theorem dX12_idle_18 : decode cX12_idle 18 = .ok (.iconst 0, 1) := by decide +kernel
theorem dX12_idle_19 : decode cX12_idle 19 = .ok (.istore_n 3, 1) := by decide +kernel
theorem dX12_idle_20 : decode cX12_idle 20 = .ok (.iconst 0, 1) := by decide +kernel
theorem dX12_idle_21 : decode cX12_idle 21 = .ok (.istore 4, 2) := by decide +kernel
theorem dX12_idle_23 : decode cX12_idle 23 = .ok (.iload 4, 2) := by decide +kernel
theorem dX12_idle_25 : decode cX12_idle 25 = .ok (.aload_n 0, 1) := by decide +kernel
theorem dX12_idle_26 : decode cX12_idle 26 = .ok (.getfield 7, 3) := by decide +kernel
theorem dX12_idle_29 : decode cX12_idle 29 = .ok (.iconst 0, 1) := by decide +kernel
theorem dX12_idle_30 : decode cX12_idle 30 = .ok (.iaload, 1) := by decide +kernel
theorem dX12_idle_31 : decode cX12_idle 31 = .ok (.if_icmp .ge 19, 3) := by decide +kernel
theorem dX12_idle_34 : decode cX12_idle 34 = .ok (.iload_n 3, 1) := by decide +kernel
theorem dX12_idle_35 : decode cX12_idle 35 = .ok (.aload_n 0, 1) := by decide +kernel
theorem dX12_idle_36 : decode cX12_idle 36 = .ok (.iload_n 2, 1) := by decide +kernel
theorem dX12_idle_37 : decode cX12_idle 37 = .ok (.iload 4, 2) := by decide +kernel
theorem dX12_idle_39 : decode cX12_idle 39 = .ok (.invokevirtual 342, 3) := by decide +kernel
theorem dX12_idle_42 : decode cX12_idle 42 = .ok (.iadd, 1) := by decide +kernel
theorem dX12_idle_43 : decode cX12_idle 43 = .ok (.istore_n 3, 1) := by decide +kernel
theorem dX12_idle_44 : decode cX12_idle 44 = .ok (.iinc 4 1, 3) := by decide +kernel
theorem dX12_idle_47 : decode cX12_idle 47 = .ok (.goto (-24), 3) := by decide +kernel
theorem dX12_idle_50 : decode cX12_idle 50 = .ok (.iload_n 1, 1) := by decide +kernel
theorem dX12_idle_51 : decode cX12_idle 51 = .ok (.iload_n 3, 1) := by decide +kernel
theorem dX12_idle_52 : decode cX12_idle 52 = .ok (.ifCond .ne 7, 3) := by decide +kernel
theorem dX12_idle_55 : decode cX12_idle 55 = .ok (.iconst 1, 1) := by decide +kernel
theorem dX12_idle_56 : decode cX12_idle 56 = .ok (.goto 4, 3) := by decide +kernel
theorem dX12_idle_59 : decode cX12_idle 59 = .ok (.iconst 0, 1) := by decide +kernel
theorem dX12_idle_60 : decode cX12_idle 60 = .ok (.iadd, 1) := by decide +kernel
theorem dX12_idle_61 : decode cX12_idle 61 = .ok (.istore_n 1, 1) := by decide +kernel
theorem dX12_idle_62 : decode cX12_idle 62 = .ok (.iinc 2 1, 3) := by decide +kernel
theorem dX12_idle_65 : decode cX12_idle 65 = .ok (.goto (-57), 3) := by decide +kernel
theorem dX12_idle_68 : decode cX12_idle 68 = .ok (.aload_n 0, 1) := by decide +kernel
theorem dX12_idle_69 : decode cX12_idle 69 = .ok (.iload_n 1, 1) := by decide +kernel
theorem dX12_idle_70 : decode cX12_idle 70 = .ok (.invokevirtual 85, 3) := by decide +kernel
theorem dX12_idle_73 : decode cX12_idle 73 = .ok (.ireturn, 1) := by decide +kernel
theorem dX12_joint_0 : decode cX12_joint 0 = .ok (.aload_n 0, 1) := by decide +kernel
theorem dX12_joint_1 : decode cX12_joint 1 = .ok (.iload_n 1, 1) := by decide +kernel
theorem dX12_joint_2 : decode cX12_joint 2 = .ok (.invokevirtual 324, 3) := by decide +kernel
theorem dX12_joint_5 : decode cX12_joint 5 = .ok (.ifCond .eq 11, 3) := by decide +kernel
theorem dX12_joint_8 : decode cX12_joint 8 = .ok (.aload_n 0, 1) := by decide +kernel
theorem dX12_joint_9 : decode cX12_joint 9 = .ok (.iload_n 2, 1) := by decide +kernel
theorem dX12_joint_10 : decode cX12_joint 10 = .ok (.invokevirtual 348, 3) := by decide +kernel
theorem dX12_joint_13 : decode cX12_joint 13 = .ok (.ifCond .ne 9, 3) := by decide +kernel
theorem dX12_joint_16 : decode cX12_joint 16 = .ok (.aload_n 0, 1) := by decide +kernel
theorem dX12_joint_17 : decode cX12_joint 17 = .ok (.iconst 1, 1) := by decide +kernel
theorem dX12_joint_18 : decode cX12_joint 18 = .ok (.invokevirtual 81, 3) := by decide +kernel
theorem dX12_joint_21 : decode cX12_joint 21 = .ok (.ireturn, 1) := by decide +kernel
theorem dX12_joint_22 : decode cX12_joint 22 = .ok (.aload_n 0, 1) := by decide +kernel
theorem dX12_joint_23 : decode cX12_joint 23 = .ok (.iload_n 1, 1) := by decide +kernel
theorem dX12_joint_24 : decode cX12_joint 24 = .ok (.invokevirtual 318, 3) := by decide +kernel
theorem dX12_joint_27 : decode cX12_joint 27 = .ok (.iconst 0, 1) := by decide +kernel
theorem dX12_joint_28 : decode cX12_joint 28 = .ok (.istore_n 3, 1) := by decide +kernel
theorem dX12_joint_29 : decode cX12_joint 29 = .ok (.iconst 0, 1) := by decide +kernel
theorem dX12_joint_30 : decode cX12_joint 30 = .ok (.istore 4, 2) := by decide +kernel
theorem dX12_joint_32 : decode cX12_joint 32 = .ok (.iload 4, 2) := by decide +kernel
theorem dX12_joint_34 : decode cX12_joint 34 = .ok (.aload_n 0, 1) := by decide +kernel
theorem dX12_joint_35 : decode cX12_joint 35 = .ok (.getfield 7, 3) := by decide +kernel
theorem dX12_joint_38 : decode cX12_joint 38 = .ok (.iconst 0, 1) := by decide +kernel
theorem dX12_joint_39 : decode cX12_joint 39 = .ok (.iaload, 1) := by decide +kernel
theorem dX12_joint_40 : decode cX12_joint 40 = .ok (.if_icmp .ge 31, 3) := by decide +kernel
theorem dX12_joint_43 : decode cX12_joint 43 = .ok (.iload_n 2, 1) := by decide +kernel
theorem dX12_joint_44 : decode cX12_joint 44 = .ok (.iload 4, 2) := by decide +kernel
theorem dX12_joint_46 : decode cX12_joint 46 = .ok (.ishr, 1) := by decide +kernel
theorem dX12_joint_47 : decode cX12_joint 47 = .ok (.iconst 1, 1) := by decide +kernel
theorem dX12_joint_48 : decode cX12_joint 48 = .ok (.iand, 1) := by decide +kernel
theorem dX12_joint_49 : decode cX12_joint 49 = .ok (.iconst 1, 1) := by decide +kernel
theorem dX12_joint_50 : decode cX12_joint 50 = .ok (.if_icmp .ne 15, 3) := by decide +kernel
theorem dX12_joint_53 : decode cX12_joint 53 = .ok (.iload_n 3, 1) := by decide +kernel
theorem dX12_joint_54 : decode cX12_joint 54 = .ok (.aload_n 0, 1) := by decide +kernel
theorem dX12_joint_55 : decode cX12_joint 55 = .ok (.getfield 47, 3) := by decide +kernel
theorem dX12_joint_58 : decode cX12_joint 58 = .ok (.iload 4, 2) := by decide +kernel
theorem dX12_joint_60 : decode cX12_joint 60 = .ok (.iaload, 1) := by decide +kernel
theorem dX12_joint_61 : decode cX12_joint 61 = .ok (.invokestatic 255, 3) := by decide +kernel
theorem dX12_joint_64 : decode cX12_joint 64 = .ok (.istore_n 3, 1) := by decide +kernel
theorem dX12_joint_65 : decode cX12_joint 65 = .ok (.iinc 4 1, 3) := by decide +kernel
theorem dX12_joint_68 : decode cX12_joint 68 = .ok (.goto (-36), 3) := by decide +kernel
theorem dX12_joint_71 : decode cX12_joint 71 = .ok (.aload_n 0, 1) := by decide +kernel
theorem dX12_joint_72 : decode cX12_joint 72 = .ok (.iload_n 3, 1) := by decide +kernel
theorem dX12_joint_73 : decode cX12_joint 73 = .ok (.invokevirtual 284, 3) := by decide +kernel
theorem dX12_joint_76 : decode cX12_joint 76 = .ok (.ireturn, 1) := by decide +kernel
theorem dX12_kth_0 : decode cX12_kth 0 = .ok (.aload_n 0, 1) := by decide +kernel
theorem dX12_kth_1 : decode cX12_kth 1 = .ok (.iload_n 1, 1) := by decide +kernel
theorem dX12_kth_2 : decode cX12_kth 2 = .ok (.invokevirtual 243, 3) := by decide +kernel
theorem dX12_kth_5 : decode cX12_kth 5 = .ok (.ifCond .ne 9, 3) := by decide +kernel
theorem dX12_kth_8 : decode cX12_kth 8 = .ok (.aload_n 0, 1) := by decide +kernel
theorem dX12_kth_9 : decode cX12_kth 9 = .ok (.iconst 1, 1) := by decide +kernel
theorem dX12_kth_10 : decode cX12_kth 10 = .ok (.invokevirtual 81, 3) := by decide +kernel
theorem dX12_kth_13 : decode cX12_kth 13 = .ok (.ireturn, 1) := by decide +kernel
theorem dX12_kth_14 : decode cX12_kth 14 = .ok (.aload_n 0, 1) := by decide +kernel
theorem dX12_kth_15 : decode cX12_kth 15 = .ok (.invokevirtual 330, 3) := by decide +kernel
theorem dX12_kth_18 : decode cX12_kth 18 = .ok (.iconst 0, 1) := by decide +kernel
theorem dX12_kth_19 : decode cX12_kth 19 = .ok (.istore_n 3, 1) := by decide +kernel
theorem dX12_kth_20 : decode cX12_kth 20 = .ok (.iload_n 3, 1) := by decide +kernel
theorem dX12_kth_21 : decode cX12_kth 21 = .ok (.aload_n 0, 1) := by decide +kernel
theorem dX12_kth_22 : decode cX12_kth 22 = .ok (.getfield 7, 3) := by decide +kernel
theorem dX12_kth_25 : decode cX12_kth 25 = .ok (.iconst 4, 1) := by decide +kernel
theorem dX12_kth_26 : decode cX12_kth 26 = .ok (.iaload, 1) := by decide +kernel
theorem dX12_kth_27 : decode cX12_kth 27 = .ok (.if_icmp .ge 114, 3) := by decide +kernel
theorem dX12_kth_30 : decode cX12_kth 30 = .ok (.aload_n 0, 1) := by decide +kernel
theorem dX12_kth_31 : decode cX12_kth 31 = .ok (.getfield 56, 3) := by decide +kernel
theorem dX12_kth_34 : decode cX12_kth 34 = .ok (.bipush 6, 2) := by decide +kernel
theorem dX12_kth_36 : decode cX12_kth 36 = .ok (.iload_n 3, 1) := by decide +kernel
theorem dX12_kth_37 : decode cX12_kth 37 = .ok (.imul, 1) := by decide +kernel
theorem dX12_kth_38 : decode cX12_kth 38 = .ok (.iload_n 1, 1) := by decide +kernel
theorem dX12_kth_39 : decode cX12_kth 39 = .ok (.iadd, 1) := by decide +kernel
theorem dX12_kth_40 : decode cX12_kth 40 = .ok (.iaload, 1) := by decide +kernel
theorem dX12_kth_41 : decode cX12_kth 41 = .ok (.istore 4, 2) := by decide +kernel
theorem dX12_kth_43 : decode cX12_kth 43 = .ok (.iconst 0, 1) := by decide +kernel
theorem dX12_kth_44 : decode cX12_kth 44 = .ok (.istore 5, 2) := by decide +kernel
theorem dX12_kth_46 : decode cX12_kth 46 = .ok (.iconst 0, 1) := by decide +kernel
theorem dX12_kth_47 : decode cX12_kth 47 = .ok (.istore 6, 2) := by decide +kernel
theorem dX12_kth_49 : decode cX12_kth 49 = .ok (.iload 6, 2) := by decide +kernel
theorem dX12_kth_51 : decode cX12_kth 51 = .ok (.aload_n 0, 1) := by decide +kernel
theorem dX12_kth_52 : decode cX12_kth 52 = .ok (.getfield 7, 3) := by decide +kernel
theorem dX12_kth_55 : decode cX12_kth 55 = .ok (.iconst 4, 1) := by decide +kernel
theorem dX12_kth_56 : decode cX12_kth 56 = .ok (.iaload, 1) := by decide +kernel
theorem dX12_kth_57 : decode cX12_kth 57 = .ok (.if_icmp .ge 59, 3) := by decide +kernel
theorem dX12_kth_60 : decode cX12_kth 60 = .ok (.iload 5, 2) := by decide +kernel
theorem dX12_kth_62 : decode cX12_kth 62 = .ok (.aload_n 0, 1) := by decide +kernel
theorem dX12_kth_63 : decode cX12_kth 63 = .ok (.getfield 56, 3) := by decide +kernel
theorem dX12_kth_66 : decode cX12_kth 66 = .ok (.bipush 6, 2) := by decide +kernel
theorem dX12_kth_68 : decode cX12_kth 68 = .ok (.iload 6, 2) := by decide +kernel
theorem dX12_kth_70 : decode cX12_kth 70 = .ok (.imul, 1) := by decide +kernel
theorem dX12_kth_71 : decode cX12_kth 71 = .ok (.iload_n 1, 1) := by decide +kernel
theorem dX12_kth_72 : decode cX12_kth 72 = .ok (.iadd, 1) := by decide +kernel
theorem dX12_kth_73 : decode cX12_kth 73 = .ok (.iaload, 1) := by decide +kernel
theorem dX12_kth_74 : decode cX12_kth 74 = .ok (.iload 4, 2) := by decide +kernel
theorem dX12_kth_76 : decode cX12_kth 76 = .ok (.if_icmp .lt 26, 3) := by decide +kernel
theorem dX12_kth_79 : decode cX12_kth 79 = .ok (.aload_n 0, 1) := by decide +kernel
theorem dX12_kth_80 : decode cX12_kth 80 = .ok (.getfield 56, 3) := by decide +kernel
theorem dX12_kth_83 : decode cX12_kth 83 = .ok (.bipush 6, 2) := by decide +kernel
theorem dX12_kth_85 : decode cX12_kth 85 = .ok (.iload 6, 2) := by decide +kernel
theorem dX12_kth_87 : decode cX12_kth 87 = .ok (.imul, 1) := by decide +kernel
theorem dX12_kth_88 : decode cX12_kth 88 = .ok (.iload_n 1, 1) := by decide +kernel
theorem dX12_kth_89 : decode cX12_kth 89 = .ok (.iadd, 1) := by decide +kernel
theorem dX12_kth_90 : decode cX12_kth 90 = .ok (.iaload, 1) := by decide +kernel
theorem dX12_kth_91 : decode cX12_kth 91 = .ok (.iload 4, 2) := by decide +kernel
theorem dX12_kth_93 : decode cX12_kth 93 = .ok (.if_icmp .ne 13, 3) := by decide +kernel
theorem dX12_kth_96 : decode cX12_kth 96 = .ok (.iload 6, 2) := by decide +kernel
theorem dX12_kth_98 : decode cX12_kth 98 = .ok (.iload_n 3, 1) := by decide +kernel
theorem dX12_kth_99 : decode cX12_kth 99 = .ok (.if_icmp .ge 7, 3) := by decide +kernel
theorem dX12_kth_102 : decode cX12_kth 102 = .ok (.iconst 1, 1) := by decide +kernel
theorem dX12_kth_103 : decode cX12_kth 103 = .ok (.goto 4, 3) := by decide +kernel
theorem dX12_kth_106 : decode cX12_kth 106 = .ok (.iconst 0, 1) := by decide +kernel
theorem dX12_kth_107 : decode cX12_kth 107 = .ok (.iadd, 1) := by decide +kernel
theorem dX12_kth_108 : decode cX12_kth 108 = .ok (.istore 5, 2) := by decide +kernel
theorem dX12_kth_110 : decode cX12_kth 110 = .ok (.iinc 6 1, 3) := by decide +kernel
theorem dX12_kth_113 : decode cX12_kth 113 = .ok (.goto (-64), 3) := by decide +kernel
theorem dX12_kth_116 : decode cX12_kth 116 = .ok (.iload 4, 2) := by decide +kernel
theorem dX12_kth_118 : decode cX12_kth 118 = .ok (.ldc 88, 2) := by decide +kernel
theorem dX12_kth_120 : decode cX12_kth 120 = .ok (.if_icmp .ge 15, 3) := by decide +kernel
theorem dX12_kth_123 : decode cX12_kth 123 = .ok (.iload 5, 2) := by decide +kernel
theorem dX12_kth_125 : decode cX12_kth 125 = .ok (.iload_n 2, 1) := by decide +kernel
theorem dX12_kth_126 : decode cX12_kth 126 = .ok (.if_icmp .ne 9, 3) := by decide +kernel
theorem dX12_kth_129 : decode cX12_kth 129 = .ok (.aload_n 0, 1) := by decide +kernel
theorem dX12_kth_130 : decode cX12_kth 130 = .ok (.iload_n 3, 1) := by decide +kernel
theorem dX12_kth_131 : decode cX12_kth 131 = .ok (.invokevirtual 85, 3) := by decide +kernel
theorem dX12_kth_134 : decode cX12_kth 134 = .ok (.ireturn, 1) := by decide +kernel
theorem dX12_kth_135 : decode cX12_kth 135 = .ok (.iinc 3 1, 3) := by decide +kernel
theorem dX12_kth_138 : decode cX12_kth 138 = .ok (.goto (-118), 3) := by decide +kernel
theorem dX12_kth_141 : decode cX12_kth 141 = .ok (.aload_n 0, 1) := by decide +kernel
theorem dX12_kth_142 : decode cX12_kth 142 = .ok (.bipush 6, 2) := by decide +kernel
theorem dX12_kth_144 : decode cX12_kth 144 = .ok (.invokevirtual 81, 3) := by decide +kernel
theorem dX12_kth_147 : decode cX12_kth 147 = .ok (.ireturn, 1) := by decide +kernel
theorem dX12_oneForAll_0 : decode cX12_oneForAll 0 = .ok (.aload_n 0, 1) := by decide +kernel
theorem dX12_oneForAll_1 : decode cX12_oneForAll 1 = .ok (.iload_n 1, 1) := by decide +kernel
theorem dX12_oneForAll_2 : decode cX12_oneForAll 2 = .ok (.iload_n 2, 1) := by decide +kernel
theorem dX12_oneForAll_3 : decode cX12_oneForAll 3 = .ok (.invokevirtual 336, 3) := by decide +kernel
theorem dX12_oneForAll_6 : decode cX12_oneForAll 6 = .ok (.ifCond .ne 9, 3) := by decide +kernel
theorem dX12_oneForAll_9 : decode cX12_oneForAll 9 = .ok (.aload_n 0, 1) := by decide +kernel
theorem dX12_oneForAll_10 : decode cX12_oneForAll 10 = .ok (.iconst 1, 1) := by decide +kernel
theorem dX12_oneForAll_11 : decode cX12_oneForAll 11 = .ok (.invokevirtual 81, 3) := by decide +kernel
theorem dX12_oneForAll_14 : decode cX12_oneForAll 14 = .ok (.ireturn, 1) := by decide +kernel
theorem dX12_oneForAll_15 : decode cX12_oneForAll 15 = .ok (.aload_n 0, 1) := by decide +kernel
theorem dX12_oneForAll_16 : decode cX12_oneForAll 16 = .ok (.invokevirtual 330, 3) := by decide +kernel
theorem dX12_oneForAll_19 : decode cX12_oneForAll 19 = .ok (.aload_n 0, 1) := by decide +kernel
theorem dX12_oneForAll_20 : decode cX12_oneForAll 20 = .ok (.aload_n 0, 1) := by decide +kernel
theorem dX12_oneForAll_21 : decode cX12_oneForAll 21 = .ok (.iload_n 1, 1) := by decide +kernel
theorem dX12_oneForAll_22 : decode cX12_oneForAll 22 = .ok (.iload_n 2, 1) := by decide +kernel
theorem dX12_oneForAll_23 : decode cX12_oneForAll 23 = .ok (.invokevirtual 339, 3) := by decide +kernel
theorem dX12_oneForAll_26 : decode cX12_oneForAll 26 = .ok (.ifCond .eq 7, 3) := by decide +kernel
theorem dX12_oneForAll_29 : decode cX12_oneForAll 29 = .ok (.iconst 1, 1) := by decide +kernel
theorem dX12_oneForAll_30 : decode cX12_oneForAll 30 = .ok (.goto 4, 3) := by decide +kernel
theorem dX12_oneForAll_33 : decode cX12_oneForAll 33 = .ok (.iconst 0, 1) := by decide +kernel
theorem dX12_oneForAll_34 : decode cX12_oneForAll 34 = .ok (.invokevirtual 85, 3) := by decide +kernel
theorem dX12_oneForAll_37 : decode cX12_oneForAll 37 = .ok (.ireturn, 1) := by decide +kernel
theorem dX12_peace_0 : decode cX12_peace 0 = .ok (.iload_n 1, 1) := by decide +kernel
theorem dX12_peace_1 : decode cX12_peace 1 = .ok (.invokestatic 258, 3) := by decide +kernel
theorem dX12_peace_4 : decode cX12_peace 4 = .ok (.ifCond .ne 9, 3) := by decide +kernel
theorem dX12_peace_7 : decode cX12_peace 7 = .ok (.aload_n 0, 1) := by decide +kernel
theorem dX12_peace_8 : decode cX12_peace 8 = .ok (.iconst 1, 1) := by decide +kernel
theorem dX12_peace_9 : decode cX12_peace 9 = .ok (.invokevirtual 81, 3) := by decide +kernel
theorem dX12_peace_12 : decode cX12_peace 12 = .ok (.ireturn, 1) := by decide +kernel
theorem dX12_peace_13 : decode cX12_peace 13 = .ok (.aload_n 0, 1) := by decide +kernel
theorem dX12_peace_14 : decode cX12_peace 14 = .ok (.invokevirtual 330, 3) := by decide +kernel
theorem dX12_peace_17 : decode cX12_peace 17 = .ok (.iload_n 1, 1) := by decide +kernel
theorem dX12_peace_18 : decode cX12_peace 18 = .ok (.istore_n 2, 1) := by decide +kernel
theorem dX12_peace_19 : decode cX12_peace 19 = .ok (.iload_n 2, 1) := by decide +kernel
theorem dX12_peace_20 : decode cX12_peace 20 = .ok (.sipush 500, 3) := by decide +kernel
theorem dX12_peace_23 : decode cX12_peace 23 = .ok (.if_icmp .gt 91, 3) := by decide +kernel
theorem dX12_peace_26 : decode cX12_peace 26 = .ok (.aload_n 0, 1) := by decide +kernel
theorem dX12_peace_27 : decode cX12_peace 27 = .ok (.getfield 7, 3) := by decide +kernel
theorem dX12_peace_30 : decode cX12_peace 30 = .ok (.iconst 0, 1) := by decide +kernel
theorem dX12_peace_31 : decode cX12_peace 31 = .ok (.iaload, 1) := by decide +kernel
theorem dX12_peace_32 : decode cX12_peace 32 = .ok (.ifCond .le 7, 3) := by decide +kernel
theorem dX12_peace_35 : decode cX12_peace 35 = .ok (.iconst 1, 1) := by decide +kernel
theorem dX12_peace_36 : decode cX12_peace 36 = .ok (.goto 4, 3) := by decide +kernel
theorem dX12_peace_39 : decode cX12_peace 39 = .ok (.iconst 0, 1) := by decide +kernel
theorem dX12_peace_40 : decode cX12_peace 40 = .ok (.istore_n 3, 1) := by decide +kernel
theorem dX12_peace_41 : decode cX12_peace 41 = .ok (.iconst 0, 1) := by decide +kernel
theorem dX12_peace_42 : decode cX12_peace 42 = .ok (.istore 4, 2) := by decide +kernel
theorem dX12_peace_44 : decode cX12_peace 44 = .ok (.iload 4, 2) := by decide +kernel
theorem dX12_peace_46 : decode cX12_peace 46 = .ok (.aload_n 0, 1) := by decide +kernel
theorem dX12_peace_47 : decode cX12_peace 47 = .ok (.getfield 7, 3) := by decide +kernel
theorem dX12_peace_50 : decode cX12_peace 50 = .ok (.iconst 0, 1) := by decide +kernel
theorem dX12_peace_51 : decode cX12_peace 51 = .ok (.iaload, 1) := by decide +kernel
theorem dX12_peace_52 : decode cX12_peace 52 = .ok (.if_icmp .ge 46, 3) := by decide +kernel
theorem dX12_peace_55 : decode cX12_peace 55 = .ok (.iload_n 3, 1) := by decide +kernel
theorem dX12_peace_56 : decode cX12_peace 56 = .ok (.ifCond .eq 42, 3) := by decide +kernel
theorem dX12_peace_59 : decode cX12_peace 59 = .ok (.aload_n 0, 1) := by decide +kernel
theorem dX12_peace_60 : decode cX12_peace 60 = .ok (.iload 4, 2) := by decide +kernel
theorem dX12_peace_62 : decode cX12_peace 62 = .ok (.iload_n 2, 1) := by decide +kernel
theorem dX12_peace_63 : decode cX12_peace 63 = .ok (.invokevirtual 333, 3) := by decide +kernel
theorem dX12_peace_66 : decode cX12_peace 66 = .ok (.iconst (-1), 1) := by decide +kernel
theorem dX12_peace_67 : decode cX12_peace 67 = .ok (.if_icmp .eq 23, 3) := by decide +kernel
theorem dX12_peace_70 : decode cX12_peace 70 = .ok (.aload_n 0, 1) := by decide +kernel
theorem dX12_peace_71 : decode cX12_peace 71 = .ok (.iload 4, 2) := by decide +kernel
theorem dX12_peace_73 : decode cX12_peace 73 = .ok (.iload_n 2, 1) := by decide +kernel
theorem dX12_peace_74 : decode cX12_peace 74 = .ok (.invokevirtual 333, 3) := by decide +kernel
theorem dX12_peace_77 : decode cX12_peace 77 = .ok (.aload_n 0, 1) := by decide +kernel
theorem dX12_peace_78 : decode cX12_peace 78 = .ok (.iconst 0, 1) := by decide +kernel
theorem dX12_peace_79 : decode cX12_peace 79 = .ok (.iload_n 2, 1) := by decide +kernel
theorem dX12_peace_80 : decode cX12_peace 80 = .ok (.invokevirtual 333, 3) := by decide +kernel
theorem dX12_peace_83 : decode cX12_peace 83 = .ok (.if_icmp .ne 7, 3) := by decide +kernel
theorem dX12_peace_86 : decode cX12_peace 86 = .ok (.iconst 1, 1) := by decide +kernel
theorem dX12_peace_87 : decode cX12_peace 87 = .ok (.goto 4, 3) := by decide +kernel
theorem dX12_peace_90 : decode cX12_peace 90 = .ok (.iconst 0, 1) := by decide +kernel
theorem dX12_peace_91 : decode cX12_peace 91 = .ok (.istore_n 3, 1) := by decide +kernel
theorem dX12_peace_92 : decode cX12_peace 92 = .ok (.iinc 4 1, 3) := by decide +kernel
theorem dX12_peace_95 : decode cX12_peace 95 = .ok (.goto (-51), 3) := by decide +kernel
theorem dX12_peace_98 : decode cX12_peace 98 = .ok (.iload_n 3, 1) := by decide +kernel
theorem dX12_peace_99 : decode cX12_peace 99 = .ok (.ifCond .eq 9, 3) := by decide +kernel
theorem dX12_peace_102 : decode cX12_peace 102 = .ok (.aload_n 0, 1) := by decide +kernel
theorem dX12_peace_103 : decode cX12_peace 103 = .ok (.iload_n 2, 1) := by decide +kernel
theorem dX12_peace_104 : decode cX12_peace 104 = .ok (.invokevirtual 85, 3) := by decide +kernel
theorem dX12_peace_107 : decode cX12_peace 107 = .ok (.ireturn, 1) := by decide +kernel
theorem dX12_peace_108 : decode cX12_peace 108 = .ok (.iinc 2 1, 3) := by decide +kernel
theorem dX12_peace_111 : decode cX12_peace 111 = .ok (.goto (-92), 3) := by decide +kernel
theorem dX12_peace_114 : decode cX12_peace 114 = .ok (.aload_n 0, 1) := by decide +kernel
theorem dX12_peace_115 : decode cX12_peace 115 = .ok (.bipush 6, 2) := by decide +kernel
theorem dX12_peace_117 : decode cX12_peace 117 = .ok (.invokevirtual 81, 3) := by decide +kernel
theorem dX12_peace_120 : decode cX12_peace 120 = .ok (.ireturn, 1) := by decide +kernel
theorem dX12_reign_0 : decode cX12_reign 0 = .ok (.aload_n 0, 1) := by decide +kernel
theorem dX12_reign_1 : decode cX12_reign 1 = .ok (.iload_n 1, 1) := by decide +kernel
theorem dX12_reign_2 : decode cX12_reign 2 = .ok (.invokevirtual 324, 3) := by decide +kernel
theorem dX12_reign_5 : decode cX12_reign 5 = .ok (.ifCond .eq 11, 3) := by decide +kernel
theorem dX12_reign_8 : decode cX12_reign 8 = .ok (.aload_n 0, 1) := by decide +kernel
theorem dX12_reign_9 : decode cX12_reign 9 = .ok (.iload_n 2, 1) := by decide +kernel
theorem dX12_reign_10 : decode cX12_reign 10 = .ok (.invokevirtual 243, 3) := by decide +kernel
theorem dX12_reign_13 : decode cX12_reign 13 = .ok (.ifCond .ne 9, 3) := by decide +kernel
theorem dX12_reign_16 : decode cX12_reign 16 = .ok (.aload_n 0, 1) := by decide +kernel
theorem dX12_reign_17 : decode cX12_reign 17 = .ok (.iconst 1, 1) := by decide +kernel
theorem dX12_reign_18 : decode cX12_reign 18 = .ok (.invokevirtual 81, 3) := by decide +kernel
theorem dX12_reign_21 : decode cX12_reign 21 = .ok (.ireturn, 1) := by decide +kernel
theorem dX12_reign_22 : decode cX12_reign 22 = .ok (.aload_n 0, 1) := by decide +kernel
theorem dX12_reign_23 : decode cX12_reign 23 = .ok (.invokevirtual 330, 3) := by decide +kernel
theorem dX12_reign_26 : decode cX12_reign 26 = .ok (.aload_n 0, 1) := by decide +kernel
theorem dX12_reign_27 : decode cX12_reign 27 = .ok (.aload_n 0, 1) := by decide +kernel
theorem dX12_reign_28 : decode cX12_reign 28 = .ok (.iload_n 1, 1) := by decide +kernel
theorem dX12_reign_29 : decode cX12_reign 29 = .ok (.iload_n 2, 1) := by decide +kernel
theorem dX12_reign_30 : decode cX12_reign 30 = .ok (.invokevirtual 342, 3) := by decide +kernel
theorem dX12_reign_33 : decode cX12_reign 33 = .ok (.invokevirtual 85, 3) := by decide +kernel
theorem dX12_reign_36 : decode cX12_reign 36 = .ok (.ireturn, 1) := by decide +kernel
theorem dX12_ruled_0 : decode cX12_ruled 0 = .ok (.aload_n 0, 1) := by decide +kernel
theorem dX12_ruled_1 : decode cX12_ruled 1 = .ok (.iload_n 1, 1) := by decide +kernel
theorem dX12_ruled_2 : decode cX12_ruled 2 = .ok (.invokevirtual 324, 3) := by decide +kernel
theorem dX12_ruled_5 : decode cX12_ruled 5 = .ok (.ifCond .eq 10, 3) := by decide +kernel
theorem dX12_ruled_8 : decode cX12_ruled 8 = .ok (.iload_n 2, 1) := by decide +kernel
theorem dX12_ruled_9 : decode cX12_ruled 9 = .ok (.invokestatic 258, 3) := by decide +kernel
theorem dX12_ruled_12 : decode cX12_ruled 12 = .ok (.ifCond .ne 9, 3) := by decide +kernel
theorem dX12_ruled_15 : decode cX12_ruled 15 = .ok (.aload_n 0, 1) := by decide +kernel
theorem dX12_ruled_16 : decode cX12_ruled 16 = .ok (.iconst 1, 1) := by decide +kernel
theorem dX12_ruled_17 : decode cX12_ruled 17 = .ok (.invokevirtual 81, 3) := by decide +kernel
theorem dX12_ruled_20 : decode cX12_ruled 20 = .ok (.ireturn, 1) := by decide +kernel
theorem dX12_ruled_21 : decode cX12_ruled 21 = .ok (.aload_n 0, 1) := by decide +kernel
theorem dX12_ruled_22 : decode cX12_ruled 22 = .ok (.invokevirtual 330, 3) := by decide +kernel
theorem dX12_ruled_25 : decode cX12_ruled 25 = .ok (.iconst 0, 1) := by decide +kernel
theorem dX12_ruled_26 : decode cX12_ruled 26 = .ok (.istore_n 3, 1) := by decide +kernel
theorem dX12_ruled_27 : decode cX12_ruled 27 = .ok (.iconst 0, 1) := by decide +kernel
theorem dX12_ruled_28 : decode cX12_ruled 28 = .ok (.istore 4, 2) := by decide +kernel
theorem dX12_ruled_30 : decode cX12_ruled 30 = .ok (.iload 4, 2) := by decide +kernel
theorem dX12_ruled_32 : decode cX12_ruled 32 = .ok (.aload_n 0, 1) := by decide +kernel
theorem dX12_ruled_33 : decode cX12_ruled 33 = .ok (.getfield 7, 3) := by decide +kernel
theorem dX12_ruled_36 : decode cX12_ruled 36 = .ok (.iconst 0, 1) := by decide +kernel
theorem dX12_ruled_37 : decode cX12_ruled 37 = .ok (.iaload, 1) := by decide +kernel
theorem dX12_ruled_38 : decode cX12_ruled 38 = .ok (.if_icmp .ge 31, 3) := by decide +kernel
theorem dX12_ruled_41 : decode cX12_ruled 41 = .ok (.iload_n 3, 1) := by decide +kernel
theorem dX12_ruled_42 : decode cX12_ruled 42 = .ok (.aload_n 0, 1) := by decide +kernel
theorem dX12_ruled_43 : decode cX12_ruled 43 = .ok (.iload 4, 2) := by decide +kernel
theorem dX12_ruled_45 : decode cX12_ruled 45 = .ok (.iload_n 2, 1) := by decide +kernel
theorem dX12_ruled_46 : decode cX12_ruled 46 = .ok (.invokevirtual 333, 3) := by decide +kernel
theorem dX12_ruled_49 : decode cX12_ruled 49 = .ok (.iload_n 1, 1) := by decide +kernel
theorem dX12_ruled_50 : decode cX12_ruled 50 = .ok (.if_icmp .ne 10, 3) := by decide +kernel
theorem dX12_ruled_53 : decode cX12_ruled 53 = .ok (.iconst 1, 1) := by decide +kernel
theorem dX12_ruled_54 : decode cX12_ruled 54 = .ok (.iload 4, 2) := by decide +kernel
theorem dX12_ruled_56 : decode cX12_ruled 56 = .ok (.ishl, 1) := by decide +kernel
theorem dX12_ruled_57 : decode cX12_ruled 57 = .ok (.goto 4, 3) := by decide +kernel
theorem dX12_ruled_60 : decode cX12_ruled 60 = .ok (.iconst 0, 1) := by decide +kernel
theorem dX12_ruled_61 : decode cX12_ruled 61 = .ok (.ior, 1) := by decide +kernel
theorem dX12_ruled_62 : decode cX12_ruled 62 = .ok (.istore_n 3, 1) := by decide +kernel
theorem dX12_ruled_63 : decode cX12_ruled 63 = .ok (.iinc 4 1, 3) := by decide +kernel
theorem dX12_ruled_66 : decode cX12_ruled 66 = .ok (.goto (-36), 3) := by decide +kernel
theorem dX12_ruled_69 : decode cX12_ruled 69 = .ok (.aload_n 0, 1) := by decide +kernel
theorem dX12_ruled_70 : decode cX12_ruled 70 = .ok (.iload_n 3, 1) := by decide +kernel
theorem dX12_ruled_71 : decode cX12_ruled 71 = .ok (.invokevirtual 85, 3) := by decide +kernel
theorem dX12_ruled_74 : decode cX12_ruled 74 = .ok (.ireturn, 1) := by decide +kernel
theorem dX12_rules_0 : decode cX12_rules 0 = .ok (.aload_n 0, 1) := by decide +kernel
theorem dX12_rules_1 : decode cX12_rules 1 = .ok (.iload_n 1, 1) := by decide +kernel
theorem dX12_rules_2 : decode cX12_rules 2 = .ok (.invokevirtual 243, 3) := by decide +kernel
theorem dX12_rules_5 : decode cX12_rules 5 = .ok (.ifCond .eq 10, 3) := by decide +kernel
theorem dX12_rules_8 : decode cX12_rules 8 = .ok (.iload_n 2, 1) := by decide +kernel
theorem dX12_rules_9 : decode cX12_rules 9 = .ok (.invokestatic 258, 3) := by decide +kernel
theorem dX12_rules_12 : decode cX12_rules 12 = .ok (.ifCond .ne 9, 3) := by decide +kernel
theorem dX12_rules_15 : decode cX12_rules 15 = .ok (.aload_n 0, 1) := by decide +kernel
theorem dX12_rules_16 : decode cX12_rules 16 = .ok (.iconst 1, 1) := by decide +kernel
theorem dX12_rules_17 : decode cX12_rules 17 = .ok (.invokevirtual 81, 3) := by decide +kernel
theorem dX12_rules_20 : decode cX12_rules 20 = .ok (.ireturn, 1) := by decide +kernel
theorem dX12_rules_21 : decode cX12_rules 21 = .ok (.aload_n 0, 1) := by decide +kernel
theorem dX12_rules_22 : decode cX12_rules 22 = .ok (.invokevirtual 330, 3) := by decide +kernel
theorem dX12_rules_25 : decode cX12_rules 25 = .ok (.aload_n 0, 1) := by decide +kernel
theorem dX12_rules_26 : decode cX12_rules 26 = .ok (.aload_n 0, 1) := by decide +kernel
theorem dX12_rules_27 : decode cX12_rules 27 = .ok (.iload_n 1, 1) := by decide +kernel
theorem dX12_rules_28 : decode cX12_rules 28 = .ok (.iload_n 2, 1) := by decide +kernel
theorem dX12_rules_29 : decode cX12_rules 29 = .ok (.invokevirtual 333, 3) := by decide +kernel
theorem dX12_rules_32 : decode cX12_rules 32 = .ok (.invokevirtual 290, 3) := by decide +kernel
theorem dX12_rules_35 : decode cX12_rules 35 = .ok (.ireturn, 1) := by decide +kernel
theorem dX12_sure_0 : decode cX12_sure 0 = .ok (.aload_n 0, 1) := by decide +kernel
theorem dX12_sure_1 : decode cX12_sure 1 = .ok (.iload_n 1, 1) := by decide +kernel
theorem dX12_sure_2 : decode cX12_sure 2 = .ok (.invokevirtual 324, 3) := by decide +kernel
theorem dX12_sure_5 : decode cX12_sure 5 = .ok (.ifCond .eq 12, 3) := by decide +kernel
theorem dX12_sure_8 : decode cX12_sure 8 = .ok (.aload_n 0, 1) := by decide +kernel
theorem dX12_sure_9 : decode cX12_sure 9 = .ok (.iload_n 2, 1) := by decide +kernel
theorem dX12_sure_10 : decode cX12_sure 10 = .ok (.iload_n 3, 1) := by decide +kernel
theorem dX12_sure_11 : decode cX12_sure 11 = .ok (.invokevirtual 265, 3) := by decide +kernel
theorem dX12_sure_14 : decode cX12_sure 14 = .ok (.ifCond .ne 9, 3) := by decide +kernel
theorem dX12_sure_17 : decode cX12_sure 17 = .ok (.aload_n 0, 1) := by decide +kernel
theorem dX12_sure_18 : decode cX12_sure 18 = .ok (.iconst 1, 1) := by decide +kernel
theorem dX12_sure_19 : decode cX12_sure 19 = .ok (.invokevirtual 81, 3) := by decide +kernel
theorem dX12_sure_22 : decode cX12_sure 22 = .ok (.ireturn, 1) := by decide +kernel
theorem dX12_sure_23 : decode cX12_sure 23 = .ok (.aload_n 0, 1) := by decide +kernel
theorem dX12_sure_24 : decode cX12_sure 24 = .ok (.iload_n 1, 1) := by decide +kernel
theorem dX12_sure_25 : decode cX12_sure 25 = .ok (.invokevirtual 318, 3) := by decide +kernel
theorem dX12_sure_28 : decode cX12_sure 28 = .ok (.aload_n 0, 1) := by decide +kernel
theorem dX12_sure_29 : decode cX12_sure 29 = .ok (.aload_n 0, 1) := by decide +kernel
theorem dX12_sure_30 : decode cX12_sure 30 = .ok (.getfield 47, 3) := by decide +kernel
theorem dX12_sure_33 : decode cX12_sure 33 = .ok (.iload_n 2, 1) := by decide +kernel
theorem dX12_sure_34 : decode cX12_sure 34 = .ok (.iaload, 1) := by decide +kernel
theorem dX12_sure_35 : decode cX12_sure 35 = .ok (.ldc 88, 2) := by decide +kernel
theorem dX12_sure_37 : decode cX12_sure 37 = .ok (.if_icmp .ne 8, 3) := by decide +kernel
theorem dX12_sure_40 : decode cX12_sure 40 = .ok (.ldc 88, 2) := by decide +kernel
theorem dX12_sure_42 : decode cX12_sure 42 = .ok (.goto 15, 3) := by decide +kernel
theorem dX12_sure_45 : decode cX12_sure 45 = .ok (.aload_n 0, 1) := by decide +kernel
theorem dX12_sure_46 : decode cX12_sure 46 = .ok (.iload_n 2, 1) := by decide +kernel
theorem dX12_sure_47 : decode cX12_sure 47 = .ok (.aload_n 0, 1) := by decide +kernel
theorem dX12_sure_48 : decode cX12_sure 48 = .ok (.getfield 47, 3) := by decide +kernel
theorem dX12_sure_51 : decode cX12_sure 51 = .ok (.iload_n 2, 1) := by decide +kernel
theorem dX12_sure_52 : decode cX12_sure 52 = .ok (.iaload, 1) := by decide +kernel
theorem dX12_sure_53 : decode cX12_sure 53 = .ok (.iload_n 3, 1) := by decide +kernel
theorem dX12_sure_54 : decode cX12_sure 54 = .ok (.invokevirtual 280, 3) := by decide +kernel
theorem dX12_sure_57 : decode cX12_sure 57 = .ok (.invokevirtual 284, 3) := by decide +kernel
theorem dX12_sure_60 : decode cX12_sure 60 = .ok (.ireturn, 1) := by decide +kernel
