theorem qc_X12_givenRow : Cond.code yX12_givenRow cX12_givenRow 1 (some .int) ∈ gw := tbt (tb8 (List.mem_of_getElem? (i := 41) rfl)) rfl
theorem qt_yX12_givenRow : Cond.static yX12_givenRow ∈ gw := tbt (tb8 (List.mem_of_getElem? (i := 40) rfl)) rfl
theorem ci_X12_givenRow : CIs yX12_givenRow cX12_givenRow 1 (some .int) 1 := ⟨qc_X12_givenRow, qt_yX12_givenRow, qz_X12, by decide +kernel⟩
theorem qm_X12_315 : Cond.methodLink RX12 315 yX12_givenRow ∈ gw := tbt (tb8 (List.mem_of_getElem? (i := 39) rfl)) rfl
theorem qf_X12_56 : Cond.fieldLink RX12 56 "SlowWorldsModel" "heardAt" "[I" ∈ gw := tbt (tb6 (List.mem_of_getElem? (i := 71) rfl)) rfl
theorem qc_X12_laysOrder : Cond.code yX12_laysOrder cX12_laysOrder 3 none ∈ gw := tbt (tb8 (List.mem_of_getElem? (i := 57) rfl)) rfl
theorem qi_yX12_laysOrder : Cond.instanceMethod yX12_laysOrder ∈ gw := tbt (tb8 (List.mem_of_getElem? (i := 56) rfl)) rfl
theorem qs_X12_laysOrder : Cond.selects (yX12_laysOrder).cls yX12_laysOrder yX12_laysOrder ∈ gw := tb0 (List.mem_of_getElem? (i := 82) rfl) rfl
theorem ci_X12_laysOrder : CIv yX12_laysOrder cX12_laysOrder 3 none 1 := ⟨qc_X12_laysOrder, qi_yX12_laysOrder, qs_X12_laysOrder, qz_X12, by decide +kernel⟩
theorem qm_X12_318 : Cond.methodLink RX12 318 yX12_laysOrder ∈ gw := tbt (tb8 (List.mem_of_getElem? (i := 54) rfl)) rfl
theorem qc_X12_worth : Cond.code yX12_worth cX12_worth 4 (some .int) ∈ gw := tbt (tb8 (List.mem_of_getElem? (i := 73) rfl)) rfl
theorem qi_yX12_worth : Cond.instanceMethod yX12_worth ∈ gw := tbt (tb8 (List.mem_of_getElem? (i := 72) rfl)) rfl
theorem qs_X12_worth : Cond.selects (yX12_worth).cls yX12_worth yX12_worth ∈ gw := tb0 (List.mem_of_getElem? (i := 85) rfl) rfl
theorem ci_X12_worth : CIv yX12_worth cX12_worth 4 (some .int) 2 := ⟨qc_X12_worth, qi_yX12_worth, qs_X12_worth, qz_X12, by decide +kernel⟩
theorem qm_X12_327 : Cond.methodLink RX12 327 yX12_worth ∈ gw := tbt (tb8 (List.mem_of_getElem? (i := 70) rfl)) rfl
theorem qc_X12_ruling : Cond.code yX12_ruling cX12_ruling 5 (some .int) ∈ gw := tbt (tb8 (List.mem_of_getElem? (i := 69) rfl)) rfl
theorem qi_yX12_ruling : Cond.instanceMethod yX12_ruling ∈ gw := tbt (tb8 (List.mem_of_getElem? (i := 68) rfl)) rfl
theorem qs_X12_ruling : Cond.selects (yX12_ruling).cls yX12_ruling yX12_ruling ∈ gw := tb0 (List.mem_of_getElem? (i := 84) rfl) rfl
theorem ci_X12_ruling : CIv yX12_ruling cX12_ruling 5 (some .int) 2 := ⟨qc_X12_ruling, qi_yX12_ruling, qs_X12_ruling, qz_X12, by decide +kernel⟩
theorem qm_X12_333 : Cond.methodLink RX12 333 yX12_ruling ∈ gw := tbt (tb8 (List.mem_of_getElem? (i := 66) rfl)) rfl
theorem dX12_isOne_0 : decode cX12_isOne 0 = .ok (.iconst (-1), 1) := by decide +kernel
theorem dX12_isOne_1 : decode cX12_isOne 1 = .ok (.istore_n 3, 1) := by decide +kernel
theorem dX12_isOne_2 : decode cX12_isOne 2 = .ok (.iconst 0, 1) := by decide +kernel
theorem dX12_isOne_3 : decode cX12_isOne 3 = .ok (.istore 4, 2) := by decide +kernel
theorem dX12_isOne_5 : decode cX12_isOne 5 = .ok (.iload 4, 2) := by decide +kernel
theorem dX12_isOne_7 : decode cX12_isOne 7 = .ok (.aload_n 0, 1) := by decide +kernel
theorem dX12_isOne_8 : decode cX12_isOne 8 = .ok (.getfield 7, 3) := by decide +kernel
theorem dX12_isOne_11 : decode cX12_isOne 11 = .ok (.iconst 0, 1) := by decide +kernel
theorem dX12_isOne_12 : decode cX12_isOne 12 = .ok (.iaload, 1) := by decide +kernel
theorem dX12_isOne_13 : decode cX12_isOne 13 = .ok (.if_icmp .ge 95, 3) := by decide +kernel
theorem dX12_isOne_16 : decode cX12_isOne 16 = .ok (.aload_n 0, 1) := by decide +kernel
theorem dX12_isOne_17 : decode cX12_isOne 17 = .ok (.getfield 56, 3) := by decide +kernel
theorem dX12_isOne_20 : decode cX12_isOne 20 = .ok (.bipush 6, 2) := by decide +kernel
theorem dX12_isOne_22 : decode cX12_isOne 22 = .ok (.iload_n 1, 1) := by decide +kernel
theorem dX12_isOne_23 : decode cX12_isOne 23 = .ok (.imul, 1) := by decide +kernel
theorem dX12_isOne_24 : decode cX12_isOne 24 = .ok (.iload 4, 2) := by decide +kernel
theorem dX12_isOne_26 : decode cX12_isOne 26 = .ok (.iadd, 1) := by decide +kernel
theorem dX12_isOne_27 : decode cX12_isOne 27 = .ok (.iaload, 1) := by decide +kernel
theorem dX12_isOne_28 : decode cX12_isOne 28 = .ok (.istore 5, 2) := by decide +kernel
theorem dX12_isOne_30 : decode cX12_isOne 30 = .ok (.aload_n 0, 1) := by decide +kernel
theorem dX12_isOne_31 : decode cX12_isOne 31 = .ok (.getfield 56, 3) := by decide +kernel
theorem dX12_isOne_34 : decode cX12_isOne 34 = .ok (.bipush 6, 2) := by decide +kernel
theorem dX12_isOne_36 : decode cX12_isOne 36 = .ok (.iload_n 2, 1) := by decide +kernel
theorem dX12_isOne_37 : decode cX12_isOne 37 = .ok (.imul, 1) := by decide +kernel
theorem dX12_isOne_38 : decode cX12_isOne 38 = .ok (.iload 4, 2) := by decide +kernel
theorem dX12_isOne_40 : decode cX12_isOne 40 = .ok (.iadd, 1) := by decide +kernel
theorem dX12_isOne_41 : decode cX12_isOne 41 = .ok (.iaload, 1) := by decide +kernel
theorem dX12_isOne_42 : decode cX12_isOne 42 = .ok (.istore 6, 2) := by decide +kernel
theorem dX12_isOne_44 : decode cX12_isOne 44 = .ok (.iload 5, 2) := by decide +kernel
theorem dX12_isOne_46 : decode cX12_isOne 46 = .ok (.ldc 88, 2) := by decide +kernel
theorem dX12_isOne_48 : decode cX12_isOne 48 = .ok (.if_icmp .eq 54, 3) := by decide +kernel
theorem dX12_isOne_51 : decode cX12_isOne 51 = .ok (.iload 6, 2) := by decide +kernel
theorem dX12_isOne_53 : decode cX12_isOne 53 = .ok (.ldc 88, 2) := by decide +kernel
theorem dX12_isOne_55 : decode cX12_isOne 55 = .ok (.if_icmp .ne 6, 3) := by decide +kernel
theorem dX12_isOne_58 : decode cX12_isOne 58 = .ok (.goto 44, 3) := by decide +kernel
theorem dX12_isOne_61 : decode cX12_isOne 61 = .ok (.iload 5, 2) := by decide +kernel
theorem dX12_isOne_63 : decode cX12_isOne 63 = .ok (.iload 6, 2) := by decide +kernel
theorem dX12_isOne_65 : decode cX12_isOne 65 = .ok (.if_icmp .ge 7, 3) := by decide +kernel
theorem dX12_isOne_68 : decode cX12_isOne 68 = .ok (.iconst 0, 1) := by decide +kernel
theorem dX12_isOne_69 : decode cX12_isOne 69 = .ok (.goto 15, 3) := by decide +kernel
theorem dX12_isOne_72 : decode cX12_isOne 72 = .ok (.iload 5, 2) := by decide +kernel
theorem dX12_isOne_74 : decode cX12_isOne 74 = .ok (.iload 6, 2) := by decide +kernel
theorem dX12_isOne_76 : decode cX12_isOne 76 = .ok (.if_icmp .le 7, 3) := by decide +kernel
theorem dX12_isOne_79 : decode cX12_isOne 79 = .ok (.iconst 1, 1) := by decide +kernel
theorem dX12_isOne_80 : decode cX12_isOne 80 = .ok (.goto 4, 3) := by decide +kernel
theorem dX12_isOne_83 : decode cX12_isOne 83 = .ok (.iconst 2, 1) := by decide +kernel
theorem dX12_isOne_84 : decode cX12_isOne 84 = .ok (.istore 7, 2) := by decide +kernel
theorem dX12_isOne_86 : decode cX12_isOne 86 = .ok (.iload_n 3, 1) := by decide +kernel
theorem dX12_isOne_87 : decode cX12_isOne 87 = .ok (.iconst (-1), 1) := by decide +kernel
theorem dX12_isOne_88 : decode cX12_isOne 88 = .ok (.if_icmp .eq 11, 3) := by decide +kernel
theorem dX12_isOne_91 : decode cX12_isOne 91 = .ok (.iload_n 3, 1) := by decide +kernel
theorem dX12_isOne_92 : decode cX12_isOne 92 = .ok (.iload 7, 2) := by decide +kernel
theorem dX12_isOne_94 : decode cX12_isOne 94 = .ok (.if_icmp .eq 5, 3) := by decide +kernel
theorem dX12_isOne_97 : decode cX12_isOne 97 = .ok (.iconst 0, 1) := by decide +kernel
theorem dX12_isOne_98 : decode cX12_isOne 98 = .ok (.ireturn, 1) := by decide +kernel
theorem dX12_isOne_99 : decode cX12_isOne 99 = .ok (.iload 7, 2) := by decide +kernel
theorem dX12_isOne_101 : decode cX12_isOne 101 = .ok (.istore_n 3, 1) := by decide +kernel
theorem dX12_isOne_102 : decode cX12_isOne 102 = .ok (.iinc 4 1, 3) := by decide +kernel
theorem dX12_isOne_105 : decode cX12_isOne 105 = .ok (.goto (-100), 3) := by decide +kernel
theorem dX12_isOne_108 : decode cX12_isOne 108 = .ok (.iconst 1, 1) := by decide +kernel
theorem dX12_isOne_109 : decode cX12_isOne 109 = .ok (.ireturn, 1) := by decide +kernel
theorem dX12_isSetOf_0 : decode cX12_isSetOf 0 = .ok (.iload_n 1, 1) := by decide +kernel
theorem dX12_isSetOf_1 : decode cX12_isSetOf 1 = .ok (.ifCond .le 19, 3) := by decide +kernel
theorem dX12_isSetOf_4 : decode cX12_isSetOf 4 = .ok (.iload_n 1, 1) := by decide +kernel
theorem dX12_isSetOf_5 : decode cX12_isSetOf 5 = .ok (.iconst 1, 1) := by decide +kernel
theorem dX12_isSetOf_6 : decode cX12_isSetOf 6 = .ok (.aload_n 0, 1) := by decide +kernel
theorem dX12_isSetOf_7 : decode cX12_isSetOf 7 = .ok (.getfield 7, 3) := by decide +kernel
theorem dX12_isSetOf_10 : decode cX12_isSetOf 10 = .ok (.iconst 0, 1) := by decide +kernel
theorem dX12_isSetOf_11 : decode cX12_isSetOf 11 = .ok (.iaload, 1) := by decide +kernel
theorem dX12_isSetOf_12 : decode cX12_isSetOf 12 = .ok (.ishl, 1) := by decide +kernel
theorem dX12_isSetOf_13 : decode cX12_isSetOf 13 = .ok (.if_icmp .ge 7, 3) := by decide +kernel
theorem dX12_isSetOf_16 : decode cX12_isSetOf 16 = .ok (.iconst 1, 1) := by decide +kernel
theorem dX12_isSetOf_17 : decode cX12_isSetOf 17 = .ok (.goto 4, 3) := by decide +kernel
theorem dX12_isSetOf_20 : decode cX12_isSetOf 20 = .ok (.iconst 0, 1) := by decide +kernel
theorem dX12_isSetOf_21 : decode cX12_isSetOf 21 = .ok (.ireturn, 1) := by decide +kernel
theorem dX12_laysOrder_0 : decode cX12_laysOrder 0 = .ok (.aload_n 0, 1) := by decide +kernel
theorem dX12_laysOrder_1 : decode cX12_laysOrder 1 = .ok (.aload_n 0, 1) := by decide +kernel
theorem dX12_laysOrder_2 : decode cX12_laysOrder 2 = .ok (.getfield 7, 3) := by decide +kernel
theorem dX12_laysOrder_5 : decode cX12_laysOrder 5 = .ok (.iload_n 1, 1) := by decide +kernel
theorem dX12_laysOrder_6 : decode cX12_laysOrder 6 = .ok (.invokestatic 315, 3) := by decide +kernel
theorem dX12_laysOrder_9 : decode cX12_laysOrder 9 = .ok (.iaload, 1) := by decide +kernel
theorem dX12_laysOrder_10 : decode cX12_laysOrder 10 = .ok (.aload_n 0, 1) := by decide +kernel
theorem dX12_laysOrder_11 : decode cX12_laysOrder 11 = .ok (.getfield 7, 3) := by decide +kernel
theorem dX12_laysOrder_14 : decode cX12_laysOrder 14 = .ok (.iload_n 1, 1) := by decide +kernel
theorem dX12_laysOrder_15 : decode cX12_laysOrder 15 = .ok (.invokestatic 315, 3) := by decide +kernel
theorem dX12_laysOrder_18 : decode cX12_laysOrder 18 = .ok (.iconst 1, 1) := by decide +kernel
theorem dX12_laysOrder_19 : decode cX12_laysOrder 19 = .ok (.iadd, 1) := by decide +kernel
theorem dX12_laysOrder_20 : decode cX12_laysOrder 20 = .ok (.iaload, 1) := by decide +kernel
theorem dX12_laysOrder_21 : decode cX12_laysOrder 21 = .ok (.invokevirtual 302, 3) := by decide +kernel
theorem dX12_laysOrder_24 : decode cX12_laysOrder 24 = .ok (.iconst 0, 1) := by decide +kernel
theorem dX12_laysOrder_25 : decode cX12_laysOrder 25 = .ok (.istore_n 2, 1) := by decide +kernel
theorem dX12_laysOrder_26 : decode cX12_laysOrder 26 = .ok (.iload_n 2, 1) := by decide +kernel
theorem dX12_laysOrder_27 : decode cX12_laysOrder 27 = .ok (.bipush 6, 2) := by decide +kernel
theorem dX12_laysOrder_29 : decode cX12_laysOrder 29 = .ok (.if_icmp .ge 26, 3) := by decide +kernel
theorem dX12_laysOrder_32 : decode cX12_laysOrder 32 = .ok (.aload_n 0, 1) := by decide +kernel
theorem dX12_laysOrder_33 : decode cX12_laysOrder 33 = .ok (.getfield 56, 3) := by decide +kernel
theorem dX12_laysOrder_36 : decode cX12_laysOrder 36 = .ok (.bipush 6, 2) := by decide +kernel
theorem dX12_laysOrder_38 : decode cX12_laysOrder 38 = .ok (.iload_n 1, 1) := by decide +kernel
theorem dX12_laysOrder_39 : decode cX12_laysOrder 39 = .ok (.imul, 1) := by decide +kernel
theorem dX12_laysOrder_40 : decode cX12_laysOrder 40 = .ok (.iload_n 2, 1) := by decide +kernel
theorem dX12_laysOrder_41 : decode cX12_laysOrder 41 = .ok (.iadd, 1) := by decide +kernel
theorem dX12_laysOrder_42 : decode cX12_laysOrder 42 = .ok (.aload_n 0, 1) := by decide +kernel
theorem dX12_laysOrder_43 : decode cX12_laysOrder 43 = .ok (.getfield 47, 3) := by decide +kernel
theorem dX12_laysOrder_46 : decode cX12_laysOrder 46 = .ok (.iload_n 2, 1) := by decide +kernel
theorem dX12_laysOrder_47 : decode cX12_laysOrder 47 = .ok (.iaload, 1) := by decide +kernel
theorem dX12_laysOrder_48 : decode cX12_laysOrder 48 = .ok (.iastore, 1) := by decide +kernel
theorem dX12_laysOrder_49 : decode cX12_laysOrder 49 = .ok (.iinc 2 1, 3) := by decide +kernel
theorem dX12_laysOrder_52 : decode cX12_laysOrder 52 = .ok (.goto (-26), 3) := by decide +kernel
theorem dX12_laysOrder_55 : decode cX12_laysOrder 55 = .ok (.return_, 1) := by decide +kernel
theorem dX12_laysOrders_0 : decode cX12_laysOrders 0 = .ok (.iconst 0, 1) := by decide +kernel
theorem dX12_laysOrders_1 : decode cX12_laysOrders 1 = .ok (.istore_n 1, 1) := by decide +kernel
theorem dX12_laysOrders_2 : decode cX12_laysOrders 2 = .ok (.iload_n 1, 1) := by decide +kernel
theorem dX12_laysOrders_3 : decode cX12_laysOrders 3 = .ok (.aload_n 0, 1) := by decide +kernel
theorem dX12_laysOrders_4 : decode cX12_laysOrders 4 = .ok (.getfield 7, 3) := by decide +kernel
theorem dX12_laysOrders_7 : decode cX12_laysOrders 7 = .ok (.iconst 4, 1) := by decide +kernel
theorem dX12_laysOrders_8 : decode cX12_laysOrders 8 = .ok (.iaload, 1) := by decide +kernel
theorem dX12_laysOrders_9 : decode cX12_laysOrders 9 = .ok (.if_icmp .ge 14, 3) := by decide +kernel
theorem dX12_laysOrders_12 : decode cX12_laysOrders 12 = .ok (.aload_n 0, 1) := by decide +kernel
theorem dX12_laysOrders_13 : decode cX12_laysOrders 13 = .ok (.iload_n 1, 1) := by decide +kernel
theorem dX12_laysOrders_14 : decode cX12_laysOrders 14 = .ok (.invokevirtual 318, 3) := by decide +kernel
theorem dX12_laysOrders_17 : decode cX12_laysOrders 17 = .ok (.iinc 1 1, 3) := by decide +kernel
theorem dX12_laysOrders_20 : decode cX12_laysOrders 20 = .ok (.goto (-18), 3) := by decide +kernel
theorem dX12_laysOrders_23 : decode cX12_laysOrders 23 = .ok (.return_, 1) := by decide +kernel
theorem dX12_reignOf_0 : decode cX12_reignOf 0 = .ok (.iconst 0, 1) := by decide +kernel
theorem dX12_reignOf_1 : decode cX12_reignOf 1 = .ok (.istore_n 3, 1) := by decide +kernel
theorem dX12_reignOf_2 : decode cX12_reignOf 2 = .ok (.iconst 0, 1) := by decide +kernel
theorem dX12_reignOf_3 : decode cX12_reignOf 3 = .ok (.istore 4, 2) := by decide +kernel
theorem dX12_reignOf_5 : decode cX12_reignOf 5 = .ok (.iload 4, 2) := by decide +kernel
theorem dX12_reignOf_7 : decode cX12_reignOf 7 = .ok (.sipush 500, 3) := by decide +kernel
theorem dX12_reignOf_10 : decode cX12_reignOf 10 = .ok (.if_icmp .gt 28, 3) := by decide +kernel
theorem dX12_reignOf_13 : decode cX12_reignOf 13 = .ok (.iload_n 3, 1) := by decide +kernel
theorem dX12_reignOf_14 : decode cX12_reignOf 14 = .ok (.aload_n 0, 1) := by decide +kernel
theorem dX12_reignOf_15 : decode cX12_reignOf 15 = .ok (.iload_n 2, 1) := by decide +kernel
theorem dX12_reignOf_16 : decode cX12_reignOf 16 = .ok (.iload 4, 2) := by decide +kernel
theorem dX12_reignOf_18 : decode cX12_reignOf 18 = .ok (.invokevirtual 333, 3) := by decide +kernel
theorem dX12_reignOf_21 : decode cX12_reignOf 21 = .ok (.iload_n 1, 1) := by decide +kernel
theorem dX12_reignOf_22 : decode cX12_reignOf 22 = .ok (.if_icmp .ne 7, 3) := by decide +kernel
theorem dX12_reignOf_25 : decode cX12_reignOf 25 = .ok (.iconst 1, 1) := by decide +kernel
theorem dX12_reignOf_26 : decode cX12_reignOf 26 = .ok (.goto 4, 3) := by decide +kernel
theorem dX12_reignOf_29 : decode cX12_reignOf 29 = .ok (.iconst 0, 1) := by decide +kernel
theorem dX12_reignOf_30 : decode cX12_reignOf 30 = .ok (.iadd, 1) := by decide +kernel
theorem dX12_reignOf_31 : decode cX12_reignOf 31 = .ok (.istore_n 3, 1) := by decide +kernel
theorem dX12_reignOf_32 : decode cX12_reignOf 32 = .ok (.iinc 4 1, 3) := by decide +kernel
theorem dX12_reignOf_35 : decode cX12_reignOf 35 = .ok (.goto (-30), 3) := by decide +kernel
theorem dX12_reignOf_38 : decode cX12_reignOf 38 = .ok (.iload_n 3, 1) := by decide +kernel
theorem dX12_reignOf_39 : decode cX12_reignOf 39 = .ok (.ireturn, 1) := by decide +kernel
theorem dX12_ruling_0 : decode cX12_ruling 0 = .ok (.iconst (-1), 1) := by decide +kernel
theorem dX12_ruling_1 : decode cX12_ruling 1 = .ok (.istore_n 3, 1) := by decide +kernel
theorem dX12_ruling_2 : decode cX12_ruling 2 = .ok (.iconst 0, 1) := by decide +kernel
theorem dX12_ruling_3 : decode cX12_ruling 3 = .ok (.istore 4, 2) := by decide +kernel
theorem dX12_ruling_5 : decode cX12_ruling 5 = .ok (.iload 4, 2) := by decide +kernel
theorem dX12_ruling_7 : decode cX12_ruling 7 = .ok (.aload_n 0, 1) := by decide +kernel
theorem dX12_ruling_8 : decode cX12_ruling 8 = .ok (.getfield 7, 3) := by decide +kernel
theorem dX12_ruling_11 : decode cX12_ruling 11 = .ok (.iconst 4, 1) := by decide +kernel
theorem dX12_ruling_12 : decode cX12_ruling 12 = .ok (.iaload, 1) := by decide +kernel
theorem dX12_ruling_13 : decode cX12_ruling 13 = .ok (.if_icmp .ge 49, 3) := by decide +kernel
theorem dX12_ruling_16 : decode cX12_ruling 16 = .ok (.aload_n 0, 1) := by decide +kernel
theorem dX12_ruling_17 : decode cX12_ruling 17 = .ok (.getfield 56, 3) := by decide +kernel
theorem dX12_ruling_20 : decode cX12_ruling 20 = .ok (.bipush 6, 2) := by decide +kernel
theorem dX12_ruling_22 : decode cX12_ruling 22 = .ok (.iload 4, 2) := by decide +kernel
theorem dX12_ruling_24 : decode cX12_ruling 24 = .ok (.imul, 1) := by decide +kernel
theorem dX12_ruling_25 : decode cX12_ruling 25 = .ok (.iload_n 1, 1) := by decide +kernel
theorem dX12_ruling_26 : decode cX12_ruling 26 = .ok (.iadd, 1) := by decide +kernel
theorem dX12_ruling_27 : decode cX12_ruling 27 = .ok (.iaload, 1) := by decide +kernel
theorem dX12_ruling_28 : decode cX12_ruling 28 = .ok (.iload_n 2, 1) := by decide +kernel
theorem dX12_ruling_29 : decode cX12_ruling 29 = .ok (.if_icmp .gt 27, 3) := by decide +kernel
theorem dX12_ruling_32 : decode cX12_ruling 32 = .ok (.iload_n 3, 1) := by decide +kernel
theorem dX12_ruling_33 : decode cX12_ruling 33 = .ok (.iconst (-1), 1) := by decide +kernel
theorem dX12_ruling_34 : decode cX12_ruling 34 = .ok (.if_icmp .eq 19, 3) := by decide +kernel
theorem dX12_ruling_37 : decode cX12_ruling 37 = .ok (.aload_n 0, 1) := by decide +kernel
theorem dX12_ruling_38 : decode cX12_ruling 38 = .ok (.iload 4, 2) := by decide +kernel
theorem dX12_ruling_40 : decode cX12_ruling 40 = .ok (.iload_n 1, 1) := by decide +kernel
theorem dX12_ruling_41 : decode cX12_ruling 41 = .ok (.invokevirtual 327, 3) := by decide +kernel
theorem dX12_ruling_44 : decode cX12_ruling 44 = .ok (.aload_n 0, 1) := by decide +kernel
theorem dX12_ruling_45 : decode cX12_ruling 45 = .ok (.iload_n 3, 1) := by decide +kernel
theorem dX12_ruling_46 : decode cX12_ruling 46 = .ok (.iload_n 1, 1) := by decide +kernel
theorem dX12_ruling_47 : decode cX12_ruling 47 = .ok (.invokevirtual 327, 3) := by decide +kernel
theorem dX12_ruling_50 : decode cX12_ruling 50 = .ok (.if_icmp .ge 6, 3) := by decide +kernel
theorem dX12_ruling_53 : decode cX12_ruling 53 = .ok (.iload 4, 2) := by decide +kernel
theorem dX12_ruling_55 : decode cX12_ruling 55 = .ok (.istore_n 3, 1) := by decide +kernel
theorem dX12_ruling_56 : decode cX12_ruling 56 = .ok (.iinc 4 1, 3) := by decide +kernel
theorem dX12_ruling_59 : decode cX12_ruling 59 = .ok (.goto (-54), 3) := by decide +kernel
theorem dX12_ruling_62 : decode cX12_ruling 62 = .ok (.iload_n 3, 1) := by decide +kernel
theorem dX12_ruling_63 : decode cX12_ruling 63 = .ok (.ireturn, 1) := by decide +kernel
theorem dX12_worth_0 : decode cX12_worth 0 = .ok (.aload_n 0, 1) := by decide +kernel
theorem dX12_worth_1 : decode cX12_worth 1 = .ok (.getfield 7, 3) := by decide +kernel
theorem dX12_worth_4 : decode cX12_worth 4 = .ok (.iconst 2, 1) := by decide +kernel
theorem dX12_worth_5 : decode cX12_worth 5 = .ok (.iaload, 1) := by decide +kernel
theorem dX12_worth_6 : decode cX12_worth 6 = .ok (.istore_n 3, 1) := by decide +kernel
theorem dX12_worth_7 : decode cX12_worth 7 = .ok (.iload_n 3, 1) := by decide +kernel
theorem dX12_worth_8 : decode cX12_worth 8 = .ok (.ifCond .ne 17, 3) := by decide +kernel
theorem dX12_worth_11 : decode cX12_worth 11 = .ok (.aload_n 0, 1) := by decide +kernel
theorem dX12_worth_12 : decode cX12_worth 12 = .ok (.getfield 56, 3) := by decide +kernel
theorem dX12_worth_15 : decode cX12_worth 15 = .ok (.bipush 6, 2) := by decide +kernel
theorem dX12_worth_17 : decode cX12_worth 17 = .ok (.iload_n 1, 1) := by decide +kernel
theorem dX12_worth_18 : decode cX12_worth 18 = .ok (.imul, 1) := by decide +kernel
theorem dX12_worth_19 : decode cX12_worth 19 = .ok (.iload_n 2, 1) := by decide +kernel
theorem dX12_worth_20 : decode cX12_worth 20 = .ok (.iadd, 1) := by decide +kernel
theorem dX12_worth_21 : decode cX12_worth 21 = .ok (.iaload, 1) := by decide +kernel
theorem dX12_worth_22 : decode cX12_worth 22 = .ok (.goto 62, 3) := by decide +kernel
theorem dX12_worth_25 : decode cX12_worth 25 = .ok (.iload_n 3, 1) := by decide +kernel
theorem dX12_worth_26 : decode cX12_worth 26 = .ok (.iconst 1, 1) := by decide +kernel
theorem dX12_worth_27 : decode cX12_worth 27 = .ok (.if_icmp .ne 18, 3) := by decide +kernel
theorem dX12_worth_30 : decode cX12_worth 30 = .ok (.aload_n 0, 1) := by decide +kernel
theorem dX12_worth_31 : decode cX12_worth 31 = .ok (.getfield 56, 3) := by decide +kernel
theorem dX12_worth_34 : decode cX12_worth 34 = .ok (.bipush 6, 2) := by decide +kernel
theorem dX12_worth_36 : decode cX12_worth 36 = .ok (.iload_n 1, 1) := by decide +kernel
theorem dX12_worth_37 : decode cX12_worth 37 = .ok (.imul, 1) := by decide +kernel
theorem dX12_worth_38 : decode cX12_worth 38 = .ok (.iload_n 2, 1) := by decide +kernel
theorem dX12_worth_39 : decode cX12_worth 39 = .ok (.iadd, 1) := by decide +kernel
theorem dX12_worth_40 : decode cX12_worth 40 = .ok (.iaload, 1) := by decide +kernel
theorem dX12_worth_41 : decode cX12_worth 41 = .ok (.ineg, 1) := by decide +kernel
theorem dX12_worth_42 : decode cX12_worth 42 = .ok (.goto 42, 3) := by decide +kernel
theorem dX12_worth_45 : decode cX12_worth 45 = .ok (.iload_n 3, 1) := by decide +kernel
theorem dX12_worth_46 : decode cX12_worth 46 = .ok (.iconst 2, 1) := by decide +kernel
theorem dX12_worth_47 : decode cX12_worth 47 = .ok (.if_icmp .ne 26, 3) := by decide +kernel
theorem dX12_worth_50 : decode cX12_worth 50 = .ok (.aload_n 0, 1) := by decide +kernel
theorem dX12_worth_51 : decode cX12_worth 51 = .ok (.getfield 7, 3) := by decide +kernel
theorem dX12_worth_54 : decode cX12_worth 54 = .ok (.aload_n 0, 1) := by decide +kernel
theorem dX12_worth_55 : decode cX12_worth 55 = .ok (.getfield 7, 3) := by decide +kernel
theorem dX12_worth_58 : decode cX12_worth 58 = .ok (.iload_n 1, 1) := by decide +kernel
theorem dX12_worth_59 : decode cX12_worth 59 = .ok (.invokestatic 315, 3) := by decide +kernel
theorem dX12_worth_62 : decode cX12_worth 62 = .ok (.iaload, 1) := by decide +kernel
theorem dX12_worth_63 : decode cX12_worth 63 = .ok (.invokestatic 246, 3) := by decide +kernel
theorem dX12_worth_66 : decode cX12_worth 66 = .ok (.iconst 3, 1) := by decide +kernel
theorem dX12_worth_67 : decode cX12_worth 67 = .ok (.iadd, 1) := by decide +kernel
theorem dX12_worth_68 : decode cX12_worth 68 = .ok (.iaload, 1) := by decide +kernel
theorem dX12_worth_69 : decode cX12_worth 69 = .ok (.ineg, 1) := by decide +kernel
theorem dX12_worth_70 : decode cX12_worth 70 = .ok (.goto 14, 3) := by decide +kernel
theorem dX12_worth_73 : decode cX12_worth 73 = .ok (.aload_n 0, 1) := by decide +kernel
theorem dX12_worth_74 : decode cX12_worth 74 = .ok (.getfield 7, 3) := by decide +kernel
theorem dX12_worth_77 : decode cX12_worth 77 = .ok (.iload_n 1, 1) := by decide +kernel
theorem dX12_worth_78 : decode cX12_worth 78 = .ok (.invokestatic 315, 3) := by decide +kernel
theorem dX12_worth_81 : decode cX12_worth 81 = .ok (.iconst 1, 1) := by decide +kernel
theorem dX12_worth_82 : decode cX12_worth 82 = .ok (.iadd, 1) := by decide +kernel
theorem dX12_worth_83 : decode cX12_worth 83 = .ok (.iaload, 1) := by decide +kernel
theorem dX12_worth_84 : decode cX12_worth 84 = .ok (.ireturn, 1) := by decide +kernel
