theorem qk_X12_369 : Cond.constantLong RX12 369 (99) ∈ gw := tbt (tb8 (List.mem_of_getElem? (i := 191) rfl)) rfl
theorem qc_X12_goes : Cond.code yX12_goes cX12_goes 7 (some .boolean) ∈ gw := tbt (tb8 (List.mem_of_getElem? (i := 195) rfl)) rfl
theorem qi_yX12_goes : Cond.instanceMethod yX12_goes ∈ gw := tbt (tb8 (List.mem_of_getElem? (i := 194) rfl)) rfl
theorem qs_X12_goes : Cond.selects (yX12_goes).cls yX12_goes yX12_goes ∈ gw := tb0 (List.mem_of_getElem? (i := 94) rfl) rfl
theorem ci_X12_goes : CIv yX12_goes cX12_goes 7 (some .boolean) 0 := ⟨qc_X12_goes, qi_yX12_goes, qs_X12_goes, qz_X12, by decide +kernel⟩
theorem qm_X12_371 : Cond.methodLink RX12 371 yX12_goes ∈ gw := tbt (tb8 (List.mem_of_getElem? (i := 192) rfl)) rfl
theorem qc_X12_wears : Cond.code yX12_wears cX12_wears 3 none ∈ gw := tbt (tb8 (List.mem_of_getElem? (i := 215) rfl)) rfl
theorem qi_yX12_wears : Cond.instanceMethod yX12_wears ∈ gw := tbt (tb8 (List.mem_of_getElem? (i := 214) rfl)) rfl
theorem qs_X12_wears : Cond.selects (yX12_wears).cls yX12_wears yX12_wears ∈ gw := tb0 (List.mem_of_getElem? (i := 97) rfl) rfl
theorem ci_X12_wears : CIv yX12_wears cX12_wears 3 none 2 := ⟨qc_X12_wears, qi_yX12_wears, qs_X12_wears, qz_X12, by decide +kernel⟩
theorem qm_X12_374 : Cond.methodLink RX12 374 yX12_wears ∈ gw := tbt (tb8 (List.mem_of_getElem? (i := 212) rfl)) rfl
theorem qc_X12_followsOf : Cond.code yX12_followsOf cX12_followsOf 5 (some .int) ∈ gw := tbt (tb8 (List.mem_of_getElem? (i := 227) rfl)) rfl
theorem qi_yX12_followsOf : Cond.instanceMethod yX12_followsOf ∈ gw := tbt (tb8 (List.mem_of_getElem? (i := 226) rfl)) rfl
theorem qs_X12_followsOf : Cond.selects (yX12_followsOf).cls yX12_followsOf yX12_followsOf ∈ gw := tb0 (List.mem_of_getElem? (i := 98) rfl) rfl
theorem ci_X12_followsOf : CIv yX12_followsOf cX12_followsOf 5 (some .int) 2 := ⟨qc_X12_followsOf, qi_yX12_followsOf, qs_X12_followsOf, qz_X12, by decide +kernel⟩
theorem qm_X12_377 : Cond.methodLink RX12 377 yX12_followsOf ∈ gw := tbt (tb8 (List.mem_of_getElem? (i := 224) rfl)) rfl
theorem qc_X12_orders : Cond.code yX12_orders cX12_orders 2 (some .boolean) ∈ gw := tbt (tb8 (List.mem_of_getElem? (i := 38) rfl)) rfl
theorem qi_yX12_orders : Cond.instanceMethod yX12_orders ∈ gw := tbt (tb8 (List.mem_of_getElem? (i := 37) rfl)) rfl
theorem qs_X12_orders : Cond.selects (yX12_orders).cls yX12_orders yX12_orders ∈ gw := tb0 (List.mem_of_getElem? (i := 80) rfl) rfl
theorem ci_X12_orders : CIv yX12_orders cX12_orders 2 (some .boolean) 1 := ⟨qc_X12_orders, qi_yX12_orders, qs_X12_orders, qz_X12, by decide +kernel⟩
theorem qm_X12_321 : Cond.methodLink RX12 321 yX12_orders ∈ gw := tbt (tb8 (List.mem_of_getElem? (i := 35) rfl)) rfl
theorem dX12_changes_0 : decode cX12_changes 0 = .ok (.aload_n 0, 1) := by decide +kernel
theorem dX12_changes_1 : decode cX12_changes 1 = .ok (.iload_n 1, 1) := by decide +kernel
theorem dX12_changes_2 : decode cX12_changes 2 = .ok (.invokevirtual 243, 3) := by decide +kernel
theorem dX12_changes_5 : decode cX12_changes 5 = .ok (.ifCond .ne 9, 3) := by decide +kernel
theorem dX12_changes_8 : decode cX12_changes 8 = .ok (.aload_n 0, 1) := by decide +kernel
theorem dX12_changes_9 : decode cX12_changes 9 = .ok (.iconst 1, 1) := by decide +kernel
theorem dX12_changes_10 : decode cX12_changes 10 = .ok (.invokevirtual 81, 3) := by decide +kernel
theorem dX12_changes_13 : decode cX12_changes 13 = .ok (.ireturn, 1) := by decide +kernel
theorem dX12_changes_14 : decode cX12_changes 14 = .ok (.iconst 0, 1) := by decide +kernel
theorem dX12_changes_15 : decode cX12_changes 15 = .ok (.istore_n 2, 1) := by decide +kernel
theorem dX12_changes_16 : decode cX12_changes 16 = .ok (.iconst 1, 1) := by decide +kernel
theorem dX12_changes_17 : decode cX12_changes 17 = .ok (.istore_n 3, 1) := by decide +kernel
theorem dX12_changes_18 : decode cX12_changes 18 = .ok (.iload_n 3, 1) := by decide +kernel
theorem dX12_changes_19 : decode cX12_changes 19 = .ok (.aload_n 0, 1) := by decide +kernel
theorem dX12_changes_20 : decode cX12_changes 20 = .ok (.getfield 7, 3) := by decide +kernel
theorem dX12_changes_23 : decode cX12_changes 23 = .ok (.iconst 3, 1) := by decide +kernel
theorem dX12_changes_24 : decode cX12_changes 24 = .ok (.iaload, 1) := by decide +kernel
theorem dX12_changes_25 : decode cX12_changes 25 = .ok (.if_icmp .gt 34, 3) := by decide +kernel
theorem dX12_changes_28 : decode cX12_changes 28 = .ok (.iload_n 2, 1) := by decide +kernel
theorem dX12_changes_29 : decode cX12_changes 29 = .ok (.aload_n 0, 1) := by decide +kernel
theorem dX12_changes_30 : decode cX12_changes 30 = .ok (.iload_n 1, 1) := by decide +kernel
theorem dX12_changes_31 : decode cX12_changes 31 = .ok (.iload_n 3, 1) := by decide +kernel
theorem dX12_changes_32 : decode cX12_changes 32 = .ok (.invokevirtual 363, 3) := by decide +kernel
theorem dX12_changes_35 : decode cX12_changes 35 = .ok (.aload_n 0, 1) := by decide +kernel
theorem dX12_changes_36 : decode cX12_changes 36 = .ok (.iload_n 1, 1) := by decide +kernel
theorem dX12_changes_37 : decode cX12_changes 37 = .ok (.iload_n 3, 1) := by decide +kernel
theorem dX12_changes_38 : decode cX12_changes 38 = .ok (.iconst 1, 1) := by decide +kernel
theorem dX12_changes_39 : decode cX12_changes 39 = .ok (.isub, 1) := by decide +kernel
theorem dX12_changes_40 : decode cX12_changes 40 = .ok (.invokevirtual 363, 3) := by decide +kernel
theorem dX12_changes_43 : decode cX12_changes 43 = .ok (.if_icmp .ne 7, 3) := by decide +kernel
theorem dX12_changes_46 : decode cX12_changes 46 = .ok (.iconst 0, 1) := by decide +kernel
theorem dX12_changes_47 : decode cX12_changes 47 = .ok (.goto 4, 3) := by decide +kernel
theorem dX12_changes_50 : decode cX12_changes 50 = .ok (.iconst 1, 1) := by decide +kernel
theorem dX12_changes_51 : decode cX12_changes 51 = .ok (.iadd, 1) := by decide +kernel
theorem dX12_changes_52 : decode cX12_changes 52 = .ok (.istore_n 2, 1) := by decide +kernel
theorem dX12_changes_53 : decode cX12_changes 53 = .ok (.iinc 3 1, 3) := by decide +kernel
theorem dX12_changes_56 : decode cX12_changes 56 = .ok (.goto (-38), 3) := by decide +kernel
theorem dX12_changes_59 : decode cX12_changes 59 = .ok (.aload_n 0, 1) := by decide +kernel
theorem dX12_changes_60 : decode cX12_changes 60 = .ok (.iload_n 2, 1) := by decide +kernel
theorem dX12_changes_61 : decode cX12_changes 61 = .ok (.invokevirtual 85, 3) := by decide +kernel
theorem dX12_changes_64 : decode cX12_changes 64 = .ok (.ireturn, 1) := by decide +kernel
theorem dX12_fashion_0 : decode cX12_fashion 0 = .ok (.aload_n 0, 1) := by decide +kernel
theorem dX12_fashion_1 : decode cX12_fashion 1 = .ok (.iload_n 1, 1) := by decide +kernel
theorem dX12_fashion_2 : decode cX12_fashion 2 = .ok (.iload_n 2, 1) := by decide +kernel
theorem dX12_fashion_3 : decode cX12_fashion 3 = .ok (.invokevirtual 265, 3) := by decide +kernel
theorem dX12_fashion_6 : decode cX12_fashion 6 = .ok (.ifCond .eq 22, 3) := by decide +kernel
theorem dX12_fashion_9 : decode cX12_fashion 9 = .ok (.aload_n 0, 1) := by decide +kernel
theorem dX12_fashion_10 : decode cX12_fashion 10 = .ok (.aload_n 0, 1) := by decide +kernel
theorem dX12_fashion_11 : decode cX12_fashion 11 = .ok (.iload_n 1, 1) := by decide +kernel
theorem dX12_fashion_12 : decode cX12_fashion 12 = .ok (.iload_n 2, 1) := by decide +kernel
theorem dX12_fashion_13 : decode cX12_fashion 13 = .ok (.aload_n 0, 1) := by decide +kernel
theorem dX12_fashion_14 : decode cX12_fashion 14 = .ok (.getfield 7, 3) := by decide +kernel
theorem dX12_fashion_17 : decode cX12_fashion 17 = .ok (.iconst 3, 1) := by decide +kernel
theorem dX12_fashion_18 : decode cX12_fashion 18 = .ok (.iaload, 1) := by decide +kernel
theorem dX12_fashion_19 : decode cX12_fashion 19 = .ok (.invokevirtual 366, 3) := by decide +kernel
theorem dX12_fashion_22 : decode cX12_fashion 22 = .ok (.invokevirtual 290, 3) := by decide +kernel
theorem dX12_fashion_25 : decode cX12_fashion 25 = .ok (.goto 8, 3) := by decide +kernel
theorem dX12_fashion_28 : decode cX12_fashion 28 = .ok (.aload_n 0, 1) := by decide +kernel
theorem dX12_fashion_29 : decode cX12_fashion 29 = .ok (.iconst 1, 1) := by decide +kernel
theorem dX12_fashion_30 : decode cX12_fashion 30 = .ok (.invokevirtual 81, 3) := by decide +kernel
theorem dX12_fashion_33 : decode cX12_fashion 33 = .ok (.ireturn, 1) := by decide +kernel
theorem dX12_follows_0 : decode cX12_follows 0 = .ok (.aload_n 0, 1) := by decide +kernel
theorem dX12_follows_1 : decode cX12_follows 1 = .ok (.iload_n 1, 1) := by decide +kernel
theorem dX12_follows_2 : decode cX12_follows 2 = .ok (.iload_n 2, 1) := by decide +kernel
theorem dX12_follows_3 : decode cX12_follows 3 = .ok (.invokevirtual 265, 3) := by decide +kernel
theorem dX12_follows_6 : decode cX12_follows 6 = .ok (.ifCond .eq 16, 3) := by decide +kernel
theorem dX12_follows_9 : decode cX12_follows 9 = .ok (.aload_n 0, 1) := by decide +kernel
theorem dX12_follows_10 : decode cX12_follows 10 = .ok (.aload_n 0, 1) := by decide +kernel
theorem dX12_follows_11 : decode cX12_follows 11 = .ok (.iload_n 1, 1) := by decide +kernel
theorem dX12_follows_12 : decode cX12_follows 12 = .ok (.iload_n 2, 1) := by decide +kernel
theorem dX12_follows_13 : decode cX12_follows 13 = .ok (.invokevirtual 377, 3) := by decide +kernel
theorem dX12_follows_16 : decode cX12_follows 16 = .ok (.invokevirtual 85, 3) := by decide +kernel
theorem dX12_follows_19 : decode cX12_follows 19 = .ok (.goto 8, 3) := by decide +kernel
theorem dX12_follows_22 : decode cX12_follows 22 = .ok (.aload_n 0, 1) := by decide +kernel
theorem dX12_follows_23 : decode cX12_follows 23 = .ok (.iconst 1, 1) := by decide +kernel
theorem dX12_follows_24 : decode cX12_follows 24 = .ok (.invokevirtual 81, 3) := by decide +kernel
theorem dX12_follows_27 : decode cX12_follows 27 = .ok (.ireturn, 1) := by decide +kernel
theorem dX12_followsOf_0 : decode cX12_followsOf 0 = .ok (.iconst 0, 1) := by decide +kernel
theorem dX12_followsOf_1 : decode cX12_followsOf 1 = .ok (.istore_n 3, 1) := by decide +kernel
theorem dX12_followsOf_2 : decode cX12_followsOf 2 = .ok (.iconst 1, 1) := by decide +kernel
theorem dX12_followsOf_3 : decode cX12_followsOf 3 = .ok (.istore 4, 2) := by decide +kernel
theorem dX12_followsOf_5 : decode cX12_followsOf 5 = .ok (.iload 4, 2) := by decide +kernel
theorem dX12_followsOf_7 : decode cX12_followsOf 7 = .ok (.aload_n 0, 1) := by decide +kernel
theorem dX12_followsOf_8 : decode cX12_followsOf 8 = .ok (.getfield 7, 3) := by decide +kernel
theorem dX12_followsOf_11 : decode cX12_followsOf 11 = .ok (.iconst 3, 1) := by decide +kernel
theorem dX12_followsOf_12 : decode cX12_followsOf 12 = .ok (.iaload, 1) := by decide +kernel
theorem dX12_followsOf_13 : decode cX12_followsOf 13 = .ok (.if_icmp .gt 35, 3) := by decide +kernel
theorem dX12_followsOf_16 : decode cX12_followsOf 16 = .ok (.iload_n 3, 1) := by decide +kernel
theorem dX12_followsOf_17 : decode cX12_followsOf 17 = .ok (.aload_n 0, 1) := by decide +kernel
theorem dX12_followsOf_18 : decode cX12_followsOf 18 = .ok (.iload_n 1, 1) := by decide +kernel
theorem dX12_followsOf_19 : decode cX12_followsOf 19 = .ok (.iload_n 2, 1) := by decide +kernel
theorem dX12_followsOf_20 : decode cX12_followsOf 20 = .ok (.iload 4, 2) := by decide +kernel
theorem dX12_followsOf_22 : decode cX12_followsOf 22 = .ok (.invokevirtual 366, 3) := by decide +kernel
theorem dX12_followsOf_25 : decode cX12_followsOf 25 = .ok (.aload_n 0, 1) := by decide +kernel
theorem dX12_followsOf_26 : decode cX12_followsOf 26 = .ok (.iload_n 1, 1) := by decide +kernel
theorem dX12_followsOf_27 : decode cX12_followsOf 27 = .ok (.iload 4, 2) := by decide +kernel
theorem dX12_followsOf_29 : decode cX12_followsOf 29 = .ok (.invokevirtual 363, 3) := by decide +kernel
theorem dX12_followsOf_32 : decode cX12_followsOf 32 = .ok (.if_icmp .ne 7, 3) := by decide +kernel
theorem dX12_followsOf_35 : decode cX12_followsOf 35 = .ok (.iconst 1, 1) := by decide +kernel
theorem dX12_followsOf_36 : decode cX12_followsOf 36 = .ok (.goto 4, 3) := by decide +kernel
theorem dX12_followsOf_39 : decode cX12_followsOf 39 = .ok (.iconst 0, 1) := by decide +kernel
theorem dX12_followsOf_40 : decode cX12_followsOf 40 = .ok (.iadd, 1) := by decide +kernel
theorem dX12_followsOf_41 : decode cX12_followsOf 41 = .ok (.istore_n 3, 1) := by decide +kernel
theorem dX12_followsOf_42 : decode cX12_followsOf 42 = .ok (.iinc 4 1, 3) := by decide +kernel
theorem dX12_followsOf_45 : decode cX12_followsOf 45 = .ok (.goto (-40), 3) := by decide +kernel
theorem dX12_followsOf_48 : decode cX12_followsOf 48 = .ok (.iload_n 3, 1) := by decide +kernel
theorem dX12_followsOf_49 : decode cX12_followsOf 49 = .ok (.ireturn, 1) := by decide +kernel
theorem dX12_model_0 : decode cX12_model 0 = .ok (.aload_n 0, 1) := by decide +kernel
theorem dX12_model_1 : decode cX12_model 1 = .ok (.iload_n 1, 1) := by decide +kernel
theorem dX12_model_2 : decode cX12_model 2 = .ok (.invokevirtual 243, 3) := by decide +kernel
theorem dX12_model_5 : decode cX12_model 5 = .ok (.ifCond .ne 9, 3) := by decide +kernel
theorem dX12_model_8 : decode cX12_model 8 = .ok (.aload_n 0, 1) := by decide +kernel
theorem dX12_model_9 : decode cX12_model 9 = .ok (.iconst 1, 1) := by decide +kernel
theorem dX12_model_10 : decode cX12_model 10 = .ok (.invokevirtual 81, 3) := by decide +kernel
theorem dX12_model_13 : decode cX12_model 13 = .ok (.ireturn, 1) := by decide +kernel
theorem dX12_model_14 : decode cX12_model 14 = .ok (.iconst (-1), 1) := by decide +kernel
theorem dX12_model_15 : decode cX12_model 15 = .ok (.istore_n 2, 1) := by decide +kernel
theorem dX12_model_16 : decode cX12_model 16 = .ok (.iconst (-1), 1) := by decide +kernel
theorem dX12_model_17 : decode cX12_model 17 = .ok (.istore_n 3, 1) := by decide +kernel
theorem dX12_model_18 : decode cX12_model 18 = .ok (.iconst 0, 1) := by decide +kernel
theorem dX12_model_19 : decode cX12_model 19 = .ok (.istore 4, 2) := by decide +kernel
theorem dX12_model_21 : decode cX12_model 21 = .ok (.iload 4, 2) := by decide +kernel
theorem dX12_model_23 : decode cX12_model 23 = .ok (.aload_n 0, 1) := by decide +kernel
theorem dX12_model_24 : decode cX12_model 24 = .ok (.getfield 7, 3) := by decide +kernel
theorem dX12_model_27 : decode cX12_model 27 = .ok (.iconst 0, 1) := by decide +kernel
theorem dX12_model_28 : decode cX12_model 28 = .ok (.iaload, 1) := by decide +kernel
theorem dX12_model_29 : decode cX12_model 29 = .ok (.if_icmp .ge 43, 3) := by decide +kernel
theorem dX12_model_32 : decode cX12_model 32 = .ok (.iload 4, 2) := by decide +kernel
theorem dX12_model_34 : decode cX12_model 34 = .ok (.iload_n 1, 1) := by decide +kernel
theorem dX12_model_35 : decode cX12_model 35 = .ok (.if_icmp .ne 7, 3) := by decide +kernel
theorem dX12_model_38 : decode cX12_model 38 = .ok (.iconst (-1), 1) := by decide +kernel
theorem dX12_model_39 : decode cX12_model 39 = .ok (.goto 10, 3) := by decide +kernel
theorem dX12_model_42 : decode cX12_model 42 = .ok (.aload_n 0, 1) := by decide +kernel
theorem dX12_model_43 : decode cX12_model 43 = .ok (.iload_n 1, 1) := by decide +kernel
theorem dX12_model_44 : decode cX12_model 44 = .ok (.iload 4, 2) := by decide +kernel
theorem dX12_model_46 : decode cX12_model 46 = .ok (.invokevirtual 377, 3) := by decide +kernel
theorem dX12_model_49 : decode cX12_model 49 = .ok (.istore 5, 2) := by decide +kernel
theorem dX12_model_51 : decode cX12_model 51 = .ok (.iload 5, 2) := by decide +kernel
theorem dX12_model_53 : decode cX12_model 53 = .ok (.iload_n 3, 1) := by decide +kernel
theorem dX12_model_54 : decode cX12_model 54 = .ok (.if_icmp .gt 6, 3) := by decide +kernel
theorem dX12_model_57 : decode cX12_model 57 = .ok (.goto 9, 3) := by decide +kernel
theorem dX12_model_60 : decode cX12_model 60 = .ok (.iload 5, 2) := by decide +kernel
theorem dX12_model_62 : decode cX12_model 62 = .ok (.istore_n 3, 1) := by decide +kernel
theorem dX12_model_63 : decode cX12_model 63 = .ok (.iload 4, 2) := by decide +kernel
theorem dX12_model_65 : decode cX12_model 65 = .ok (.istore_n 2, 1) := by decide +kernel
theorem dX12_model_66 : decode cX12_model 66 = .ok (.iinc 4 1, 3) := by decide +kernel
theorem dX12_model_69 : decode cX12_model 69 = .ok (.goto (-48), 3) := by decide +kernel
theorem dX12_model_72 : decode cX12_model 72 = .ok (.aload_n 0, 1) := by decide +kernel
theorem dX12_model_73 : decode cX12_model 73 = .ok (.iload_n 2, 1) := by decide +kernel
theorem dX12_model_74 : decode cX12_model 74 = .ok (.invokevirtual 290, 3) := by decide +kernel
theorem dX12_model_77 : decode cX12_model 77 = .ok (.ireturn, 1) := by decide +kernel
theorem dX12_order_0 : decode cX12_order 0 = .ok (.aload_n 0, 1) := by decide +kernel
theorem dX12_order_1 : decode cX12_order 1 = .ok (.iload_n 1, 1) := by decide +kernel
theorem dX12_order_2 : decode cX12_order 2 = .ok (.invokevirtual 243, 3) := by decide +kernel
theorem dX12_order_5 : decode cX12_order 5 = .ok (.ifCond .ne 9, 3) := by decide +kernel
theorem dX12_order_8 : decode cX12_order 8 = .ok (.aload_n 0, 1) := by decide +kernel
theorem dX12_order_9 : decode cX12_order 9 = .ok (.iconst 1, 1) := by decide +kernel
theorem dX12_order_10 : decode cX12_order 10 = .ok (.invokevirtual 81, 3) := by decide +kernel
theorem dX12_order_13 : decode cX12_order 13 = .ok (.ireturn, 1) := by decide +kernel
theorem dX12_order_14 : decode cX12_order 14 = .ok (.aload_n 0, 1) := by decide +kernel
theorem dX12_order_15 : decode cX12_order 15 = .ok (.iload_n 1, 1) := by decide +kernel
theorem dX12_order_16 : decode cX12_order 16 = .ok (.invokevirtual 321, 3) := by decide +kernel
theorem dX12_order_19 : decode cX12_order 19 = .ok (.ifCond .eq 18, 3) := by decide +kernel
theorem dX12_order_22 : decode cX12_order 22 = .ok (.aload_n 0, 1) := by decide +kernel
theorem dX12_order_23 : decode cX12_order 23 = .ok (.aload_n 0, 1) := by decide +kernel
theorem dX12_order_24 : decode cX12_order 24 = .ok (.getfield 7, 3) := by decide +kernel
theorem dX12_order_27 : decode cX12_order 27 = .ok (.iconst 4, 1) := by decide +kernel
theorem dX12_order_28 : decode cX12_order 28 = .ok (.iaload, 1) := by decide +kernel
theorem dX12_order_29 : decode cX12_order 29 = .ok (.iconst 1, 1) := by decide +kernel
theorem dX12_order_30 : decode cX12_order 30 = .ok (.isub, 1) := by decide +kernel
theorem dX12_order_31 : decode cX12_order 31 = .ok (.invokevirtual 85, 3) := by decide +kernel
theorem dX12_order_34 : decode cX12_order 34 = .ok (.goto 8, 3) := by decide +kernel
theorem dX12_order_37 : decode cX12_order 37 = .ok (.aload_n 0, 1) := by decide +kernel
theorem dX12_order_38 : decode cX12_order 38 = .ok (.iconst 4, 1) := by decide +kernel
theorem dX12_order_39 : decode cX12_order 39 = .ok (.invokevirtual 81, 3) := by decide +kernel
theorem dX12_order_42 : decode cX12_order 42 = .ok (.ireturn, 1) := by decide +kernel
theorem dX12_pass_0 : decode cX12_pass 0 = .ok (.iload_n 1, 1) := by decide +kernel
theorem dX12_pass_1 : decode cX12_pass 1 = .ok (.i2l, 1) := by decide +kernel
theorem dX12_pass_2 : decode cX12_pass 2 = .ok (.lconst 1, 1) := by decide +kernel
theorem dX12_pass_3 : decode cX12_pass 3 = .ok (.ldc2_w 369, 3) := by decide +kernel
theorem dX12_pass_6 : decode cX12_pass 6 = .ok (.invokestatic 295, 3) := by decide +kernel
theorem dX12_pass_9 : decode cX12_pass 9 = .ok (.ifCond .ne 9, 3) := by decide +kernel
theorem dX12_pass_12 : decode cX12_pass 12 = .ok (.aload_n 0, 1) := by decide +kernel
theorem dX12_pass_13 : decode cX12_pass 13 = .ok (.iconst 1, 1) := by decide +kernel
theorem dX12_pass_14 : decode cX12_pass 14 = .ok (.invokevirtual 81, 3) := by decide +kernel
theorem dX12_pass_17 : decode cX12_pass 17 = .ok (.ireturn, 1) := by decide +kernel
theorem dX12_pass_18 : decode cX12_pass 18 = .ok (.aload_n 0, 1) := by decide +kernel
theorem dX12_pass_19 : decode cX12_pass 19 = .ok (.getfield 7, 3) := by decide +kernel
theorem dX12_pass_22 : decode cX12_pass 22 = .ok (.iconst 3, 1) := by decide +kernel
theorem dX12_pass_23 : decode cX12_pass 23 = .ok (.iaload, 1) := by decide +kernel
theorem dX12_pass_24 : decode cX12_pass 24 = .ok (.iload_n 1, 1) := by decide +kernel
theorem dX12_pass_25 : decode cX12_pass 25 = .ok (.iadd, 1) := by decide +kernel
theorem dX12_pass_26 : decode cX12_pass 26 = .ok (.sipush 400, 3) := by decide +kernel
theorem dX12_pass_29 : decode cX12_pass 29 = .ok (.if_icmp .le 9, 3) := by decide +kernel
theorem dX12_pass_32 : decode cX12_pass 32 = .ok (.aload_n 0, 1) := by decide +kernel
theorem dX12_pass_33 : decode cX12_pass 33 = .ok (.iconst 4, 1) := by decide +kernel
theorem dX12_pass_34 : decode cX12_pass 34 = .ok (.invokevirtual 81, 3) := by decide +kernel
theorem dX12_pass_37 : decode cX12_pass 37 = .ok (.ireturn, 1) := by decide +kernel
theorem dX12_pass_38 : decode cX12_pass 38 = .ok (.iconst 1, 1) := by decide +kernel
theorem dX12_pass_39 : decode cX12_pass 39 = .ok (.istore_n 2, 1) := by decide +kernel
theorem dX12_pass_40 : decode cX12_pass 40 = .ok (.iconst 0, 1) := by decide +kernel
theorem dX12_pass_41 : decode cX12_pass 41 = .ok (.istore_n 3, 1) := by decide +kernel
theorem dX12_pass_42 : decode cX12_pass 42 = .ok (.iload_n 3, 1) := by decide +kernel
theorem dX12_pass_43 : decode cX12_pass 43 = .ok (.iload_n 1, 1) := by decide +kernel
theorem dX12_pass_44 : decode cX12_pass 44 = .ok (.if_icmp .ge 18, 3) := by decide +kernel
theorem dX12_pass_47 : decode cX12_pass 47 = .ok (.iload_n 2, 1) := by decide +kernel
theorem dX12_pass_48 : decode cX12_pass 48 = .ok (.ifCond .eq 14, 3) := by decide +kernel
theorem dX12_pass_51 : decode cX12_pass 51 = .ok (.aload_n 0, 1) := by decide +kernel
theorem dX12_pass_52 : decode cX12_pass 52 = .ok (.invokevirtual 371, 3) := by decide +kernel
theorem dX12_pass_55 : decode cX12_pass 55 = .ok (.istore_n 2, 1) := by decide +kernel
theorem dX12_pass_56 : decode cX12_pass 56 = .ok (.iinc 3 1, 3) := by decide +kernel
theorem dX12_pass_59 : decode cX12_pass 59 = .ok (.goto (-17), 3) := by decide +kernel
theorem dX12_pass_62 : decode cX12_pass 62 = .ok (.aload_n 0, 1) := by decide +kernel
theorem dX12_pass_63 : decode cX12_pass 63 = .ok (.aload_n 0, 1) := by decide +kernel
theorem dX12_pass_64 : decode cX12_pass 64 = .ok (.getfield 7, 3) := by decide +kernel
theorem dX12_pass_67 : decode cX12_pass 67 = .ok (.iconst 3, 1) := by decide +kernel
theorem dX12_pass_68 : decode cX12_pass 68 = .ok (.iaload, 1) := by decide +kernel
theorem dX12_pass_69 : decode cX12_pass 69 = .ok (.invokevirtual 85, 3) := by decide +kernel
theorem dX12_pass_72 : decode cX12_pass 72 = .ok (.ireturn, 1) := by decide +kernel
theorem dX12_uniform_0 : decode cX12_uniform 0 = .ok (.iconst 0, 1) := by decide +kernel
theorem dX12_uniform_1 : decode cX12_uniform 1 = .ok (.istore_n 1, 1) := by decide +kernel
theorem dX12_uniform_2 : decode cX12_uniform 2 = .ok (.iconst 0, 1) := by decide +kernel
theorem dX12_uniform_3 : decode cX12_uniform 3 = .ok (.istore_n 2, 1) := by decide +kernel
theorem dX12_uniform_4 : decode cX12_uniform 4 = .ok (.iload_n 2, 1) := by decide +kernel
theorem dX12_uniform_5 : decode cX12_uniform 5 = .ok (.aload_n 0, 1) := by decide +kernel
theorem dX12_uniform_6 : decode cX12_uniform 6 = .ok (.getfield 7, 3) := by decide +kernel
theorem dX12_uniform_9 : decode cX12_uniform 9 = .ok (.iconst 3, 1) := by decide +kernel
theorem dX12_uniform_10 : decode cX12_uniform 10 = .ok (.iaload, 1) := by decide +kernel
theorem dX12_uniform_11 : decode cX12_uniform 11 = .ok (.if_icmp .gt 51, 3) := by decide +kernel
theorem dX12_uniform_14 : decode cX12_uniform 14 = .ok (.iload_n 1, 1) := by decide +kernel
theorem dX12_uniform_15 : decode cX12_uniform 15 = .ok (.aload_n 0, 1) := by decide +kernel
theorem dX12_uniform_16 : decode cX12_uniform 16 = .ok (.getfield 7, 3) := by decide +kernel
theorem dX12_uniform_19 : decode cX12_uniform 19 = .ok (.bipush 118, 2) := by decide +kernel
theorem dX12_uniform_21 : decode cX12_uniform 21 = .ok (.iload_n 2, 1) := by decide +kernel
theorem dX12_uniform_22 : decode cX12_uniform 22 = .ok (.iadd, 1) := by decide +kernel
theorem dX12_uniform_23 : decode cX12_uniform 23 = .ok (.iaload, 1) := by decide +kernel
theorem dX12_uniform_24 : decode cX12_uniform 24 = .ok (.ifCond .eq 25, 3) := by decide +kernel
theorem dX12_uniform_27 : decode cX12_uniform 27 = .ok (.aload_n 0, 1) := by decide +kernel
theorem dX12_uniform_28 : decode cX12_uniform 28 = .ok (.getfield 7, 3) := by decide +kernel
theorem dX12_uniform_31 : decode cX12_uniform 31 = .ok (.bipush 118, 2) := by decide +kernel
theorem dX12_uniform_33 : decode cX12_uniform 33 = .ok (.iload_n 2, 1) := by decide +kernel
theorem dX12_uniform_34 : decode cX12_uniform 34 = .ok (.iadd, 1) := by decide +kernel
theorem dX12_uniform_35 : decode cX12_uniform 35 = .ok (.iaload, 1) := by decide +kernel
theorem dX12_uniform_36 : decode cX12_uniform 36 = .ok (.iconst 1, 1) := by decide +kernel
theorem dX12_uniform_37 : decode cX12_uniform 37 = .ok (.aload_n 0, 1) := by decide +kernel
theorem dX12_uniform_38 : decode cX12_uniform 38 = .ok (.getfield 7, 3) := by decide +kernel
theorem dX12_uniform_41 : decode cX12_uniform 41 = .ok (.iconst 0, 1) := by decide +kernel
theorem dX12_uniform_42 : decode cX12_uniform 42 = .ok (.iaload, 1) := by decide +kernel
theorem dX12_uniform_43 : decode cX12_uniform 43 = .ok (.ishl, 1) := by decide +kernel
theorem dX12_uniform_44 : decode cX12_uniform 44 = .ok (.iconst 1, 1) := by decide +kernel
theorem dX12_uniform_45 : decode cX12_uniform 45 = .ok (.isub, 1) := by decide +kernel
theorem dX12_uniform_46 : decode cX12_uniform 46 = .ok (.if_icmp .ne 7, 3) := by decide +kernel
theorem dX12_uniform_49 : decode cX12_uniform 49 = .ok (.iconst 1, 1) := by decide +kernel
theorem dX12_uniform_50 : decode cX12_uniform 50 = .ok (.goto 4, 3) := by decide +kernel
theorem dX12_uniform_53 : decode cX12_uniform 53 = .ok (.iconst 0, 1) := by decide +kernel
theorem dX12_uniform_54 : decode cX12_uniform 54 = .ok (.iadd, 1) := by decide +kernel
theorem dX12_uniform_55 : decode cX12_uniform 55 = .ok (.istore_n 1, 1) := by decide +kernel
theorem dX12_uniform_56 : decode cX12_uniform 56 = .ok (.iinc 2 1, 3) := by decide +kernel
theorem dX12_uniform_59 : decode cX12_uniform 59 = .ok (.goto (-55), 3) := by decide +kernel
theorem dX12_uniform_62 : decode cX12_uniform 62 = .ok (.aload_n 0, 1) := by decide +kernel
theorem dX12_uniform_63 : decode cX12_uniform 63 = .ok (.iload_n 1, 1) := by decide +kernel
theorem dX12_uniform_64 : decode cX12_uniform 64 = .ok (.invokevirtual 85, 3) := by decide +kernel
theorem dX12_uniform_67 : decode cX12_uniform 67 = .ok (.ireturn, 1) := by decide +kernel
theorem dX12_wear_0 : decode cX12_wear 0 = .ok (.aload_n 0, 1) := by decide +kernel
theorem dX12_wear_1 : decode cX12_wear 1 = .ok (.iload_n 1, 1) := by decide +kernel
theorem dX12_wear_2 : decode cX12_wear 2 = .ok (.invokevirtual 243, 3) := by decide +kernel
theorem dX12_wear_5 : decode cX12_wear 5 = .ok (.ifCond .eq 13, 3) := by decide +kernel
theorem dX12_wear_8 : decode cX12_wear 8 = .ok (.iload_n 2, 1) := by decide +kernel
theorem dX12_wear_9 : decode cX12_wear 9 = .ok (.i2l, 1) := by decide +kernel
theorem dX12_wear_10 : decode cX12_wear 10 = .ok (.lconst 0, 1) := by decide +kernel
theorem dX12_wear_11 : decode cX12_wear 11 = .ok (.lconst 1, 1) := by decide +kernel
theorem dX12_wear_12 : decode cX12_wear 12 = .ok (.invokestatic 295, 3) := by decide +kernel
theorem dX12_wear_15 : decode cX12_wear 15 = .ok (.ifCond .ne 9, 3) := by decide +kernel
theorem dX12_wear_18 : decode cX12_wear 18 = .ok (.aload_n 0, 1) := by decide +kernel
theorem dX12_wear_19 : decode cX12_wear 19 = .ok (.iconst 1, 1) := by decide +kernel
theorem dX12_wear_20 : decode cX12_wear 20 = .ok (.invokevirtual 89, 3) := by decide +kernel
theorem dX12_wear_23 : decode cX12_wear 23 = .ok (.ireturn, 1) := by decide +kernel
theorem dX12_wear_24 : decode cX12_wear 24 = .ok (.aload_n 0, 1) := by decide +kernel
theorem dX12_wear_25 : decode cX12_wear 25 = .ok (.iload_n 1, 1) := by decide +kernel
theorem dX12_wear_26 : decode cX12_wear 26 = .ok (.iload_n 2, 1) := by decide +kernel
theorem dX12_wear_27 : decode cX12_wear 27 = .ok (.invokevirtual 374, 3) := by decide +kernel
theorem dX12_wear_30 : decode cX12_wear 30 = .ok (.aload_n 0, 1) := by decide +kernel
theorem dX12_wear_31 : decode cX12_wear 31 = .ok (.iconst 0, 1) := by decide +kernel
theorem dX12_wear_32 : decode cX12_wear 32 = .ok (.invokevirtual 89, 3) := by decide +kernel
theorem dX12_wear_35 : decode cX12_wear 35 = .ok (.ireturn, 1) := by decide +kernel
theorem dX12_wore_0 : decode cX12_wore 0 = .ok (.aload_n 0, 1) := by decide +kernel
theorem dX12_wore_1 : decode cX12_wore 1 = .ok (.iload_n 1, 1) := by decide +kernel
theorem dX12_wore_2 : decode cX12_wore 2 = .ok (.invokevirtual 243, 3) := by decide +kernel
theorem dX12_wore_5 : decode cX12_wore 5 = .ok (.ifCond .eq 32, 3) := by decide +kernel
theorem dX12_wore_8 : decode cX12_wore 8 = .ok (.iload_n 2, 1) := by decide +kernel
theorem dX12_wore_9 : decode cX12_wore 9 = .ok (.i2l, 1) := by decide +kernel
theorem dX12_wore_10 : decode cX12_wore 10 = .ok (.lconst 0, 1) := by decide +kernel
theorem dX12_wore_11 : decode cX12_wore 11 = .ok (.aload_n 0, 1) := by decide +kernel
theorem dX12_wore_12 : decode cX12_wore 12 = .ok (.getfield 7, 3) := by decide +kernel
theorem dX12_wore_15 : decode cX12_wore 15 = .ok (.iconst 3, 1) := by decide +kernel
theorem dX12_wore_16 : decode cX12_wore 16 = .ok (.iaload, 1) := by decide +kernel
theorem dX12_wore_17 : decode cX12_wore 17 = .ok (.i2l, 1) := by decide +kernel
theorem dX12_wore_18 : decode cX12_wore 18 = .ok (.invokestatic 295, 3) := by decide +kernel
theorem dX12_wore_21 : decode cX12_wore 21 = .ok (.ifCond .eq 16, 3) := by decide +kernel
theorem dX12_wore_24 : decode cX12_wore 24 = .ok (.aload_n 0, 1) := by decide +kernel
theorem dX12_wore_25 : decode cX12_wore 25 = .ok (.aload_n 0, 1) := by decide +kernel
theorem dX12_wore_26 : decode cX12_wore 26 = .ok (.iload_n 1, 1) := by decide +kernel
theorem dX12_wore_27 : decode cX12_wore 27 = .ok (.iload_n 2, 1) := by decide +kernel
theorem dX12_wore_28 : decode cX12_wore 28 = .ok (.invokevirtual 363, 3) := by decide +kernel
theorem dX12_wore_31 : decode cX12_wore 31 = .ok (.invokevirtual 85, 3) := by decide +kernel
theorem dX12_wore_34 : decode cX12_wore 34 = .ok (.goto 8, 3) := by decide +kernel
theorem dX12_wore_37 : decode cX12_wore 37 = .ok (.aload_n 0, 1) := by decide +kernel
theorem dX12_wore_38 : decode cX12_wore 38 = .ok (.iconst 1, 1) := by decide +kernel
theorem dX12_wore_39 : decode cX12_wore 39 = .ok (.invokevirtual 81, 3) := by decide +kernel
theorem dX12_wore_42 : decode cX12_wore 42 = .ok (.ireturn, 1) := by decide +kernel
