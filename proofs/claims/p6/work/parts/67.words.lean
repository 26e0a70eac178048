theorem qc_X12_is : Cond.code yX12_is cX12_is 2 (some .boolean) ∈ gw := tbt (tb6 (List.mem_of_getElem? (i := 175) rfl)) rfl
theorem qi_yX12_is : Cond.instanceMethod yX12_is ∈ gw := tbt (tb6 (List.mem_of_getElem? (i := 174) rfl)) rfl
theorem qs_X12_is : Cond.selects (yX12_is).cls yX12_is yX12_is ∈ gw := tb0 (List.mem_of_getElem? (i := 37) rfl) rfl
theorem ci_X12_is : CIv yX12_is cX12_is 2 (some .boolean) 1 := ⟨qc_X12_is, qi_yX12_is, qs_X12_is, qz_X12, by decide +kernel⟩
theorem qm_X12_89 : Cond.methodLink RX12 89 yX12_is ∈ gw := tbt (tb6 (List.mem_of_getElem? (i := 172) rfl)) rfl
theorem qc_X12_tellsBy : Cond.code yX12_tellsBy cX12_tellsBy 11 (some .boolean) ∈ gw := tbt (tb8 (List.mem_of_getElem? (i := 186) rfl)) rfl
theorem qi_yX12_tellsBy : Cond.instanceMethod yX12_tellsBy ∈ gw := tbt (tb8 (List.mem_of_getElem? (i := 185) rfl)) rfl
theorem qs_X12_tellsBy : Cond.selects (yX12_tellsBy).cls yX12_tellsBy yX12_tellsBy ∈ gw := tb0 (List.mem_of_getElem? (i := 93) rfl) rfl
theorem ci_X12_tellsBy : CIv yX12_tellsBy cX12_tellsBy 11 (some .boolean) 2 := ⟨qc_X12_tellsBy, qi_yX12_tellsBy, qs_X12_tellsBy, qz_X12, by decide +kernel⟩
theorem qm_X12_359 : Cond.methodLink RX12 359 yX12_tellsBy ∈ gw := tbt (tb8 (List.mem_of_getElem? (i := 183) rfl)) rfl
theorem dX12_meanPrice_0 : decode cX12_meanPrice 0 = .ok (.aload_n 0, 1) := by decide +kernel
theorem dX12_meanPrice_1 : decode cX12_meanPrice 1 = .ok (.iload_n 1, 1) := by decide +kernel
theorem dX12_meanPrice_2 : decode cX12_meanPrice 2 = .ok (.invokevirtual 243, 3) := by decide +kernel
theorem dX12_meanPrice_5 : decode cX12_meanPrice 5 = .ok (.ifCond .eq 22, 3) := by decide +kernel
theorem dX12_meanPrice_8 : decode cX12_meanPrice 8 = .ok (.iload_n 2, 1) := by decide +kernel
theorem dX12_meanPrice_9 : decode cX12_meanPrice 9 = .ok (.invokestatic 258, 3) := by decide +kernel
theorem dX12_meanPrice_12 : decode cX12_meanPrice 12 = .ok (.ifCond .eq 15, 3) := by decide +kernel
theorem dX12_meanPrice_15 : decode cX12_meanPrice 15 = .ok (.iload_n 3, 1) := by decide +kernel
theorem dX12_meanPrice_16 : decode cX12_meanPrice 16 = .ok (.invokestatic 258, 3) := by decide +kernel
theorem dX12_meanPrice_19 : decode cX12_meanPrice 19 = .ok (.ifCond .eq 8, 3) := by decide +kernel
theorem dX12_meanPrice_22 : decode cX12_meanPrice 22 = .ok (.iload_n 3, 1) := by decide +kernel
theorem dX12_meanPrice_23 : decode cX12_meanPrice 23 = .ok (.iload_n 2, 1) := by decide +kernel
theorem dX12_meanPrice_24 : decode cX12_meanPrice 24 = .ok (.if_icmp .ge 9, 3) := by decide +kernel
theorem dX12_meanPrice_27 : decode cX12_meanPrice 27 = .ok (.aload_n 0, 1) := by decide +kernel
theorem dX12_meanPrice_28 : decode cX12_meanPrice 28 = .ok (.iconst 1, 1) := by decide +kernel
theorem dX12_meanPrice_29 : decode cX12_meanPrice 29 = .ok (.invokevirtual 89, 3) := by decide +kernel
theorem dX12_meanPrice_32 : decode cX12_meanPrice 32 = .ok (.ireturn, 1) := by decide +kernel
theorem dX12_meanPrice_33 : decode cX12_meanPrice 33 = .ok (.lconst 0, 1) := by decide +kernel
theorem dX12_meanPrice_34 : decode cX12_meanPrice 34 = .ok (.lstore 4, 2) := by decide +kernel
theorem dX12_meanPrice_36 : decode cX12_meanPrice 36 = .ok (.iload_n 2, 1) := by decide +kernel
theorem dX12_meanPrice_37 : decode cX12_meanPrice 37 = .ok (.istore 6, 2) := by decide +kernel
theorem dX12_meanPrice_39 : decode cX12_meanPrice 39 = .ok (.iload 6, 2) := by decide +kernel
theorem dX12_meanPrice_41 : decode cX12_meanPrice 41 = .ok (.iload_n 3, 1) := by decide +kernel
theorem dX12_meanPrice_42 : decode cX12_meanPrice 42 = .ok (.if_icmp .gt 22, 3) := by decide +kernel
theorem dX12_meanPrice_45 : decode cX12_meanPrice 45 = .ok (.lload 4, 2) := by decide +kernel
theorem dX12_meanPrice_47 : decode cX12_meanPrice 47 = .ok (.aload_n 0, 1) := by decide +kernel
theorem dX12_meanPrice_48 : decode cX12_meanPrice 48 = .ok (.iload_n 1, 1) := by decide +kernel
theorem dX12_meanPrice_49 : decode cX12_meanPrice 49 = .ok (.iload 6, 2) := by decide +kernel
theorem dX12_meanPrice_51 : decode cX12_meanPrice 51 = .ok (.invokevirtual 353, 3) := by decide +kernel
theorem dX12_meanPrice_54 : decode cX12_meanPrice 54 = .ok (.i2l, 1) := by decide +kernel
theorem dX12_meanPrice_55 : decode cX12_meanPrice 55 = .ok (.ladd, 1) := by decide +kernel
theorem dX12_meanPrice_56 : decode cX12_meanPrice 56 = .ok (.lstore 4, 2) := by decide +kernel
theorem dX12_meanPrice_58 : decode cX12_meanPrice 58 = .ok (.iinc 6 1, 3) := by decide +kernel
theorem dX12_meanPrice_61 : decode cX12_meanPrice 61 = .ok (.goto (-22), 3) := by decide +kernel
theorem dX12_meanPrice_64 : decode cX12_meanPrice 64 = .ok (.aload_n 0, 1) := by decide +kernel
theorem dX12_meanPrice_65 : decode cX12_meanPrice 65 = .ok (.lload 4, 2) := by decide +kernel
theorem dX12_meanPrice_67 : decode cX12_meanPrice 67 = .ok (.iload_n 3, 1) := by decide +kernel
theorem dX12_meanPrice_68 : decode cX12_meanPrice 68 = .ok (.iload_n 2, 1) := by decide +kernel
theorem dX12_meanPrice_69 : decode cX12_meanPrice 69 = .ok (.isub, 1) := by decide +kernel
theorem dX12_meanPrice_70 : decode cX12_meanPrice 70 = .ok (.iconst 1, 1) := by decide +kernel
theorem dX12_meanPrice_71 : decode cX12_meanPrice 71 = .ok (.iadd, 1) := by decide +kernel
theorem dX12_meanPrice_72 : decode cX12_meanPrice 72 = .ok (.i2l, 1) := by decide +kernel
theorem dX12_meanPrice_73 : decode cX12_meanPrice 73 = .ok (.invokevirtual 359, 3) := by decide +kernel
theorem dX12_meanPrice_76 : decode cX12_meanPrice 76 = .ok (.ireturn, 1) := by decide +kernel
theorem dX12_tellsBy_0 : decode cX12_tellsBy 0 = .ok (.lload_n 1, 1) := by decide +kernel
theorem dX12_tellsBy_1 : decode cX12_tellsBy 1 = .ok (.lstore 5, 2) := by decide +kernel
theorem dX12_tellsBy_3 : decode cX12_tellsBy 3 = .ok (.lload_n 3, 1) := by decide +kernel
theorem dX12_tellsBy_4 : decode cX12_tellsBy 4 = .ok (.lstore 7, 2) := by decide +kernel
theorem dX12_tellsBy_6 : decode cX12_tellsBy 6 = .ok (.lload 7, 2) := by decide +kernel
theorem dX12_tellsBy_8 : decode cX12_tellsBy 8 = .ok (.lconst 0, 1) := by decide +kernel
theorem dX12_tellsBy_9 : decode cX12_tellsBy 9 = .ok (.lcmp, 1) := by decide +kernel
theorem dX12_tellsBy_10 : decode cX12_tellsBy 10 = .ok (.ifCond .eq 21, 3) := by decide +kernel
theorem dX12_tellsBy_13 : decode cX12_tellsBy 13 = .ok (.lload 5, 2) := by decide +kernel
theorem dX12_tellsBy_15 : decode cX12_tellsBy 15 = .ok (.lload 7, 2) := by decide +kernel
theorem dX12_tellsBy_17 : decode cX12_tellsBy 17 = .ok (.lrem, 1) := by decide +kernel
theorem dX12_tellsBy_18 : decode cX12_tellsBy 18 = .ok (.lstore 9, 2) := by decide +kernel
theorem dX12_tellsBy_20 : decode cX12_tellsBy 20 = .ok (.lload 7, 2) := by decide +kernel
theorem dX12_tellsBy_22 : decode cX12_tellsBy 22 = .ok (.lstore 5, 2) := by decide +kernel
theorem dX12_tellsBy_24 : decode cX12_tellsBy 24 = .ok (.lload 9, 2) := by decide +kernel
theorem dX12_tellsBy_26 : decode cX12_tellsBy 26 = .ok (.lstore 7, 2) := by decide +kernel
theorem dX12_tellsBy_28 : decode cX12_tellsBy 28 = .ok (.goto (-22), 3) := by decide +kernel
theorem dX12_tellsBy_31 : decode cX12_tellsBy 31 = .ok (.aload_n 0, 1) := by decide +kernel
theorem dX12_tellsBy_32 : decode cX12_tellsBy 32 = .ok (.lload_n 1, 1) := by decide +kernel
theorem dX12_tellsBy_33 : decode cX12_tellsBy 33 = .ok (.lload 5, 2) := by decide +kernel
theorem dX12_tellsBy_35 : decode cX12_tellsBy 35 = .ok (.ldiv, 1) := by decide +kernel
theorem dX12_tellsBy_36 : decode cX12_tellsBy 36 = .ok (.putfield 78, 3) := by decide +kernel
theorem dX12_tellsBy_39 : decode cX12_tellsBy 39 = .ok (.aload_n 0, 1) := by decide +kernel
theorem dX12_tellsBy_40 : decode cX12_tellsBy 40 = .ok (.lload_n 3, 1) := by decide +kernel
theorem dX12_tellsBy_41 : decode cX12_tellsBy 41 = .ok (.lload 5, 2) := by decide +kernel
theorem dX12_tellsBy_43 : decode cX12_tellsBy 43 = .ok (.ldiv, 1) := by decide +kernel
theorem dX12_tellsBy_44 : decode cX12_tellsBy 44 = .ok (.putfield 17, 3) := by decide +kernel
theorem dX12_tellsBy_47 : decode cX12_tellsBy 47 = .ok (.aload_n 0, 1) := by decide +kernel
theorem dX12_tellsBy_48 : decode cX12_tellsBy 48 = .ok (.iconst 0, 1) := by decide +kernel
theorem dX12_tellsBy_49 : decode cX12_tellsBy 49 = .ok (.invokevirtual 89, 3) := by decide +kernel
theorem dX12_tellsBy_52 : decode cX12_tellsBy 52 = .ok (.ireturn, 1) := by decide +kernel
