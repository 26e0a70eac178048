theorem qc_X12_yearStep : Cond.code yX12_yearStep cX12_yearStep 6 (some .boolean) ∈ gw := tbt (tb7 (List.mem_of_getElem? (i := 74) rfl)) rfl
theorem qi_yX12_yearStep : Cond.instanceMethod yX12_yearStep ∈ gw := tbt (tb7 (List.mem_of_getElem? (i := 73) rfl)) rfl
theorem qs_X12_yearStep : Cond.selects (yX12_yearStep).cls yX12_yearStep yX12_yearStep ∈ gw := tb0 (List.mem_of_getElem? (i := 61) rfl) rfl
theorem ci_X12_yearStep : CIv yX12_yearStep cX12_yearStep 6 (some .boolean) 0 := ⟨qc_X12_yearStep, qi_yX12_yearStep, qs_X12_yearStep, qz_X12, by decide +kernel⟩
theorem qm_X12_240 : Cond.methodLink RX12 240 yX12_yearStep ∈ gw := tbt (tb7 (List.mem_of_getElem? (i := 71) rfl)) rfl
theorem dX12_years_0 : decode cX12_years 0 = .ok (.aload_n 0, 1) := by decide +kernel
theorem dX12_years_1 : decode cX12_years 1 = .ok (.iload_n 1, 1) := by decide +kernel
theorem dX12_years_2 : decode cX12_years 2 = .ok (.sipush 300, 3) := by decide +kernel
theorem dX12_years_5 : decode cX12_years 5 = .ok (.invokevirtual 215, 3) := by decide +kernel
theorem dX12_years_8 : decode cX12_years 8 = .ok (.ifCond .ne 9, 3) := by decide +kernel
theorem dX12_years_11 : decode cX12_years 11 = .ok (.aload_n 0, 1) := by decide +kernel
theorem dX12_years_12 : decode cX12_years 12 = .ok (.iconst 1, 1) := by decide +kernel
theorem dX12_years_13 : decode cX12_years 13 = .ok (.invokevirtual 81, 3) := by decide +kernel
theorem dX12_years_16 : decode cX12_years 16 = .ok (.ireturn, 1) := by decide +kernel
theorem dX12_years_17 : decode cX12_years 17 = .ok (.aload_n 0, 1) := by decide +kernel
theorem dX12_years_18 : decode cX12_years 18 = .ok (.getfield 7, 3) := by decide +kernel
theorem dX12_years_21 : decode cX12_years 21 = .ok (.sipush 3565, 3) := by decide +kernel
theorem dX12_years_24 : decode cX12_years 24 = .ok (.iconst 0, 1) := by decide +kernel
theorem dX12_years_25 : decode cX12_years 25 = .ok (.iastore, 1) := by decide +kernel
theorem dX12_years_26 : decode cX12_years 26 = .ok (.aload_n 0, 1) := by decide +kernel
theorem dX12_years_27 : decode cX12_years 27 = .ok (.iconst 0, 1) := by decide +kernel
theorem dX12_years_28 : decode cX12_years 28 = .ok (.putfield 231, 3) := by decide +kernel
theorem dX12_years_31 : decode cX12_years 31 = .ok (.aload_n 0, 1) := by decide +kernel
theorem dX12_years_32 : decode cX12_years 32 = .ok (.iconst 0, 1) := by decide +kernel
theorem dX12_years_33 : decode cX12_years 33 = .ok (.putfield 234, 3) := by decide +kernel
theorem dX12_years_36 : decode cX12_years 36 = .ok (.iconst 1, 1) := by decide +kernel
theorem dX12_years_37 : decode cX12_years 37 = .ok (.istore_n 2, 1) := by decide +kernel
theorem dX12_years_38 : decode cX12_years 38 = .ok (.iload_n 2, 1) := by decide +kernel
theorem dX12_years_39 : decode cX12_years 39 = .ok (.ifCond .eq 18, 3) := by decide +kernel
theorem dX12_years_42 : decode cX12_years 42 = .ok (.aload_n 0, 1) := by decide +kernel
theorem dX12_years_43 : decode cX12_years 43 = .ok (.getfield 127, 3) := by decide +kernel
theorem dX12_years_46 : decode cX12_years 46 = .ok (.ifCond .eq 11, 3) := by decide +kernel
theorem dX12_years_49 : decode cX12_years 49 = .ok (.aload_n 0, 1) := by decide +kernel
theorem dX12_years_50 : decode cX12_years 50 = .ok (.invokevirtual 240, 3) := by decide +kernel
theorem dX12_years_53 : decode cX12_years 53 = .ok (.istore_n 2, 1) := by decide +kernel
theorem dX12_years_54 : decode cX12_years 54 = .ok (.goto (-16), 3) := by decide +kernel
theorem dX12_years_57 : decode cX12_years 57 = .ok (.aload_n 0, 1) := by decide +kernel
theorem dX12_years_58 : decode cX12_years 58 = .ok (.getfield 152, 3) := by decide +kernel
theorem dX12_years_61 : decode cX12_years 61 = .ok (.ifCond .ne 16, 3) := by decide +kernel
theorem dX12_years_64 : decode cX12_years 64 = .ok (.aload_n 0, 1) := by decide +kernel
theorem dX12_years_65 : decode cX12_years 65 = .ok (.getfield 231, 3) := by decide +kernel
theorem dX12_years_68 : decode cX12_years 68 = .ok (.ifCond .le 9, 3) := by decide +kernel
theorem dX12_years_71 : decode cX12_years 71 = .ok (.aload_n 0, 1) := by decide +kernel
theorem dX12_years_72 : decode cX12_years 72 = .ok (.iconst 2, 1) := by decide +kernel
theorem dX12_years_73 : decode cX12_years 73 = .ok (.invokevirtual 164, 3) := by decide +kernel
theorem dX12_years_76 : decode cX12_years 76 = .ok (.pop, 1) := by decide +kernel
theorem dX12_years_77 : decode cX12_years 77 = .ok (.aload_n 0, 1) := by decide +kernel
theorem dX12_years_78 : decode cX12_years 78 = .ok (.getfield 152, 3) := by decide +kernel
theorem dX12_years_81 : decode cX12_years 81 = .ok (.ifCond .ne 50, 3) := by decide +kernel
theorem dX12_years_84 : decode cX12_years 84 = .ok (.aload_n 0, 1) := by decide +kernel
theorem dX12_years_85 : decode cX12_years 85 = .ok (.getfield 7, 3) := by decide +kernel
theorem dX12_years_88 : decode cX12_years 88 = .ok (.iconst 5, 1) := by decide +kernel
theorem dX12_years_89 : decode cX12_years 89 = .ok (.aload_n 0, 1) := by decide +kernel
theorem dX12_years_90 : decode cX12_years 90 = .ok (.getfield 7, 3) := by decide +kernel
theorem dX12_years_93 : decode cX12_years 93 = .ok (.sipush 3565, 3) := by decide +kernel
theorem dX12_years_96 : decode cX12_years 96 = .ok (.iaload, 1) := by decide +kernel
theorem dX12_years_97 : decode cX12_years 97 = .ok (.iastore, 1) := by decide +kernel
theorem dX12_years_98 : decode cX12_years 98 = .ok (.sipush 520, 3) := by decide +kernel
theorem dX12_years_101 : decode cX12_years 101 = .ok (.istore_n 3, 1) := by decide +kernel
theorem dX12_years_102 : decode cX12_years 102 = .ok (.iload_n 3, 1) := by decide +kernel
theorem dX12_years_103 : decode cX12_years 103 = .ok (.sipush 884, 3) := by decide +kernel
theorem dX12_years_106 : decode cX12_years 106 = .ok (.if_icmp .ge 25, 3) := by decide +kernel
theorem dX12_years_109 : decode cX12_years 109 = .ok (.aload_n 0, 1) := by decide +kernel
theorem dX12_years_110 : decode cX12_years 110 = .ok (.getfield 7, 3) := by decide +kernel
theorem dX12_years_113 : decode cX12_years 113 = .ok (.iload_n 3, 1) := by decide +kernel
theorem dX12_years_114 : decode cX12_years 114 = .ok (.aload_n 0, 1) := by decide +kernel
theorem dX12_years_115 : decode cX12_years 115 = .ok (.getfield 7, 3) := by decide +kernel
theorem dX12_years_118 : decode cX12_years 118 = .ok (.sipush 3560, 3) := by decide +kernel
theorem dX12_years_121 : decode cX12_years 121 = .ok (.iload_n 3, 1) := by decide +kernel
theorem dX12_years_122 : decode cX12_years 122 = .ok (.iadd, 1) := by decide +kernel
theorem dX12_years_123 : decode cX12_years 123 = .ok (.iaload, 1) := by decide +kernel
theorem dX12_years_124 : decode cX12_years 124 = .ok (.iastore, 1) := by decide +kernel
theorem dX12_years_125 : decode cX12_years 125 = .ok (.iinc 3 1, 3) := by decide +kernel
theorem dX12_years_128 : decode cX12_years 128 = .ok (.goto (-26), 3) := by decide +kernel
theorem dX12_years_131 : decode cX12_years 131 = .ok (.aload_n 0, 1) := by decide +kernel
theorem dX12_years_132 : decode cX12_years 132 = .ok (.aload_n 0, 1) := by decide +kernel
theorem dX12_years_133 : decode cX12_years 133 = .ok (.getfield 234, 3) := by decide +kernel
theorem dX12_years_136 : decode cX12_years 136 = .ok (.invokevirtual 222, 3) := by decide +kernel
theorem dX12_years_139 : decode cX12_years 139 = .ok (.ireturn, 1) := by decide +kernel
