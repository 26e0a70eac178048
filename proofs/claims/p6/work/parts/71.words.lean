theorem qc_X12_isNews : Cond.code yX12_isNews cX12_isNews 3 (some .boolean) ∈ gw := tbt (tb7 (List.mem_of_getElem? (i := 216) rfl)) rfl
theorem qi_yX12_isNews : Cond.instanceMethod yX12_isNews ∈ gw := tbt (tb7 (List.mem_of_getElem? (i := 215) rfl)) rfl
theorem qs_X12_isNews : Cond.selects (yX12_isNews).cls yX12_isNews yX12_isNews ∈ gw := tb0 (List.mem_of_getElem? (i := 76) rfl) rfl
theorem ci_X12_isNews : CIv yX12_isNews cX12_isNews 3 (some .boolean) 2 := ⟨qc_X12_isNews, qi_yX12_isNews, qs_X12_isNews, qz_X12, by decide +kernel⟩
theorem qm_X12_299 : Cond.methodLink RX12 299 yX12_isNews ∈ gw := tbt (tb7 (List.mem_of_getElem? (i := 213) rfl)) rfl
theorem qc_X12_lays : Cond.code yX12_lays cX12_lays 7 none ∈ gw := tbt (tb7 (List.mem_of_getElem? (i := 220) rfl)) rfl
theorem qi_yX12_lays : Cond.instanceMethod yX12_lays ∈ gw := tbt (tb7 (List.mem_of_getElem? (i := 219) rfl)) rfl
theorem qs_X12_lays : Cond.selects (yX12_lays).cls yX12_lays yX12_lays ∈ gw := tb0 (List.mem_of_getElem? (i := 77) rfl) rfl
theorem ci_X12_lays : CIv yX12_lays cX12_lays 7 none 2 := ⟨qc_X12_lays, qi_yX12_lays, qs_X12_lays, qz_X12, by decide +kernel⟩
theorem qm_X12_302 : Cond.methodLink RX12 302 yX12_lays ∈ gw := tbt (tb7 (List.mem_of_getElem? (i := 217) rfl)) rfl
theorem qc_X12_setBy : Cond.code yX12_setBy cX12_setBy 4 (some .int) ∈ gw := tbt (tb7 (List.mem_of_getElem? (i := 236) rfl)) rfl
theorem qi_yX12_setBy : Cond.instanceMethod yX12_setBy ∈ gw := tbt (tb7 (List.mem_of_getElem? (i := 235) rfl)) rfl
theorem qs_X12_setBy : Cond.selects (yX12_setBy).cls yX12_setBy yX12_setBy ∈ gw := tb0 (List.mem_of_getElem? (i := 78) rfl) rfl
theorem ci_X12_setBy : CIv yX12_setBy cX12_setBy 4 (some .int) 1 := ⟨qc_X12_setBy, qi_yX12_setBy, qs_X12_setBy, qz_X12, by decide +kernel⟩
theorem qm_X12_306 : Cond.methodLink RX12 306 yX12_setBy ∈ gw := tbt (tb7 (List.mem_of_getElem? (i := 233) rfl)) rfl
theorem qc_X12_lastOne : Cond.code yX12_lastOne cX12_lastOne 3 (some .int) ∈ gw := tbt (tb8 (List.mem_of_getElem? (i := 13) rfl)) rfl
theorem qi_yX12_lastOne : Cond.instanceMethod yX12_lastOne ∈ gw := tbt (tb8 (List.mem_of_getElem? (i := 12) rfl)) rfl
theorem qs_X12_lastOne : Cond.selects (yX12_lastOne).cls yX12_lastOne yX12_lastOne ∈ gw := tb0 (List.mem_of_getElem? (i := 79) rfl) rfl
theorem ci_X12_lastOne : CIv yX12_lastOne cX12_lastOne 3 (some .int) 0 := ⟨qc_X12_lastOne, qi_yX12_lastOne, qs_X12_lastOne, qz_X12, by decide +kernel⟩
theorem qm_X12_311 : Cond.methodLink RX12 311 yX12_lastOne ∈ gw := tbt (tb8 (List.mem_of_getElem? (i := 10) rfl)) rfl
theorem qk_X12_314 : Cond.constant RX12 314 (999999) ∈ gw := tbt (tb8 (List.mem_of_getElem? (i := 22) rfl)) rfl
theorem qk_X12_136 : Cond.constant RX12 136 (100000) ∈ gw := tbt (tb6 (List.mem_of_getElem? (i := 230) rfl)) rfl
theorem qc_X12_isTray : Cond.code yX12_isTray cX12_isTray 1 (some .boolean) ∈ gw := tbt (tb6 (List.mem_of_getElem? (i := 171) rfl)) rfl
theorem qt_yX12_isTray : Cond.static yX12_isTray ∈ gw := tbt (tb6 (List.mem_of_getElem? (i := 170) rfl)) rfl
theorem ci_X12_isTray : CIs yX12_isTray cX12_isTray 1 (some .boolean) 1 := ⟨qc_X12_isTray, qt_yX12_isTray, qz_X12, by decide +kernel⟩
theorem qm_X12_93 : Cond.methodLink RX12 93 yX12_isTray ∈ gw := tbt (tb6 (List.mem_of_getElem? (i := 169) rfl)) rfl
theorem qf_X12_24 : Cond.fieldLink RX12 24 "SlowWorldsModel" "trayMany" "[I" ∈ gw := tbt (tb6 (List.mem_of_getElem? (i := 50) rfl)) rfl
theorem qf_X12_27 : Cond.fieldLink RX12 27 "SlowWorldsModel" "trays" "[J" ∈ gw := tbt (tb6 (List.mem_of_getElem? (i := 51) rfl)) rfl
theorem qk_X12_309 : Cond.constantLong RX12 309 (500) ∈ gw := tbt (tb8 (List.mem_of_getElem? (i := 5) rfl)) rfl
theorem dX12_centre_0 : decode cX12_centre 0 = .ok (.iload_n 1, 1) := by decide +kernel
theorem dX12_centre_1 : decode cX12_centre 1 = .ok (.invokestatic 268, 3) := by decide +kernel
theorem dX12_centre_4 : decode cX12_centre 4 = .ok (.ifCond .ne 9, 3) := by decide +kernel
theorem dX12_centre_7 : decode cX12_centre 7 = .ok (.aload_n 0, 1) := by decide +kernel
theorem dX12_centre_8 : decode cX12_centre 8 = .ok (.iconst 1, 1) := by decide +kernel
theorem dX12_centre_9 : decode cX12_centre 9 = .ok (.invokevirtual 81, 3) := by decide +kernel
theorem dX12_centre_12 : decode cX12_centre 12 = .ok (.ireturn, 1) := by decide +kernel
theorem dX12_centre_13 : decode cX12_centre 13 = .ok (.iconst (-1), 1) := by decide +kernel
theorem dX12_centre_14 : decode cX12_centre 14 = .ok (.istore_n 2, 1) := by decide +kernel
theorem dX12_centre_15 : decode cX12_centre 15 = .ok (.ldc 88, 2) := by decide +kernel
theorem dX12_centre_17 : decode cX12_centre 17 = .ok (.istore_n 3, 1) := by decide +kernel
theorem dX12_centre_18 : decode cX12_centre 18 = .ok (.iconst 0, 1) := by decide +kernel
theorem dX12_centre_19 : decode cX12_centre 19 = .ok (.istore 4, 2) := by decide +kernel
theorem dX12_centre_21 : decode cX12_centre 21 = .ok (.iload 4, 2) := by decide +kernel
theorem dX12_centre_23 : decode cX12_centre 23 = .ok (.aload_n 0, 1) := by decide +kernel
theorem dX12_centre_24 : decode cX12_centre 24 = .ok (.getfield 7, 3) := by decide +kernel
theorem dX12_centre_27 : decode cX12_centre 27 = .ok (.iconst 0, 1) := by decide +kernel
theorem dX12_centre_28 : decode cX12_centre 28 = .ok (.iaload, 1) := by decide +kernel
theorem dX12_centre_29 : decode cX12_centre 29 = .ok (.if_icmp .ge 45, 3) := by decide +kernel
theorem dX12_centre_32 : decode cX12_centre 32 = .ok (.aload_n 0, 1) := by decide +kernel
theorem dX12_centre_33 : decode cX12_centre 33 = .ok (.iload 4, 2) := by decide +kernel
theorem dX12_centre_35 : decode cX12_centre 35 = .ok (.iload_n 1, 1) := by decide +kernel
theorem dX12_centre_36 : decode cX12_centre 36 = .ok (.invokevirtual 302, 3) := by decide +kernel
theorem dX12_centre_39 : decode cX12_centre 39 = .ok (.aload_n 0, 1) := by decide +kernel
theorem dX12_centre_40 : decode cX12_centre 40 = .ok (.getfield 47, 3) := by decide +kernel
theorem dX12_centre_43 : decode cX12_centre 43 = .ok (.aload_n 0, 1) := by decide +kernel
theorem dX12_centre_44 : decode cX12_centre 44 = .ok (.invokevirtual 311, 3) := by decide +kernel
theorem dX12_centre_47 : decode cX12_centre 47 = .ok (.iaload, 1) := by decide +kernel
theorem dX12_centre_48 : decode cX12_centre 48 = .ok (.iload_n 3, 1) := by decide +kernel
theorem dX12_centre_49 : decode cX12_centre 49 = .ok (.if_icmp .lt 6, 3) := by decide +kernel
theorem dX12_centre_52 : decode cX12_centre 52 = .ok (.goto 16, 3) := by decide +kernel
theorem dX12_centre_55 : decode cX12_centre 55 = .ok (.aload_n 0, 1) := by decide +kernel
theorem dX12_centre_56 : decode cX12_centre 56 = .ok (.getfield 47, 3) := by decide +kernel
theorem dX12_centre_59 : decode cX12_centre 59 = .ok (.aload_n 0, 1) := by decide +kernel
theorem dX12_centre_60 : decode cX12_centre 60 = .ok (.invokevirtual 311, 3) := by decide +kernel
theorem dX12_centre_63 : decode cX12_centre 63 = .ok (.iaload, 1) := by decide +kernel
theorem dX12_centre_64 : decode cX12_centre 64 = .ok (.istore_n 3, 1) := by decide +kernel
theorem dX12_centre_65 : decode cX12_centre 65 = .ok (.iload 4, 2) := by decide +kernel
theorem dX12_centre_67 : decode cX12_centre 67 = .ok (.istore_n 2, 1) := by decide +kernel
theorem dX12_centre_68 : decode cX12_centre 68 = .ok (.iinc 4 1, 3) := by decide +kernel
theorem dX12_centre_71 : decode cX12_centre 71 = .ok (.goto (-50), 3) := by decide +kernel
theorem dX12_centre_74 : decode cX12_centre 74 = .ok (.aload_n 0, 1) := by decide +kernel
theorem dX12_centre_75 : decode cX12_centre 75 = .ok (.iload_n 2, 1) := by decide +kernel
theorem dX12_centre_76 : decode cX12_centre 76 = .ok (.invokevirtual 290, 3) := by decide +kernel
theorem dX12_centre_79 : decode cX12_centre 79 = .ok (.ireturn, 1) := by decide +kernel
theorem dX12_cutOff_0 : decode cX12_cutOff 0 = .ok (.aload_n 0, 1) := by decide +kernel
theorem dX12_cutOff_1 : decode cX12_cutOff 1 = .ok (.iload_n 1, 1) := by decide +kernel
theorem dX12_cutOff_2 : decode cX12_cutOff 2 = .ok (.iload_n 2, 1) := by decide +kernel
theorem dX12_cutOff_3 : decode cX12_cutOff 3 = .ok (.invokevirtual 299, 3) := by decide +kernel
theorem dX12_cutOff_6 : decode cX12_cutOff 6 = .ok (.ifCond .ne 9, 3) := by decide +kernel
theorem dX12_cutOff_9 : decode cX12_cutOff 9 = .ok (.aload_n 0, 1) := by decide +kernel
theorem dX12_cutOff_10 : decode cX12_cutOff 10 = .ok (.iconst 1, 1) := by decide +kernel
theorem dX12_cutOff_11 : decode cX12_cutOff 11 = .ok (.invokevirtual 81, 3) := by decide +kernel
theorem dX12_cutOff_14 : decode cX12_cutOff 14 = .ok (.ireturn, 1) := by decide +kernel
theorem dX12_cutOff_15 : decode cX12_cutOff 15 = .ok (.aload_n 0, 1) := by decide +kernel
theorem dX12_cutOff_16 : decode cX12_cutOff 16 = .ok (.iload_n 1, 1) := by decide +kernel
theorem dX12_cutOff_17 : decode cX12_cutOff 17 = .ok (.iload_n 2, 1) := by decide +kernel
theorem dX12_cutOff_18 : decode cX12_cutOff 18 = .ok (.invokevirtual 302, 3) := by decide +kernel
theorem dX12_cutOff_21 : decode cX12_cutOff 21 = .ok (.aload_n 0, 1) := by decide +kernel
theorem dX12_cutOff_22 : decode cX12_cutOff 22 = .ok (.iconst 1, 1) := by decide +kernel
theorem dX12_cutOff_23 : decode cX12_cutOff 23 = .ok (.aload_n 0, 1) := by decide +kernel
theorem dX12_cutOff_24 : decode cX12_cutOff 24 = .ok (.getfield 7, 3) := by decide +kernel
theorem dX12_cutOff_27 : decode cX12_cutOff 27 = .ok (.iconst 0, 1) := by decide +kernel
theorem dX12_cutOff_28 : decode cX12_cutOff 28 = .ok (.iaload, 1) := by decide +kernel
theorem dX12_cutOff_29 : decode cX12_cutOff 29 = .ok (.ishl, 1) := by decide +kernel
theorem dX12_cutOff_30 : decode cX12_cutOff 30 = .ok (.iconst 1, 1) := by decide +kernel
theorem dX12_cutOff_31 : decode cX12_cutOff 31 = .ok (.isub, 1) := by decide +kernel
theorem dX12_cutOff_32 : decode cX12_cutOff 32 = .ok (.aload_n 0, 1) := by decide +kernel
theorem dX12_cutOff_33 : decode cX12_cutOff 33 = .ok (.ldc_w 314, 3) := by decide +kernel
theorem dX12_cutOff_36 : decode cX12_cutOff 36 = .ok (.invokevirtual 306, 3) := by decide +kernel
theorem dX12_cutOff_39 : decode cX12_cutOff 39 = .ok (.iconst (-1), 1) := by decide +kernel
theorem dX12_cutOff_40 : decode cX12_cutOff 40 = .ok (.ixor, 1) := by decide +kernel
theorem dX12_cutOff_41 : decode cX12_cutOff 41 = .ok (.iand, 1) := by decide +kernel
theorem dX12_cutOff_42 : decode cX12_cutOff 42 = .ok (.invokevirtual 85, 3) := by decide +kernel
theorem dX12_cutOff_45 : decode cX12_cutOff 45 = .ok (.ireturn, 1) := by decide +kernel
theorem dX12_early_0 : decode cX12_early 0 = .ok (.aload_n 0, 1) := by decide +kernel
theorem dX12_early_1 : decode cX12_early 1 = .ok (.iload_n 1, 1) := by decide +kernel
theorem dX12_early_2 : decode cX12_early 2 = .ok (.iload_n 2, 1) := by decide +kernel
theorem dX12_early_3 : decode cX12_early 3 = .ok (.invokevirtual 299, 3) := by decide +kernel
theorem dX12_early_6 : decode cX12_early 6 = .ok (.ifCond .eq 10, 3) := by decide +kernel
theorem dX12_early_9 : decode cX12_early 9 = .ok (.iload_n 3, 1) := by decide +kernel
theorem dX12_early_10 : decode cX12_early 10 = .ok (.invokestatic 93, 3) := by decide +kernel
theorem dX12_early_13 : decode cX12_early 13 = .ok (.ifCond .ne 9, 3) := by decide +kernel
theorem dX12_early_16 : decode cX12_early 16 = .ok (.aload_n 0, 1) := by decide +kernel
theorem dX12_early_17 : decode cX12_early 17 = .ok (.iconst 1, 1) := by decide +kernel
theorem dX12_early_18 : decode cX12_early 18 = .ok (.invokevirtual 81, 3) := by decide +kernel
theorem dX12_early_21 : decode cX12_early 21 = .ok (.ireturn, 1) := by decide +kernel
theorem dX12_early_22 : decode cX12_early 22 = .ok (.aload_n 0, 1) := by decide +kernel
theorem dX12_early_23 : decode cX12_early 23 = .ok (.getfield 24, 3) := by decide +kernel
theorem dX12_early_26 : decode cX12_early 26 = .ok (.iload_n 3, 1) := by decide +kernel
theorem dX12_early_27 : decode cX12_early 27 = .ok (.iaload, 1) := by decide +kernel
theorem dX12_early_28 : decode cX12_early 28 = .ok (.iconst (-1), 1) := by decide +kernel
theorem dX12_early_29 : decode cX12_early 29 = .ok (.if_icmp .ne 9, 3) := by decide +kernel
theorem dX12_early_32 : decode cX12_early 32 = .ok (.aload_n 0, 1) := by decide +kernel
theorem dX12_early_33 : decode cX12_early 33 = .ok (.iconst 2, 1) := by decide +kernel
theorem dX12_early_34 : decode cX12_early 34 = .ok (.invokevirtual 81, 3) := by decide +kernel
theorem dX12_early_37 : decode cX12_early 37 = .ok (.ireturn, 1) := by decide +kernel
theorem dX12_early_38 : decode cX12_early 38 = .ok (.aload_n 0, 1) := by decide +kernel
theorem dX12_early_39 : decode cX12_early 39 = .ok (.getfield 24, 3) := by decide +kernel
theorem dX12_early_42 : decode cX12_early 42 = .ok (.iload_n 3, 1) := by decide +kernel
theorem dX12_early_43 : decode cX12_early 43 = .ok (.iaload, 1) := by decide +kernel
theorem dX12_early_44 : decode cX12_early 44 = .ok (.aload_n 0, 1) := by decide +kernel
theorem dX12_early_45 : decode cX12_early 45 = .ok (.getfield 7, 3) := by decide +kernel
theorem dX12_early_48 : decode cX12_early 48 = .ok (.iconst 0, 1) := by decide +kernel
theorem dX12_early_49 : decode cX12_early 49 = .ok (.iaload, 1) := by decide +kernel
theorem dX12_early_50 : decode cX12_early 50 = .ok (.if_icmp .ge 9, 3) := by decide +kernel
theorem dX12_early_53 : decode cX12_early 53 = .ok (.aload_n 0, 1) := by decide +kernel
theorem dX12_early_54 : decode cX12_early 54 = .ok (.iconst 3, 1) := by decide +kernel
theorem dX12_early_55 : decode cX12_early 55 = .ok (.invokevirtual 81, 3) := by decide +kernel
theorem dX12_early_58 : decode cX12_early 58 = .ok (.ireturn, 1) := by decide +kernel
theorem dX12_early_59 : decode cX12_early 59 = .ok (.iconst 0, 1) := by decide +kernel
theorem dX12_early_60 : decode cX12_early 60 = .ok (.istore 4, 2) := by decide +kernel
theorem dX12_early_62 : decode cX12_early 62 = .ok (.iload 4, 2) := by decide +kernel
theorem dX12_early_64 : decode cX12_early 64 = .ok (.aload_n 0, 1) := by decide +kernel
theorem dX12_early_65 : decode cX12_early 65 = .ok (.getfield 7, 3) := by decide +kernel
theorem dX12_early_68 : decode cX12_early 68 = .ok (.iconst 0, 1) := by decide +kernel
theorem dX12_early_69 : decode cX12_early 69 = .ok (.iaload, 1) := by decide +kernel
theorem dX12_early_70 : decode cX12_early 70 = .ok (.if_icmp .ge 37, 3) := by decide +kernel
theorem dX12_early_73 : decode cX12_early 73 = .ok (.aload_n 0, 1) := by decide +kernel
theorem dX12_early_74 : decode cX12_early 74 = .ok (.getfield 27, 3) := by decide +kernel
theorem dX12_early_77 : decode cX12_early 77 = .ok (.bipush 60, 2) := by decide +kernel
theorem dX12_early_79 : decode cX12_early 79 = .ok (.iload_n 3, 1) := by decide +kernel
theorem dX12_early_80 : decode cX12_early 80 = .ok (.imul, 1) := by decide +kernel
theorem dX12_early_81 : decode cX12_early 81 = .ok (.iload 4, 2) := by decide +kernel
theorem dX12_early_83 : decode cX12_early 83 = .ok (.iadd, 1) := by decide +kernel
theorem dX12_early_84 : decode cX12_early 84 = .ok (.laload, 1) := by decide +kernel
theorem dX12_early_85 : decode cX12_early 85 = .ok (.lconst 0, 1) := by decide +kernel
theorem dX12_early_86 : decode cX12_early 86 = .ok (.ldc2_w 309, 3) := by decide +kernel
theorem dX12_early_89 : decode cX12_early 89 = .ok (.invokestatic 295, 3) := by decide +kernel
theorem dX12_early_92 : decode cX12_early 92 = .ok (.ifCond .ne 9, 3) := by decide +kernel
theorem dX12_early_95 : decode cX12_early 95 = .ok (.aload_n 0, 1) := by decide +kernel
theorem dX12_early_96 : decode cX12_early 96 = .ok (.iconst 5, 1) := by decide +kernel
theorem dX12_early_97 : decode cX12_early 97 = .ok (.invokevirtual 81, 3) := by decide +kernel
theorem dX12_early_100 : decode cX12_early 100 = .ok (.ireturn, 1) := by decide +kernel
theorem dX12_early_101 : decode cX12_early 101 = .ok (.iinc 4 1, 3) := by decide +kernel
theorem dX12_early_104 : decode cX12_early 104 = .ok (.goto (-42), 3) := by decide +kernel
theorem dX12_early_107 : decode cX12_early 107 = .ok (.aload_n 0, 1) := by decide +kernel
theorem dX12_early_108 : decode cX12_early 108 = .ok (.iload_n 1, 1) := by decide +kernel
theorem dX12_early_109 : decode cX12_early 109 = .ok (.iload_n 2, 1) := by decide +kernel
theorem dX12_early_110 : decode cX12_early 110 = .ok (.invokevirtual 302, 3) := by decide +kernel
theorem dX12_early_113 : decode cX12_early 113 = .ok (.iconst 0, 1) := by decide +kernel
theorem dX12_early_114 : decode cX12_early 114 = .ok (.istore 4, 2) := by decide +kernel
theorem dX12_early_116 : decode cX12_early 116 = .ok (.iconst 0, 1) := by decide +kernel
theorem dX12_early_117 : decode cX12_early 117 = .ok (.istore 5, 2) := by decide +kernel
theorem dX12_early_119 : decode cX12_early 119 = .ok (.iload 5, 2) := by decide +kernel
theorem dX12_early_121 : decode cX12_early 121 = .ok (.aload_n 0, 1) := by decide +kernel
theorem dX12_early_122 : decode cX12_early 122 = .ok (.getfield 7, 3) := by decide +kernel
theorem dX12_early_125 : decode cX12_early 125 = .ok (.iconst 0, 1) := by decide +kernel
theorem dX12_early_126 : decode cX12_early 126 = .ok (.iaload, 1) := by decide +kernel
theorem dX12_early_127 : decode cX12_early 127 = .ok (.if_icmp .ge 46, 3) := by decide +kernel
theorem dX12_early_130 : decode cX12_early 130 = .ok (.iload 4, 2) := by decide +kernel
theorem dX12_early_132 : decode cX12_early 132 = .ok (.aload_n 0, 1) := by decide +kernel
theorem dX12_early_133 : decode cX12_early 133 = .ok (.getfield 27, 3) := by decide +kernel
theorem dX12_early_136 : decode cX12_early 136 = .ok (.bipush 60, 2) := by decide +kernel
theorem dX12_early_138 : decode cX12_early 138 = .ok (.iload_n 3, 1) := by decide +kernel
theorem dX12_early_139 : decode cX12_early 139 = .ok (.imul, 1) := by decide +kernel
theorem dX12_early_140 : decode cX12_early 140 = .ok (.iload 5, 2) := by decide +kernel
theorem dX12_early_142 : decode cX12_early 142 = .ok (.iadd, 1) := by decide +kernel
theorem dX12_early_143 : decode cX12_early 143 = .ok (.laload, 1) := by decide +kernel
theorem dX12_early_144 : decode cX12_early 144 = .ok (.aload_n 0, 1) := by decide +kernel
theorem dX12_early_145 : decode cX12_early 145 = .ok (.getfield 47, 3) := by decide +kernel
theorem dX12_early_148 : decode cX12_early 148 = .ok (.iload 5, 2) := by decide +kernel
theorem dX12_early_150 : decode cX12_early 150 = .ok (.iaload, 1) := by decide +kernel
theorem dX12_early_151 : decode cX12_early 151 = .ok (.i2l, 1) := by decide +kernel
theorem dX12_early_152 : decode cX12_early 152 = .ok (.lcmp, 1) := by decide +kernel
theorem dX12_early_153 : decode cX12_early 153 = .ok (.ifCond .ge 10, 3) := by decide +kernel
theorem dX12_early_156 : decode cX12_early 156 = .ok (.iconst 1, 1) := by decide +kernel
theorem dX12_early_157 : decode cX12_early 157 = .ok (.iload 5, 2) := by decide +kernel
theorem dX12_early_159 : decode cX12_early 159 = .ok (.ishl, 1) := by decide +kernel
theorem dX12_early_160 : decode cX12_early 160 = .ok (.goto 4, 3) := by decide +kernel
theorem dX12_early_163 : decode cX12_early 163 = .ok (.iconst 0, 1) := by decide +kernel
theorem dX12_early_164 : decode cX12_early 164 = .ok (.ior, 1) := by decide +kernel
theorem dX12_early_165 : decode cX12_early 165 = .ok (.istore 4, 2) := by decide +kernel
theorem dX12_early_167 : decode cX12_early 167 = .ok (.iinc 5 1, 3) := by decide +kernel
theorem dX12_early_170 : decode cX12_early 170 = .ok (.goto (-51), 3) := by decide +kernel
theorem dX12_early_173 : decode cX12_early 173 = .ok (.aload_n 0, 1) := by decide +kernel
theorem dX12_early_174 : decode cX12_early 174 = .ok (.iload 4, 2) := by decide +kernel
theorem dX12_early_176 : decode cX12_early 176 = .ok (.invokevirtual 85, 3) := by decide +kernel
theorem dX12_early_179 : decode cX12_early 179 = .ok (.ireturn, 1) := by decide +kernel
theorem dX12_hearsBack_0 : decode cX12_hearsBack 0 = .ok (.aload_n 0, 1) := by decide +kernel
theorem dX12_hearsBack_1 : decode cX12_hearsBack 1 = .ok (.iload_n 1, 1) := by decide +kernel
theorem dX12_hearsBack_2 : decode cX12_hearsBack 2 = .ok (.iload_n 2, 1) := by decide +kernel
theorem dX12_hearsBack_3 : decode cX12_hearsBack 3 = .ok (.invokevirtual 299, 3) := by decide +kernel
theorem dX12_hearsBack_6 : decode cX12_hearsBack 6 = .ok (.ifCond .ne 9, 3) := by decide +kernel
theorem dX12_hearsBack_9 : decode cX12_hearsBack 9 = .ok (.aload_n 0, 1) := by decide +kernel
theorem dX12_hearsBack_10 : decode cX12_hearsBack 10 = .ok (.iconst 1, 1) := by decide +kernel
theorem dX12_hearsBack_11 : decode cX12_hearsBack 11 = .ok (.invokevirtual 81, 3) := by decide +kernel
theorem dX12_hearsBack_14 : decode cX12_hearsBack 14 = .ok (.ireturn, 1) := by decide +kernel
theorem dX12_hearsBack_15 : decode cX12_hearsBack 15 = .ok (.aload_n 0, 1) := by decide +kernel
theorem dX12_hearsBack_16 : decode cX12_hearsBack 16 = .ok (.iload_n 1, 1) := by decide +kernel
theorem dX12_hearsBack_17 : decode cX12_hearsBack 17 = .ok (.iload_n 2, 1) := by decide +kernel
theorem dX12_hearsBack_18 : decode cX12_hearsBack 18 = .ok (.invokevirtual 302, 3) := by decide +kernel
theorem dX12_hearsBack_21 : decode cX12_hearsBack 21 = .ok (.ldc 88, 2) := by decide +kernel
theorem dX12_hearsBack_23 : decode cX12_hearsBack 23 = .ok (.istore_n 3, 1) := by decide +kernel
theorem dX12_hearsBack_24 : decode cX12_hearsBack 24 = .ok (.iconst 0, 1) := by decide +kernel
theorem dX12_hearsBack_25 : decode cX12_hearsBack 25 = .ok (.istore 4, 2) := by decide +kernel
theorem dX12_hearsBack_27 : decode cX12_hearsBack 27 = .ok (.iload 4, 2) := by decide +kernel
theorem dX12_hearsBack_29 : decode cX12_hearsBack 29 = .ok (.aload_n 0, 1) := by decide +kernel
theorem dX12_hearsBack_30 : decode cX12_hearsBack 30 = .ok (.getfield 7, 3) := by decide +kernel
theorem dX12_hearsBack_33 : decode cX12_hearsBack 33 = .ok (.iconst 0, 1) := by decide +kernel
theorem dX12_hearsBack_34 : decode cX12_hearsBack 34 = .ok (.iaload, 1) := by decide +kernel
theorem dX12_hearsBack_35 : decode cX12_hearsBack 35 = .ok (.if_icmp .ge 34, 3) := by decide +kernel
theorem dX12_hearsBack_38 : decode cX12_hearsBack 38 = .ok (.iload 4, 2) := by decide +kernel
theorem dX12_hearsBack_40 : decode cX12_hearsBack 40 = .ok (.iload_n 1, 1) := by decide +kernel
theorem dX12_hearsBack_41 : decode cX12_hearsBack 41 = .ok (.if_icmp .eq 22, 3) := by decide +kernel
theorem dX12_hearsBack_44 : decode cX12_hearsBack 44 = .ok (.iload_n 3, 1) := by decide +kernel
theorem dX12_hearsBack_45 : decode cX12_hearsBack 45 = .ok (.aload_n 0, 1) := by decide +kernel
theorem dX12_hearsBack_46 : decode cX12_hearsBack 46 = .ok (.iload 4, 2) := by decide +kernel
theorem dX12_hearsBack_48 : decode cX12_hearsBack 48 = .ok (.aload_n 0, 1) := by decide +kernel
theorem dX12_hearsBack_49 : decode cX12_hearsBack 49 = .ok (.getfield 47, 3) := by decide +kernel
theorem dX12_hearsBack_52 : decode cX12_hearsBack 52 = .ok (.iload 4, 2) := by decide +kernel
theorem dX12_hearsBack_54 : decode cX12_hearsBack 54 = .ok (.iaload, 1) := by decide +kernel
theorem dX12_hearsBack_55 : decode cX12_hearsBack 55 = .ok (.iload_n 1, 1) := by decide +kernel
theorem dX12_hearsBack_56 : decode cX12_hearsBack 56 = .ok (.invokevirtual 280, 3) := by decide +kernel
theorem dX12_hearsBack_59 : decode cX12_hearsBack 59 = .ok (.invokestatic 137, 3) := by decide +kernel
theorem dX12_hearsBack_62 : decode cX12_hearsBack 62 = .ok (.istore_n 3, 1) := by decide +kernel
theorem dX12_hearsBack_63 : decode cX12_hearsBack 63 = .ok (.iinc 4 1, 3) := by decide +kernel
theorem dX12_hearsBack_66 : decode cX12_hearsBack 66 = .ok (.goto (-39), 3) := by decide +kernel
theorem dX12_hearsBack_69 : decode cX12_hearsBack 69 = .ok (.aload_n 0, 1) := by decide +kernel
theorem dX12_hearsBack_70 : decode cX12_hearsBack 70 = .ok (.iload_n 3, 1) := by decide +kernel
theorem dX12_hearsBack_71 : decode cX12_hearsBack 71 = .ok (.invokevirtual 284, 3) := by decide +kernel
theorem dX12_hearsBack_74 : decode cX12_hearsBack 74 = .ok (.ireturn, 1) := by decide +kernel
theorem dX12_hops_0 : decode cX12_hops 0 = .ok (.aload_n 0, 1) := by decide +kernel
theorem dX12_hops_1 : decode cX12_hops 1 = .ok (.iload_n 1, 1) := by decide +kernel
theorem dX12_hops_2 : decode cX12_hops 2 = .ok (.iload_n 2, 1) := by decide +kernel
theorem dX12_hops_3 : decode cX12_hops 3 = .ok (.invokevirtual 299, 3) := by decide +kernel
theorem dX12_hops_6 : decode cX12_hops 6 = .ok (.ifCond .eq 11, 3) := by decide +kernel
theorem dX12_hops_9 : decode cX12_hops 9 = .ok (.aload_n 0, 1) := by decide +kernel
theorem dX12_hops_10 : decode cX12_hops 10 = .ok (.iload_n 3, 1) := by decide +kernel
theorem dX12_hops_11 : decode cX12_hops 11 = .ok (.invokevirtual 243, 3) := by decide +kernel
theorem dX12_hops_14 : decode cX12_hops 14 = .ok (.ifCond .ne 9, 3) := by decide +kernel
theorem dX12_hops_17 : decode cX12_hops 17 = .ok (.aload_n 0, 1) := by decide +kernel
theorem dX12_hops_18 : decode cX12_hops 18 = .ok (.iconst 1, 1) := by decide +kernel
theorem dX12_hops_19 : decode cX12_hops 19 = .ok (.invokevirtual 81, 3) := by decide +kernel
theorem dX12_hops_22 : decode cX12_hops 22 = .ok (.ireturn, 1) := by decide +kernel
theorem dX12_hops_23 : decode cX12_hops 23 = .ok (.aload_n 0, 1) := by decide +kernel
theorem dX12_hops_24 : decode cX12_hops 24 = .ok (.iload_n 1, 1) := by decide +kernel
theorem dX12_hops_25 : decode cX12_hops 25 = .ok (.iload_n 2, 1) := by decide +kernel
theorem dX12_hops_26 : decode cX12_hops 26 = .ok (.invokevirtual 302, 3) := by decide +kernel
theorem dX12_hops_29 : decode cX12_hops 29 = .ok (.aload_n 0, 1) := by decide +kernel
theorem dX12_hops_30 : decode cX12_hops 30 = .ok (.getfield 47, 3) := by decide +kernel
theorem dX12_hops_33 : decode cX12_hops 33 = .ok (.iload_n 3, 1) := by decide +kernel
theorem dX12_hops_34 : decode cX12_hops 34 = .ok (.iaload, 1) := by decide +kernel
theorem dX12_hops_35 : decode cX12_hops 35 = .ok (.ldc 88, 2) := by decide +kernel
theorem dX12_hops_37 : decode cX12_hops 37 = .ok (.if_icmp .ne 12, 3) := by decide +kernel
theorem dX12_hops_40 : decode cX12_hops 40 = .ok (.aload_n 0, 1) := by decide +kernel
theorem dX12_hops_41 : decode cX12_hops 41 = .ok (.bipush 6, 2) := by decide +kernel
theorem dX12_hops_43 : decode cX12_hops 43 = .ok (.invokevirtual 81, 3) := by decide +kernel
theorem dX12_hops_46 : decode cX12_hops 46 = .ok (.goto 13, 3) := by decide +kernel
theorem dX12_hops_49 : decode cX12_hops 49 = .ok (.aload_n 0, 1) := by decide +kernel
theorem dX12_hops_50 : decode cX12_hops 50 = .ok (.aload_n 0, 1) := by decide +kernel
theorem dX12_hops_51 : decode cX12_hops 51 = .ok (.getfield 53, 3) := by decide +kernel
theorem dX12_hops_54 : decode cX12_hops 54 = .ok (.iload_n 3, 1) := by decide +kernel
theorem dX12_hops_55 : decode cX12_hops 55 = .ok (.iaload, 1) := by decide +kernel
theorem dX12_hops_56 : decode cX12_hops 56 = .ok (.invokevirtual 85, 3) := by decide +kernel
theorem dX12_hops_59 : decode cX12_hops 59 = .ok (.ireturn, 1) := by decide +kernel
theorem dX12_knowing_0 : decode cX12_knowing 0 = .ok (.aload_n 0, 1) := by decide +kernel
theorem dX12_knowing_1 : decode cX12_knowing 1 = .ok (.iload_n 1, 1) := by decide +kernel
theorem dX12_knowing_2 : decode cX12_knowing 2 = .ok (.iload_n 2, 1) := by decide +kernel
theorem dX12_knowing_3 : decode cX12_knowing 3 = .ok (.invokevirtual 299, 3) := by decide +kernel
theorem dX12_knowing_6 : decode cX12_knowing 6 = .ok (.ifCond .eq 10, 3) := by decide +kernel
theorem dX12_knowing_9 : decode cX12_knowing 9 = .ok (.iload_n 3, 1) := by decide +kernel
theorem dX12_knowing_10 : decode cX12_knowing 10 = .ok (.invokestatic 258, 3) := by decide +kernel
theorem dX12_knowing_13 : decode cX12_knowing 13 = .ok (.ifCond .ne 9, 3) := by decide +kernel
theorem dX12_knowing_16 : decode cX12_knowing 16 = .ok (.aload_n 0, 1) := by decide +kernel
theorem dX12_knowing_17 : decode cX12_knowing 17 = .ok (.iconst 1, 1) := by decide +kernel
theorem dX12_knowing_18 : decode cX12_knowing 18 = .ok (.invokevirtual 81, 3) := by decide +kernel
theorem dX12_knowing_21 : decode cX12_knowing 21 = .ok (.ireturn, 1) := by decide +kernel
theorem dX12_knowing_22 : decode cX12_knowing 22 = .ok (.aload_n 0, 1) := by decide +kernel
theorem dX12_knowing_23 : decode cX12_knowing 23 = .ok (.iload_n 1, 1) := by decide +kernel
theorem dX12_knowing_24 : decode cX12_knowing 24 = .ok (.iload_n 2, 1) := by decide +kernel
theorem dX12_knowing_25 : decode cX12_knowing 25 = .ok (.invokevirtual 302, 3) := by decide +kernel
theorem dX12_knowing_28 : decode cX12_knowing 28 = .ok (.aload_n 0, 1) := by decide +kernel
theorem dX12_knowing_29 : decode cX12_knowing 29 = .ok (.aload_n 0, 1) := by decide +kernel
theorem dX12_knowing_30 : decode cX12_knowing 30 = .ok (.iload_n 3, 1) := by decide +kernel
theorem dX12_knowing_31 : decode cX12_knowing 31 = .ok (.invokevirtual 306, 3) := by decide +kernel
theorem dX12_knowing_34 : decode cX12_knowing 34 = .ok (.invokevirtual 85, 3) := by decide +kernel
theorem dX12_knowing_37 : decode cX12_knowing 37 = .ok (.ireturn, 1) := by decide +kernel
theorem dX12_knows_0 : decode cX12_knows 0 = .ok (.aload_n 0, 1) := by decide +kernel
theorem dX12_knows_1 : decode cX12_knows 1 = .ok (.iload_n 1, 1) := by decide +kernel
theorem dX12_knows_2 : decode cX12_knows 2 = .ok (.iload_n 2, 1) := by decide +kernel
theorem dX12_knows_3 : decode cX12_knows 3 = .ok (.invokevirtual 299, 3) := by decide +kernel
theorem dX12_knows_6 : decode cX12_knows 6 = .ok (.ifCond .eq 11, 3) := by decide +kernel
theorem dX12_knows_9 : decode cX12_knows 9 = .ok (.aload_n 0, 1) := by decide +kernel
theorem dX12_knows_10 : decode cX12_knows 10 = .ok (.iload_n 3, 1) := by decide +kernel
theorem dX12_knows_11 : decode cX12_knows 11 = .ok (.invokevirtual 243, 3) := by decide +kernel
theorem dX12_knows_14 : decode cX12_knows 14 = .ok (.ifCond .ne 9, 3) := by decide +kernel
theorem dX12_knows_17 : decode cX12_knows 17 = .ok (.aload_n 0, 1) := by decide +kernel
theorem dX12_knows_18 : decode cX12_knows 18 = .ok (.iconst 1, 1) := by decide +kernel
theorem dX12_knows_19 : decode cX12_knows 19 = .ok (.invokevirtual 81, 3) := by decide +kernel
theorem dX12_knows_22 : decode cX12_knows 22 = .ok (.ireturn, 1) := by decide +kernel
theorem dX12_knows_23 : decode cX12_knows 23 = .ok (.aload_n 0, 1) := by decide +kernel
theorem dX12_knows_24 : decode cX12_knows 24 = .ok (.iload_n 1, 1) := by decide +kernel
theorem dX12_knows_25 : decode cX12_knows 25 = .ok (.iload_n 2, 1) := by decide +kernel
theorem dX12_knows_26 : decode cX12_knows 26 = .ok (.invokevirtual 302, 3) := by decide +kernel
theorem dX12_knows_29 : decode cX12_knows 29 = .ok (.aload_n 0, 1) := by decide +kernel
theorem dX12_knows_30 : decode cX12_knows 30 = .ok (.aload_n 0, 1) := by decide +kernel
theorem dX12_knows_31 : decode cX12_knows 31 = .ok (.getfield 47, 3) := by decide +kernel
theorem dX12_knows_34 : decode cX12_knows 34 = .ok (.iload_n 3, 1) := by decide +kernel
theorem dX12_knows_35 : decode cX12_knows 35 = .ok (.iaload, 1) := by decide +kernel
theorem dX12_knows_36 : decode cX12_knows 36 = .ok (.invokevirtual 284, 3) := by decide +kernel
theorem dX12_knows_39 : decode cX12_knows 39 = .ok (.ireturn, 1) := by decide +kernel
theorem dX12_lastOne_0 : decode cX12_lastOne 0 = .ok (.iconst 0, 1) := by decide +kernel
theorem dX12_lastOne_1 : decode cX12_lastOne 1 = .ok (.istore_n 1, 1) := by decide +kernel
theorem dX12_lastOne_2 : decode cX12_lastOne 2 = .ok (.iconst 1, 1) := by decide +kernel
theorem dX12_lastOne_3 : decode cX12_lastOne 3 = .ok (.istore_n 2, 1) := by decide +kernel
theorem dX12_lastOne_4 : decode cX12_lastOne 4 = .ok (.iload_n 2, 1) := by decide +kernel
theorem dX12_lastOne_5 : decode cX12_lastOne 5 = .ok (.aload_n 0, 1) := by decide +kernel
theorem dX12_lastOne_6 : decode cX12_lastOne 6 = .ok (.getfield 7, 3) := by decide +kernel
theorem dX12_lastOne_9 : decode cX12_lastOne 9 = .ok (.iconst 0, 1) := by decide +kernel
theorem dX12_lastOne_10 : decode cX12_lastOne 10 = .ok (.iaload, 1) := by decide +kernel
theorem dX12_lastOne_11 : decode cX12_lastOne 11 = .ok (.if_icmp .ge 26, 3) := by decide +kernel
theorem dX12_lastOne_14 : decode cX12_lastOne 14 = .ok (.aload_n 0, 1) := by decide +kernel
theorem dX12_lastOne_15 : decode cX12_lastOne 15 = .ok (.getfield 47, 3) := by decide +kernel
theorem dX12_lastOne_18 : decode cX12_lastOne 18 = .ok (.iload_n 2, 1) := by decide +kernel
theorem dX12_lastOne_19 : decode cX12_lastOne 19 = .ok (.iaload, 1) := by decide +kernel
theorem dX12_lastOne_20 : decode cX12_lastOne 20 = .ok (.aload_n 0, 1) := by decide +kernel
theorem dX12_lastOne_21 : decode cX12_lastOne 21 = .ok (.getfield 47, 3) := by decide +kernel
theorem dX12_lastOne_24 : decode cX12_lastOne 24 = .ok (.iload_n 1, 1) := by decide +kernel
theorem dX12_lastOne_25 : decode cX12_lastOne 25 = .ok (.iaload, 1) := by decide +kernel
theorem dX12_lastOne_26 : decode cX12_lastOne 26 = .ok (.if_icmp .le 5, 3) := by decide +kernel
theorem dX12_lastOne_29 : decode cX12_lastOne 29 = .ok (.iload_n 2, 1) := by decide +kernel
theorem dX12_lastOne_30 : decode cX12_lastOne 30 = .ok (.istore_n 1, 1) := by decide +kernel
theorem dX12_lastOne_31 : decode cX12_lastOne 31 = .ok (.iinc 2 1, 3) := by decide +kernel
theorem dX12_lastOne_34 : decode cX12_lastOne 34 = .ok (.goto (-30), 3) := by decide +kernel
theorem dX12_lastOne_37 : decode cX12_lastOne 37 = .ok (.iload_n 1, 1) := by decide +kernel
theorem dX12_lastOne_38 : decode cX12_lastOne 38 = .ok (.ireturn, 1) := by decide +kernel
theorem dX12_latest_0 : decode cX12_latest 0 = .ok (.aload_n 0, 1) := by decide +kernel
theorem dX12_latest_1 : decode cX12_latest 1 = .ok (.iload_n 1, 1) := by decide +kernel
theorem dX12_latest_2 : decode cX12_latest 2 = .ok (.iload_n 2, 1) := by decide +kernel
theorem dX12_latest_3 : decode cX12_latest 3 = .ok (.invokevirtual 299, 3) := by decide +kernel
theorem dX12_latest_6 : decode cX12_latest 6 = .ok (.ifCond .ne 9, 3) := by decide +kernel
theorem dX12_latest_9 : decode cX12_latest 9 = .ok (.aload_n 0, 1) := by decide +kernel
theorem dX12_latest_10 : decode cX12_latest 10 = .ok (.iconst 1, 1) := by decide +kernel
theorem dX12_latest_11 : decode cX12_latest 11 = .ok (.invokevirtual 81, 3) := by decide +kernel
theorem dX12_latest_14 : decode cX12_latest 14 = .ok (.ireturn, 1) := by decide +kernel
theorem dX12_latest_15 : decode cX12_latest 15 = .ok (.aload_n 0, 1) := by decide +kernel
theorem dX12_latest_16 : decode cX12_latest 16 = .ok (.iload_n 1, 1) := by decide +kernel
theorem dX12_latest_17 : decode cX12_latest 17 = .ok (.iload_n 2, 1) := by decide +kernel
theorem dX12_latest_18 : decode cX12_latest 18 = .ok (.invokevirtual 302, 3) := by decide +kernel
theorem dX12_latest_21 : decode cX12_latest 21 = .ok (.aload_n 0, 1) := by decide +kernel
theorem dX12_latest_22 : decode cX12_latest 22 = .ok (.getfield 47, 3) := by decide +kernel
theorem dX12_latest_25 : decode cX12_latest 25 = .ok (.aload_n 0, 1) := by decide +kernel
theorem dX12_latest_26 : decode cX12_latest 26 = .ok (.invokevirtual 311, 3) := by decide +kernel
theorem dX12_latest_29 : decode cX12_latest 29 = .ok (.iaload, 1) := by decide +kernel
theorem dX12_latest_30 : decode cX12_latest 30 = .ok (.ldc 88, 2) := by decide +kernel
theorem dX12_latest_32 : decode cX12_latest 32 = .ok (.if_icmp .ne 12, 3) := by decide +kernel
theorem dX12_latest_35 : decode cX12_latest 35 = .ok (.aload_n 0, 1) := by decide +kernel
theorem dX12_latest_36 : decode cX12_latest 36 = .ok (.bipush 6, 2) := by decide +kernel
theorem dX12_latest_38 : decode cX12_latest 38 = .ok (.invokevirtual 81, 3) := by decide +kernel
theorem dX12_latest_41 : decode cX12_latest 41 = .ok (.goto 11, 3) := by decide +kernel
theorem dX12_latest_44 : decode cX12_latest 44 = .ok (.aload_n 0, 1) := by decide +kernel
theorem dX12_latest_45 : decode cX12_latest 45 = .ok (.aload_n 0, 1) := by decide +kernel
theorem dX12_latest_46 : decode cX12_latest 46 = .ok (.invokevirtual 311, 3) := by decide +kernel
theorem dX12_latest_49 : decode cX12_latest 49 = .ok (.invokevirtual 85, 3) := by decide +kernel
theorem dX12_latest_52 : decode cX12_latest 52 = .ok (.ireturn, 1) := by decide +kernel
theorem dX12_overtaken_0 : decode cX12_overtaken 0 = .ok (.aload_n 0, 1) := by decide +kernel
theorem dX12_overtaken_1 : decode cX12_overtaken 1 = .ok (.iload_n 1, 1) := by decide +kernel
theorem dX12_overtaken_2 : decode cX12_overtaken 2 = .ok (.iload_n 2, 1) := by decide +kernel
theorem dX12_overtaken_3 : decode cX12_overtaken 3 = .ok (.invokevirtual 299, 3) := by decide +kernel
theorem dX12_overtaken_6 : decode cX12_overtaken 6 = .ok (.ifCond .ne 9, 3) := by decide +kernel
theorem dX12_overtaken_9 : decode cX12_overtaken 9 = .ok (.aload_n 0, 1) := by decide +kernel
theorem dX12_overtaken_10 : decode cX12_overtaken 10 = .ok (.iconst 1, 1) := by decide +kernel
theorem dX12_overtaken_11 : decode cX12_overtaken 11 = .ok (.invokevirtual 81, 3) := by decide +kernel
theorem dX12_overtaken_14 : decode cX12_overtaken 14 = .ok (.ireturn, 1) := by decide +kernel
theorem dX12_overtaken_15 : decode cX12_overtaken 15 = .ok (.aload_n 0, 1) := by decide +kernel
theorem dX12_overtaken_16 : decode cX12_overtaken 16 = .ok (.iload_n 1, 1) := by decide +kernel
theorem dX12_overtaken_17 : decode cX12_overtaken 17 = .ok (.iload_n 2, 1) := by decide +kernel
theorem dX12_overtaken_18 : decode cX12_overtaken 18 = .ok (.invokevirtual 302, 3) := by decide +kernel
theorem dX12_overtaken_21 : decode cX12_overtaken 21 = .ok (.iconst 0, 1) := by decide +kernel
theorem dX12_overtaken_22 : decode cX12_overtaken 22 = .ok (.istore_n 3, 1) := by decide +kernel
theorem dX12_overtaken_23 : decode cX12_overtaken 23 = .ok (.iconst 0, 1) := by decide +kernel
theorem dX12_overtaken_24 : decode cX12_overtaken 24 = .ok (.istore 4, 2) := by decide +kernel
theorem dX12_overtaken_26 : decode cX12_overtaken 26 = .ok (.iload 4, 2) := by decide +kernel
theorem dX12_overtaken_28 : decode cX12_overtaken 28 = .ok (.aload_n 0, 1) := by decide +kernel
theorem dX12_overtaken_29 : decode cX12_overtaken 29 = .ok (.getfield 7, 3) := by decide +kernel
theorem dX12_overtaken_32 : decode cX12_overtaken 32 = .ok (.iconst 0, 1) := by decide +kernel
theorem dX12_overtaken_33 : decode cX12_overtaken 33 = .ok (.iaload, 1) := by decide +kernel
theorem dX12_overtaken_34 : decode cX12_overtaken 34 = .ok (.if_icmp .ge 38, 3) := by decide +kernel
theorem dX12_overtaken_37 : decode cX12_overtaken 37 = .ok (.iload_n 3, 1) := by decide +kernel
theorem dX12_overtaken_38 : decode cX12_overtaken 38 = .ok (.aload_n 0, 1) := by decide +kernel
theorem dX12_overtaken_39 : decode cX12_overtaken 39 = .ok (.getfield 47, 3) := by decide +kernel
theorem dX12_overtaken_42 : decode cX12_overtaken 42 = .ok (.iload 4, 2) := by decide +kernel
theorem dX12_overtaken_44 : decode cX12_overtaken 44 = .ok (.iaload, 1) := by decide +kernel
theorem dX12_overtaken_45 : decode cX12_overtaken 45 = .ok (.aload_n 0, 1) := by decide +kernel
theorem dX12_overtaken_46 : decode cX12_overtaken 46 = .ok (.iload_n 1, 1) := by decide +kernel
theorem dX12_overtaken_47 : decode cX12_overtaken 47 = .ok (.iload_n 2, 1) := by decide +kernel
theorem dX12_overtaken_48 : decode cX12_overtaken 48 = .ok (.iload 4, 2) := by decide +kernel
theorem dX12_overtaken_50 : decode cX12_overtaken 50 = .ok (.invokevirtual 280, 3) := by decide +kernel
theorem dX12_overtaken_53 : decode cX12_overtaken 53 = .ok (.if_icmp .ge 10, 3) := by decide +kernel
theorem dX12_overtaken_56 : decode cX12_overtaken 56 = .ok (.iconst 1, 1) := by decide +kernel
theorem dX12_overtaken_57 : decode cX12_overtaken 57 = .ok (.iload 4, 2) := by decide +kernel
theorem dX12_overtaken_59 : decode cX12_overtaken 59 = .ok (.ishl, 1) := by decide +kernel
theorem dX12_overtaken_60 : decode cX12_overtaken 60 = .ok (.goto 4, 3) := by decide +kernel
theorem dX12_overtaken_63 : decode cX12_overtaken 63 = .ok (.iconst 0, 1) := by decide +kernel
theorem dX12_overtaken_64 : decode cX12_overtaken 64 = .ok (.ior, 1) := by decide +kernel
theorem dX12_overtaken_65 : decode cX12_overtaken 65 = .ok (.istore_n 3, 1) := by decide +kernel
theorem dX12_overtaken_66 : decode cX12_overtaken 66 = .ok (.iinc 4 1, 3) := by decide +kernel
theorem dX12_overtaken_69 : decode cX12_overtaken 69 = .ok (.goto (-43), 3) := by decide +kernel
theorem dX12_overtaken_72 : decode cX12_overtaken 72 = .ok (.aload_n 0, 1) := by decide +kernel
theorem dX12_overtaken_73 : decode cX12_overtaken 73 = .ok (.iload_n 3, 1) := by decide +kernel
theorem dX12_overtaken_74 : decode cX12_overtaken 74 = .ok (.invokevirtual 85, 3) := by decide +kernel
theorem dX12_overtaken_77 : decode cX12_overtaken 77 = .ok (.ireturn, 1) := by decide +kernel
theorem dX12_remote_0 : decode cX12_remote 0 = .ok (.iload_n 1, 1) := by decide +kernel
theorem dX12_remote_1 : decode cX12_remote 1 = .ok (.invokestatic 268, 3) := by decide +kernel
theorem dX12_remote_4 : decode cX12_remote 4 = .ok (.ifCond .ne 9, 3) := by decide +kernel
theorem dX12_remote_7 : decode cX12_remote 7 = .ok (.aload_n 0, 1) := by decide +kernel
theorem dX12_remote_8 : decode cX12_remote 8 = .ok (.iconst 1, 1) := by decide +kernel
theorem dX12_remote_9 : decode cX12_remote 9 = .ok (.invokevirtual 81, 3) := by decide +kernel
theorem dX12_remote_12 : decode cX12_remote 12 = .ok (.ireturn, 1) := by decide +kernel
theorem dX12_remote_13 : decode cX12_remote 13 = .ok (.iconst (-1), 1) := by decide +kernel
theorem dX12_remote_14 : decode cX12_remote 14 = .ok (.istore_n 2, 1) := by decide +kernel
theorem dX12_remote_15 : decode cX12_remote 15 = .ok (.iconst (-1), 1) := by decide +kernel
theorem dX12_remote_16 : decode cX12_remote 16 = .ok (.istore_n 3, 1) := by decide +kernel
theorem dX12_remote_17 : decode cX12_remote 17 = .ok (.iconst 0, 1) := by decide +kernel
theorem dX12_remote_18 : decode cX12_remote 18 = .ok (.istore 4, 2) := by decide +kernel
theorem dX12_remote_20 : decode cX12_remote 20 = .ok (.iload 4, 2) := by decide +kernel
theorem dX12_remote_22 : decode cX12_remote 22 = .ok (.aload_n 0, 1) := by decide +kernel
theorem dX12_remote_23 : decode cX12_remote 23 = .ok (.getfield 7, 3) := by decide +kernel
theorem dX12_remote_26 : decode cX12_remote 26 = .ok (.iconst 0, 1) := by decide +kernel
theorem dX12_remote_27 : decode cX12_remote 27 = .ok (.iaload, 1) := by decide +kernel
theorem dX12_remote_28 : decode cX12_remote 28 = .ok (.if_icmp .ge 83, 3) := by decide +kernel
theorem dX12_remote_31 : decode cX12_remote 31 = .ok (.iconst 0, 1) := by decide +kernel
theorem dX12_remote_32 : decode cX12_remote 32 = .ok (.istore 5, 2) := by decide +kernel
theorem dX12_remote_34 : decode cX12_remote 34 = .ok (.iconst 0, 1) := by decide +kernel
theorem dX12_remote_35 : decode cX12_remote 35 = .ok (.istore 6, 2) := by decide +kernel
theorem dX12_remote_37 : decode cX12_remote 37 = .ok (.iload 6, 2) := by decide +kernel
theorem dX12_remote_39 : decode cX12_remote 39 = .ok (.aload_n 0, 1) := by decide +kernel
theorem dX12_remote_40 : decode cX12_remote 40 = .ok (.getfield 7, 3) := by decide +kernel
theorem dX12_remote_43 : decode cX12_remote 43 = .ok (.iconst 0, 1) := by decide +kernel
theorem dX12_remote_44 : decode cX12_remote 44 = .ok (.iaload, 1) := by decide +kernel
theorem dX12_remote_45 : decode cX12_remote 45 = .ok (.if_icmp .ge 45, 3) := by decide +kernel
theorem dX12_remote_48 : decode cX12_remote 48 = .ok (.aload_n 0, 1) := by decide +kernel
theorem dX12_remote_49 : decode cX12_remote 49 = .ok (.iload 6, 2) := by decide +kernel
theorem dX12_remote_51 : decode cX12_remote 51 = .ok (.iload_n 1, 1) := by decide +kernel
theorem dX12_remote_52 : decode cX12_remote 52 = .ok (.invokevirtual 302, 3) := by decide +kernel
theorem dX12_remote_55 : decode cX12_remote 55 = .ok (.iload 5, 2) := by decide +kernel
theorem dX12_remote_57 : decode cX12_remote 57 = .ok (.aload_n 0, 1) := by decide +kernel
theorem dX12_remote_58 : decode cX12_remote 58 = .ok (.getfield 47, 3) := by decide +kernel
theorem dX12_remote_61 : decode cX12_remote 61 = .ok (.iload 4, 2) := by decide +kernel
theorem dX12_remote_63 : decode cX12_remote 63 = .ok (.iaload, 1) := by decide +kernel
theorem dX12_remote_64 : decode cX12_remote 64 = .ok (.ldc 88, 2) := by decide +kernel
theorem dX12_remote_66 : decode cX12_remote 66 = .ok (.if_icmp .ne 8, 3) := by decide +kernel
theorem dX12_remote_69 : decode cX12_remote 69 = .ok (.ldc 136, 2) := by decide +kernel
theorem dX12_remote_71 : decode cX12_remote 71 = .ok (.goto 10, 3) := by decide +kernel
theorem dX12_remote_74 : decode cX12_remote 74 = .ok (.aload_n 0, 1) := by decide +kernel
theorem dX12_remote_75 : decode cX12_remote 75 = .ok (.getfield 47, 3) := by decide +kernel
theorem dX12_remote_78 : decode cX12_remote 78 = .ok (.iload 4, 2) := by decide +kernel
theorem dX12_remote_80 : decode cX12_remote 80 = .ok (.iaload, 1) := by decide +kernel
theorem dX12_remote_81 : decode cX12_remote 81 = .ok (.iadd, 1) := by decide +kernel
theorem dX12_remote_82 : decode cX12_remote 82 = .ok (.istore 5, 2) := by decide +kernel
theorem dX12_remote_84 : decode cX12_remote 84 = .ok (.iinc 6 1, 3) := by decide +kernel
theorem dX12_remote_87 : decode cX12_remote 87 = .ok (.goto (-50), 3) := by decide +kernel
theorem dX12_remote_90 : decode cX12_remote 90 = .ok (.iload 5, 2) := by decide +kernel
theorem dX12_remote_92 : decode cX12_remote 92 = .ok (.iload_n 3, 1) := by decide +kernel
theorem dX12_remote_93 : decode cX12_remote 93 = .ok (.if_icmp .gt 6, 3) := by decide +kernel
theorem dX12_remote_96 : decode cX12_remote 96 = .ok (.goto 9, 3) := by decide +kernel
theorem dX12_remote_99 : decode cX12_remote 99 = .ok (.iload 5, 2) := by decide +kernel
theorem dX12_remote_101 : decode cX12_remote 101 = .ok (.istore_n 3, 1) := by decide +kernel
theorem dX12_remote_102 : decode cX12_remote 102 = .ok (.iload 4, 2) := by decide +kernel
theorem dX12_remote_104 : decode cX12_remote 104 = .ok (.istore_n 2, 1) := by decide +kernel
theorem dX12_remote_105 : decode cX12_remote 105 = .ok (.iinc 4 1, 3) := by decide +kernel
theorem dX12_remote_108 : decode cX12_remote 108 = .ok (.goto (-88), 3) := by decide +kernel
theorem dX12_remote_111 : decode cX12_remote 111 = .ok (.aload_n 0, 1) := by decide +kernel
theorem dX12_remote_112 : decode cX12_remote 112 = .ok (.iload_n 2, 1) := by decide +kernel
theorem dX12_remote_113 : decode cX12_remote 113 = .ok (.invokevirtual 290, 3) := by decide +kernel
theorem dX12_remote_116 : decode cX12_remote 116 = .ok (.ireturn, 1) := by decide +kernel
theorem dX12_setBy_0 : decode cX12_setBy 0 = .ok (.iconst 0, 1) := by decide +kernel
theorem dX12_setBy_1 : decode cX12_setBy 1 = .ok (.istore_n 2, 1) := by decide +kernel
theorem dX12_setBy_2 : decode cX12_setBy 2 = .ok (.iconst 0, 1) := by decide +kernel
theorem dX12_setBy_3 : decode cX12_setBy 3 = .ok (.istore_n 3, 1) := by decide +kernel
theorem dX12_setBy_4 : decode cX12_setBy 4 = .ok (.iload_n 3, 1) := by decide +kernel
theorem dX12_setBy_5 : decode cX12_setBy 5 = .ok (.aload_n 0, 1) := by decide +kernel
theorem dX12_setBy_6 : decode cX12_setBy 6 = .ok (.getfield 7, 3) := by decide +kernel
theorem dX12_setBy_9 : decode cX12_setBy 9 = .ok (.iconst 0, 1) := by decide +kernel
theorem dX12_setBy_10 : decode cX12_setBy 10 = .ok (.iaload, 1) := by decide +kernel
theorem dX12_setBy_11 : decode cX12_setBy 11 = .ok (.if_icmp .ge 29, 3) := by decide +kernel
theorem dX12_setBy_14 : decode cX12_setBy 14 = .ok (.iload_n 2, 1) := by decide +kernel
theorem dX12_setBy_15 : decode cX12_setBy 15 = .ok (.aload_n 0, 1) := by decide +kernel
theorem dX12_setBy_16 : decode cX12_setBy 16 = .ok (.getfield 47, 3) := by decide +kernel
theorem dX12_setBy_19 : decode cX12_setBy 19 = .ok (.iload_n 3, 1) := by decide +kernel
theorem dX12_setBy_20 : decode cX12_setBy 20 = .ok (.iaload, 1) := by decide +kernel
theorem dX12_setBy_21 : decode cX12_setBy 21 = .ok (.iload_n 1, 1) := by decide +kernel
theorem dX12_setBy_22 : decode cX12_setBy 22 = .ok (.if_icmp .gt 9, 3) := by decide +kernel
theorem dX12_setBy_25 : decode cX12_setBy 25 = .ok (.iconst 1, 1) := by decide +kernel
theorem dX12_setBy_26 : decode cX12_setBy 26 = .ok (.iload_n 3, 1) := by decide +kernel
theorem dX12_setBy_27 : decode cX12_setBy 27 = .ok (.ishl, 1) := by decide +kernel
theorem dX12_setBy_28 : decode cX12_setBy 28 = .ok (.goto 4, 3) := by decide +kernel
theorem dX12_setBy_31 : decode cX12_setBy 31 = .ok (.iconst 0, 1) := by decide +kernel
theorem dX12_setBy_32 : decode cX12_setBy 32 = .ok (.ior, 1) := by decide +kernel
theorem dX12_setBy_33 : decode cX12_setBy 33 = .ok (.istore_n 2, 1) := by decide +kernel
theorem dX12_setBy_34 : decode cX12_setBy 34 = .ok (.iinc 3 1, 3) := by decide +kernel
theorem dX12_setBy_37 : decode cX12_setBy 37 = .ok (.goto (-33), 3) := by decide +kernel
theorem dX12_setBy_40 : decode cX12_setBy 40 = .ok (.iload_n 2, 1) := by decide +kernel
theorem dX12_setBy_41 : decode cX12_setBy 41 = .ok (.ireturn, 1) := by decide +kernel
theorem dX12_teller_0 : decode cX12_teller 0 = .ok (.aload_n 0, 1) := by decide +kernel
theorem dX12_teller_1 : decode cX12_teller 1 = .ok (.iload_n 1, 1) := by decide +kernel
theorem dX12_teller_2 : decode cX12_teller 2 = .ok (.iload_n 2, 1) := by decide +kernel
theorem dX12_teller_3 : decode cX12_teller 3 = .ok (.invokevirtual 299, 3) := by decide +kernel
theorem dX12_teller_6 : decode cX12_teller 6 = .ok (.ifCond .eq 11, 3) := by decide +kernel
theorem dX12_teller_9 : decode cX12_teller 9 = .ok (.aload_n 0, 1) := by decide +kernel
theorem dX12_teller_10 : decode cX12_teller 10 = .ok (.iload_n 3, 1) := by decide +kernel
theorem dX12_teller_11 : decode cX12_teller 11 = .ok (.invokevirtual 243, 3) := by decide +kernel
theorem dX12_teller_14 : decode cX12_teller 14 = .ok (.ifCond .ne 9, 3) := by decide +kernel
theorem dX12_teller_17 : decode cX12_teller 17 = .ok (.aload_n 0, 1) := by decide +kernel
theorem dX12_teller_18 : decode cX12_teller 18 = .ok (.iconst 1, 1) := by decide +kernel
theorem dX12_teller_19 : decode cX12_teller 19 = .ok (.invokevirtual 81, 3) := by decide +kernel
theorem dX12_teller_22 : decode cX12_teller 22 = .ok (.ireturn, 1) := by decide +kernel
theorem dX12_teller_23 : decode cX12_teller 23 = .ok (.aload_n 0, 1) := by decide +kernel
theorem dX12_teller_24 : decode cX12_teller 24 = .ok (.iload_n 1, 1) := by decide +kernel
theorem dX12_teller_25 : decode cX12_teller 25 = .ok (.iload_n 2, 1) := by decide +kernel
theorem dX12_teller_26 : decode cX12_teller 26 = .ok (.invokevirtual 302, 3) := by decide +kernel
theorem dX12_teller_29 : decode cX12_teller 29 = .ok (.aload_n 0, 1) := by decide +kernel
theorem dX12_teller_30 : decode cX12_teller 30 = .ok (.aload_n 0, 1) := by decide +kernel
theorem dX12_teller_31 : decode cX12_teller 31 = .ok (.getfield 50, 3) := by decide +kernel
theorem dX12_teller_34 : decode cX12_teller 34 = .ok (.iload_n 3, 1) := by decide +kernel
theorem dX12_teller_35 : decode cX12_teller 35 = .ok (.iaload, 1) := by decide +kernel
theorem dX12_teller_36 : decode cX12_teller 36 = .ok (.invokevirtual 290, 3) := by decide +kernel
theorem dX12_teller_39 : decode cX12_teller 39 = .ok (.ireturn, 1) := by decide +kernel
