theorem qc_J7_fill_53178 : Cond.code yJ7_fill_53178 cJ7_fill_53178 4 none ∈ gw := tbt (tb3 (List.mem_of_getElem? (i := 120) rfl)) rfl
theorem qt_yJ7_fill_53178 : Cond.static yJ7_fill_53178 ∈ gw := tbt (tb3 (List.mem_of_getElem? (i := 119) rfl)) rfl
theorem qz_J7 : Cond.initialized RJ7 ∈ gw := tbt (tb1 (List.mem_of_getElem? (i := 18) rfl)) rfl
theorem ci_J7_fill_53178 : CIs yJ7_fill_53178 cJ7_fill_53178 4 none 2 := ⟨qc_J7_fill_53178, qt_yJ7_fill_53178, qz_J7, by decide +kernel⟩
theorem qm_X2_32 : Cond.methodLink RX2 32 yJ7_fill_53178 ∈ gw := tbt (tb4 (List.mem_of_getElem? (i := 156) rfl)) rfl
theorem qf_X2_18 : Cond.fieldLink RX2 18 "SlowWorlds$News" "hopCounts" "[I" ∈ gw := tbt (tb2 (List.mem_of_getElem? (i := 116) rfl)) rfl
theorem qc_X2_soonest : Cond.code yX2_soonest cX2_soonest 5 (some .int) ∈ gw := tbt (tb4 (List.mem_of_getElem? (i := 160) rfl)) rfl
theorem qi_yX2_soonest : Cond.instanceMethod yX2_soonest ∈ gw := tbt (tb4 (List.mem_of_getElem? (i := 159) rfl)) rfl
theorem qs_X2_soonest : Cond.selects (yX2_soonest).cls yX2_soonest yX2_soonest ∈ gw := tb0 (List.mem_of_getElem? (i := 22) rfl) rfl
theorem qz_X2 : Cond.initialized RX2 ∈ gw := tbt (tb1 (List.mem_of_getElem? (i := 14) rfl)) rfl
theorem ci_X2_soonest : CIv yX2_soonest cX2_soonest 5 (some .int) 1 := ⟨qc_X2_soonest, qi_yX2_soonest, qs_X2_soonest, qz_X2, by decide +kernel⟩
theorem qm_X2_44 : Cond.methodLink RX2 44 yX2_soonest ∈ gw := tbt (tb4 (List.mem_of_getElem? (i := 157) rfl)) rfl
theorem qc_X2_tellOn : Cond.code yX2_tellOn cX2_tellOn 5 none ∈ gw := tbt (tb4 (List.mem_of_getElem? (i := 164) rfl)) rfl
theorem qi_yX2_tellOn : Cond.instanceMethod yX2_tellOn ∈ gw := tbt (tb4 (List.mem_of_getElem? (i := 163) rfl)) rfl
theorem qs_X2_tellOn : Cond.selects (yX2_tellOn).cls yX2_tellOn yX2_tellOn ∈ gw := tb0 (List.mem_of_getElem? (i := 23) rfl) rfl
theorem ci_X2_tellOn : CIv yX2_tellOn cX2_tellOn 5 none 1 := ⟨qc_X2_tellOn, qi_yX2_tellOn, qs_X2_tellOn, qz_X2, by decide +kernel⟩
theorem qm_X2_48 : Cond.methodLink RX2 48 yX2_tellOn ∈ gw := tbt (tb4 (List.mem_of_getElem? (i := 161) rfl)) rfl
theorem qf_X2_21 : Cond.fieldLink RX2 21 "SlowWorlds$News" "costs" "[I" ∈ gw := tbt (tb2 (List.mem_of_getElem? (i := 118) rfl)) rfl
theorem qm_X2_58 : Cond.methodLink RX2 58 yJ9_min_7cf53 ∈ gw := tbt (tb5 (List.mem_of_getElem? (i := 110) rfl)) rfl
theorem qt_yJ9_min_7cf53 : Cond.static yJ9_min_7cf53 ∈ gw := tbt (tb4 (List.mem_of_getElem? (i := 138) rfl)) rfl
theorem qc_J9_min_7cf53 : Cond.code yJ9_min_7cf53 cJ9_min_7cf53 2 (some .int) ∈ gw := tbt (tb4 (List.mem_of_getElem? (i := 139) rfl)) rfl
theorem qc_X2_sendOn : Cond.code yX2_sendOn cX2_sendOn 8 none ∈ gw := tbt (tb5 (List.mem_of_getElem? (i := 114) rfl)) rfl
theorem qi_yX2_sendOn : Cond.instanceMethod yX2_sendOn ∈ gw := tbt (tb5 (List.mem_of_getElem? (i := 113) rfl)) rfl
theorem qs_X2_sendOn : Cond.selects (yX2_sendOn).cls yX2_sendOn yX2_sendOn ∈ gw := tb0 (List.mem_of_getElem? (i := 28) rfl) rfl
theorem ci_X2_sendOn : CIv yX2_sendOn cX2_sendOn 8 none 3 := ⟨qc_X2_sendOn, qi_yX2_sendOn, qs_X2_sendOn, qz_X2, by decide +kernel⟩
theorem qm_X2_64 : Cond.methodLink RX2 64 yX2_sendOn ∈ gw := tbt (tb5 (List.mem_of_getElem? (i := 111) rfl)) rfl
theorem dX2_leastCost_0 : decode cX2_leastCost 0 = .ok (.aload_n 0, 1) := by decide +kernel
theorem dX2_leastCost_1 : decode cX2_leastCost 1 = .ok (.getfield 21, 3) := by decide +kernel
theorem dX2_leastCost_4 : decode cX2_leastCost 4 = .ok (.iconst (-1), 1) := by decide +kernel
theorem dX2_leastCost_5 : decode cX2_leastCost 5 = .ok (.invokestatic 32, 3) := by decide +kernel
theorem dX2_leastCost_8 : decode cX2_leastCost 8 = .ok (.aload_n 0, 1) := by decide +kernel
theorem dX2_leastCost_9 : decode cX2_leastCost 9 = .ok (.getfield 21, 3) := by decide +kernel
theorem dX2_leastCost_12 : decode cX2_leastCost 12 = .ok (.iload_n 2, 1) := by decide +kernel
theorem dX2_leastCost_13 : decode cX2_leastCost 13 = .ok (.bipush 21, 2) := by decide +kernel
theorem dX2_leastCost_15 : decode cX2_leastCost 15 = .ok (.irem, 1) := by decide +kernel
theorem dX2_leastCost_16 : decode cX2_leastCost 16 = .ok (.bipush 6, 2) := by decide +kernel
theorem dX2_leastCost_18 : decode cX2_leastCost 18 = .ok (.imul, 1) := by decide +kernel
theorem dX2_leastCost_19 : decode cX2_leastCost 19 = .ok (.iload_n 1, 1) := by decide +kernel
theorem dX2_leastCost_20 : decode cX2_leastCost 20 = .ok (.iadd, 1) := by decide +kernel
theorem dX2_leastCost_21 : decode cX2_leastCost 21 = .ok (.iconst 0, 1) := by decide +kernel
theorem dX2_leastCost_22 : decode cX2_leastCost 22 = .ok (.iastore, 1) := by decide +kernel
theorem dX2_leastCost_23 : decode cX2_leastCost 23 = .ok (.iconst (-1), 1) := by decide +kernel
theorem dX2_leastCost_24 : decode cX2_leastCost 24 = .ok (.istore 5, 2) := by decide +kernel
theorem dX2_leastCost_26 : decode cX2_leastCost 26 = .ok (.iload 4, 2) := by decide +kernel
theorem dX2_leastCost_28 : decode cX2_leastCost 28 = .ok (.sipush 420, 3) := by decide +kernel
theorem dX2_leastCost_31 : decode cX2_leastCost 31 = .ok (.invokestatic 58, 3) := by decide +kernel
theorem dX2_leastCost_34 : decode cX2_leastCost 34 = .ok (.istore 6, 2) := by decide +kernel
theorem dX2_leastCost_36 : decode cX2_leastCost 36 = .ok (.iload_n 2, 1) := by decide +kernel
theorem dX2_leastCost_37 : decode cX2_leastCost 37 = .ok (.istore 7, 2) := by decide +kernel
theorem dX2_leastCost_39 : decode cX2_leastCost 39 = .ok (.iload 7, 2) := by decide +kernel
theorem dX2_leastCost_41 : decode cX2_leastCost 41 = .ok (.iload 6, 2) := by decide +kernel
theorem dX2_leastCost_43 : decode cX2_leastCost 43 = .ok (.if_icmp .gt 136, 3) := by decide +kernel
theorem dX2_leastCost_46 : decode cX2_leastCost 46 = .ok (.iload 7, 2) := by decide +kernel
theorem dX2_leastCost_48 : decode cX2_leastCost 48 = .ok (.bipush 21, 2) := by decide +kernel
theorem dX2_leastCost_50 : decode cX2_leastCost 50 = .ok (.irem, 1) := by decide +kernel
theorem dX2_leastCost_51 : decode cX2_leastCost 51 = .ok (.bipush 6, 2) := by decide +kernel
theorem dX2_leastCost_53 : decode cX2_leastCost 53 = .ok (.imul, 1) := by decide +kernel
theorem dX2_leastCost_54 : decode cX2_leastCost 54 = .ok (.istore 8, 2) := by decide +kernel
theorem dX2_leastCost_56 : decode cX2_leastCost 56 = .ok (.aload_n 0, 1) := by decide +kernel
theorem dX2_leastCost_57 : decode cX2_leastCost 57 = .ok (.getfield 21, 3) := by decide +kernel
theorem dX2_leastCost_60 : decode cX2_leastCost 60 = .ok (.iload 8, 2) := by decide +kernel
theorem dX2_leastCost_62 : decode cX2_leastCost 62 = .ok (.iload_n 3, 1) := by decide +kernel
theorem dX2_leastCost_63 : decode cX2_leastCost 63 = .ok (.iadd, 1) := by decide +kernel
theorem dX2_leastCost_64 : decode cX2_leastCost 64 = .ok (.iaload, 1) := by decide +kernel
theorem dX2_leastCost_65 : decode cX2_leastCost 65 = .ok (.iconst (-1), 1) := by decide +kernel
theorem dX2_leastCost_66 : decode cX2_leastCost 66 = .ok (.if_icmp .eq 34, 3) := by decide +kernel
theorem dX2_leastCost_69 : decode cX2_leastCost 69 = .ok (.iload 5, 2) := by decide +kernel
theorem dX2_leastCost_71 : decode cX2_leastCost 71 = .ok (.iconst (-1), 1) := by decide +kernel
theorem dX2_leastCost_72 : decode cX2_leastCost 72 = .ok (.if_icmp .eq 17, 3) := by decide +kernel
theorem dX2_leastCost_75 : decode cX2_leastCost 75 = .ok (.aload_n 0, 1) := by decide +kernel
theorem dX2_leastCost_76 : decode cX2_leastCost 76 = .ok (.getfield 21, 3) := by decide +kernel
theorem dX2_leastCost_79 : decode cX2_leastCost 79 = .ok (.iload 8, 2) := by decide +kernel
theorem dX2_leastCost_81 : decode cX2_leastCost 81 = .ok (.iload_n 3, 1) := by decide +kernel
theorem dX2_leastCost_82 : decode cX2_leastCost 82 = .ok (.iadd, 1) := by decide +kernel
theorem dX2_leastCost_83 : decode cX2_leastCost 83 = .ok (.iaload, 1) := by decide +kernel
theorem dX2_leastCost_84 : decode cX2_leastCost 84 = .ok (.iload 5, 2) := by decide +kernel
theorem dX2_leastCost_86 : decode cX2_leastCost 86 = .ok (.if_icmp .ge 14, 3) := by decide +kernel
theorem dX2_leastCost_89 : decode cX2_leastCost 89 = .ok (.aload_n 0, 1) := by decide +kernel
theorem dX2_leastCost_90 : decode cX2_leastCost 90 = .ok (.getfield 21, 3) := by decide +kernel
theorem dX2_leastCost_93 : decode cX2_leastCost 93 = .ok (.iload 8, 2) := by decide +kernel
theorem dX2_leastCost_95 : decode cX2_leastCost 95 = .ok (.iload_n 3, 1) := by decide +kernel
theorem dX2_leastCost_96 : decode cX2_leastCost 96 = .ok (.iadd, 1) := by decide +kernel
theorem dX2_leastCost_97 : decode cX2_leastCost 97 = .ok (.iaload, 1) := by decide +kernel
theorem dX2_leastCost_98 : decode cX2_leastCost 98 = .ok (.istore 5, 2) := by decide +kernel
theorem dX2_leastCost_100 : decode cX2_leastCost 100 = .ok (.iconst 0, 1) := by decide +kernel
theorem dX2_leastCost_101 : decode cX2_leastCost 101 = .ok (.istore 9, 2) := by decide +kernel
theorem dX2_leastCost_103 : decode cX2_leastCost 103 = .ok (.iload 9, 2) := by decide +kernel
theorem dX2_leastCost_105 : decode cX2_leastCost 105 = .ok (.aload_n 0, 1) := by decide +kernel
theorem dX2_leastCost_106 : decode cX2_leastCost 106 = .ok (.getfield 24, 3) := by decide +kernel
theorem dX2_leastCost_109 : decode cX2_leastCost 109 = .ok (.getfield 38, 3) := by decide +kernel
theorem dX2_leastCost_112 : decode cX2_leastCost 112 = .ok (.if_icmp .ge 61, 3) := by decide +kernel
theorem dX2_leastCost_115 : decode cX2_leastCost 115 = .ok (.aload_n 0, 1) := by decide +kernel
theorem dX2_leastCost_116 : decode cX2_leastCost 116 = .ok (.getfield 21, 3) := by decide +kernel
theorem dX2_leastCost_119 : decode cX2_leastCost 119 = .ok (.iload 8, 2) := by decide +kernel
theorem dX2_leastCost_121 : decode cX2_leastCost 121 = .ok (.iload 9, 2) := by decide +kernel
theorem dX2_leastCost_123 : decode cX2_leastCost 123 = .ok (.iadd, 1) := by decide +kernel
theorem dX2_leastCost_124 : decode cX2_leastCost 124 = .ok (.iaload, 1) := by decide +kernel
theorem dX2_leastCost_125 : decode cX2_leastCost 125 = .ok (.istore 10, 2) := by decide +kernel
theorem dX2_leastCost_127 : decode cX2_leastCost 127 = .ok (.aload_n 0, 1) := by decide +kernel
theorem dX2_leastCost_128 : decode cX2_leastCost 128 = .ok (.getfield 21, 3) := by decide +kernel
theorem dX2_leastCost_131 : decode cX2_leastCost 131 = .ok (.iload 8, 2) := by decide +kernel
theorem dX2_leastCost_133 : decode cX2_leastCost 133 = .ok (.iload 9, 2) := by decide +kernel
theorem dX2_leastCost_135 : decode cX2_leastCost 135 = .ok (.iadd, 1) := by decide +kernel
theorem dX2_leastCost_136 : decode cX2_leastCost 136 = .ok (.iconst (-1), 1) := by decide +kernel
theorem dX2_leastCost_137 : decode cX2_leastCost 137 = .ok (.iastore, 1) := by decide +kernel
theorem dX2_leastCost_138 : decode cX2_leastCost 138 = .ok (.iload 10, 2) := by decide +kernel
theorem dX2_leastCost_140 : decode cX2_leastCost 140 = .ok (.iconst (-1), 1) := by decide +kernel
theorem dX2_leastCost_141 : decode cX2_leastCost 141 = .ok (.if_icmp .eq 26, 3) := by decide +kernel
theorem dX2_leastCost_144 : decode cX2_leastCost 144 = .ok (.iload 5, 2) := by decide +kernel
theorem dX2_leastCost_146 : decode cX2_leastCost 146 = .ok (.iconst (-1), 1) := by decide +kernel
theorem dX2_leastCost_147 : decode cX2_leastCost 147 = .ok (.if_icmp .eq 10, 3) := by decide +kernel
theorem dX2_leastCost_150 : decode cX2_leastCost 150 = .ok (.iload 10, 2) := by decide +kernel
theorem dX2_leastCost_152 : decode cX2_leastCost 152 = .ok (.iload 5, 2) := by decide +kernel
theorem dX2_leastCost_154 : decode cX2_leastCost 154 = .ok (.if_icmp .ge 13, 3) := by decide +kernel
theorem dX2_leastCost_157 : decode cX2_leastCost 157 = .ok (.aload_n 0, 1) := by decide +kernel
theorem dX2_leastCost_158 : decode cX2_leastCost 158 = .ok (.iload 9, 2) := by decide +kernel
theorem dX2_leastCost_160 : decode cX2_leastCost 160 = .ok (.iload 7, 2) := by decide +kernel
theorem dX2_leastCost_162 : decode cX2_leastCost 162 = .ok (.iload 10, 2) := by decide +kernel
theorem dX2_leastCost_164 : decode cX2_leastCost 164 = .ok (.invokevirtual 64, 3) := by decide +kernel
theorem dX2_leastCost_167 : decode cX2_leastCost 167 = .ok (.iinc 9 1, 3) := by decide +kernel
theorem dX2_leastCost_170 : decode cX2_leastCost 170 = .ok (.goto (-67), 3) := by decide +kernel
theorem dX2_leastCost_173 : decode cX2_leastCost 173 = .ok (.iinc 7 1, 3) := by decide +kernel
theorem dX2_leastCost_176 : decode cX2_leastCost 176 = .ok (.goto (-137), 3) := by decide +kernel
theorem dX2_leastCost_179 : decode cX2_leastCost 179 = .ok (.iload 5, 2) := by decide +kernel
theorem dX2_leastCost_181 : decode cX2_leastCost 181 = .ok (.ireturn, 1) := by decide +kernel
theorem dX2_sendOn_0 : decode cX2_sendOn 0 = .ok (.iconst 0, 1) := by decide +kernel
theorem dX2_sendOn_1 : decode cX2_sendOn 1 = .ok (.istore 4, 2) := by decide +kernel
theorem dX2_sendOn_3 : decode cX2_sendOn 3 = .ok (.iload 4, 2) := by decide +kernel
theorem dX2_sendOn_5 : decode cX2_sendOn 5 = .ok (.aload_n 0, 1) := by decide +kernel
theorem dX2_sendOn_6 : decode cX2_sendOn 6 = .ok (.getfield 24, 3) := by decide +kernel
theorem dX2_sendOn_9 : decode cX2_sendOn 9 = .ok (.getfield 38, 3) := by decide +kernel
theorem dX2_sendOn_12 : decode cX2_sendOn 12 = .ok (.if_icmp .ge 96, 3) := by decide +kernel
theorem dX2_sendOn_15 : decode cX2_sendOn 15 = .ok (.iload 4, 2) := by decide +kernel
theorem dX2_sendOn_17 : decode cX2_sendOn 17 = .ok (.iload_n 1, 1) := by decide +kernel
theorem dX2_sendOn_18 : decode cX2_sendOn 18 = .ok (.if_icmp .ne 7, 3) := by decide +kernel
theorem dX2_sendOn_21 : decode cX2_sendOn 21 = .ok (.iconst (-1), 1) := by decide +kernel
theorem dX2_sendOn_22 : decode cX2_sendOn 22 = .ok (.goto 14, 3) := by decide +kernel
theorem dX2_sendOn_25 : decode cX2_sendOn 25 = .ok (.aload_n 0, 1) := by decide +kernel
theorem dX2_sendOn_26 : decode cX2_sendOn 26 = .ok (.getfield 28, 3) := by decide +kernel
theorem dX2_sendOn_29 : decode cX2_sendOn 29 = .ok (.iload_n 1, 1) := by decide +kernel
theorem dX2_sendOn_30 : decode cX2_sendOn 30 = .ok (.iload_n 2, 1) := by decide +kernel
theorem dX2_sendOn_31 : decode cX2_sendOn 31 = .ok (.iload 4, 2) := by decide +kernel
theorem dX2_sendOn_33 : decode cX2_sendOn 33 = .ok (.invokevirtual 52, 3) := by decide +kernel
theorem dX2_sendOn_36 : decode cX2_sendOn 36 = .ok (.istore 5, 2) := by decide +kernel
theorem dX2_sendOn_38 : decode cX2_sendOn 38 = .ok (.iload 5, 2) := by decide +kernel
theorem dX2_sendOn_40 : decode cX2_sendOn 40 = .ok (.iconst (-1), 1) := by decide +kernel
theorem dX2_sendOn_41 : decode cX2_sendOn 41 = .ok (.if_icmp .eq 61, 3) := by decide +kernel
theorem dX2_sendOn_44 : decode cX2_sendOn 44 = .ok (.iload 5, 2) := by decide +kernel
theorem dX2_sendOn_46 : decode cX2_sendOn 46 = .ok (.bipush 21, 2) := by decide +kernel
theorem dX2_sendOn_48 : decode cX2_sendOn 48 = .ok (.irem, 1) := by decide +kernel
theorem dX2_sendOn_49 : decode cX2_sendOn 49 = .ok (.bipush 6, 2) := by decide +kernel
theorem dX2_sendOn_51 : decode cX2_sendOn 51 = .ok (.imul, 1) := by decide +kernel
theorem dX2_sendOn_52 : decode cX2_sendOn 52 = .ok (.iload 4, 2) := by decide +kernel
theorem dX2_sendOn_54 : decode cX2_sendOn 54 = .ok (.iadd, 1) := by decide +kernel
theorem dX2_sendOn_55 : decode cX2_sendOn 55 = .ok (.istore 6, 2) := by decide +kernel
theorem dX2_sendOn_57 : decode cX2_sendOn 57 = .ok (.iload_n 3, 1) := by decide +kernel
theorem dX2_sendOn_58 : decode cX2_sendOn 58 = .ok (.iload 5, 2) := by decide +kernel
theorem dX2_sendOn_60 : decode cX2_sendOn 60 = .ok (.iload_n 2, 1) := by decide +kernel
theorem dX2_sendOn_61 : decode cX2_sendOn 61 = .ok (.isub, 1) := by decide +kernel
theorem dX2_sendOn_62 : decode cX2_sendOn 62 = .ok (.iload 5, 2) := by decide +kernel
theorem dX2_sendOn_64 : decode cX2_sendOn 64 = .ok (.iload_n 2, 1) := by decide +kernel
theorem dX2_sendOn_65 : decode cX2_sendOn 65 = .ok (.isub, 1) := by decide +kernel
theorem dX2_sendOn_66 : decode cX2_sendOn 66 = .ok (.imul, 1) := by decide +kernel
theorem dX2_sendOn_67 : decode cX2_sendOn 67 = .ok (.iadd, 1) := by decide +kernel
theorem dX2_sendOn_68 : decode cX2_sendOn 68 = .ok (.istore 7, 2) := by decide +kernel
theorem dX2_sendOn_70 : decode cX2_sendOn 70 = .ok (.aload_n 0, 1) := by decide +kernel
theorem dX2_sendOn_71 : decode cX2_sendOn 71 = .ok (.getfield 21, 3) := by decide +kernel
theorem dX2_sendOn_74 : decode cX2_sendOn 74 = .ok (.iload 6, 2) := by decide +kernel
theorem dX2_sendOn_76 : decode cX2_sendOn 76 = .ok (.iaload, 1) := by decide +kernel
theorem dX2_sendOn_77 : decode cX2_sendOn 77 = .ok (.iconst (-1), 1) := by decide +kernel
theorem dX2_sendOn_78 : decode cX2_sendOn 78 = .ok (.if_icmp .eq 15, 3) := by decide +kernel
theorem dX2_sendOn_81 : decode cX2_sendOn 81 = .ok (.iload 7, 2) := by decide +kernel
theorem dX2_sendOn_83 : decode cX2_sendOn 83 = .ok (.aload_n 0, 1) := by decide +kernel
theorem dX2_sendOn_84 : decode cX2_sendOn 84 = .ok (.getfield 21, 3) := by decide +kernel
theorem dX2_sendOn_87 : decode cX2_sendOn 87 = .ok (.iload 6, 2) := by decide +kernel
theorem dX2_sendOn_89 : decode cX2_sendOn 89 = .ok (.iaload, 1) := by decide +kernel
theorem dX2_sendOn_90 : decode cX2_sendOn 90 = .ok (.if_icmp .ge 12, 3) := by decide +kernel
theorem dX2_sendOn_93 : decode cX2_sendOn 93 = .ok (.aload_n 0, 1) := by decide +kernel
theorem dX2_sendOn_94 : decode cX2_sendOn 94 = .ok (.getfield 21, 3) := by decide +kernel
theorem dX2_sendOn_97 : decode cX2_sendOn 97 = .ok (.iload 6, 2) := by decide +kernel
theorem dX2_sendOn_99 : decode cX2_sendOn 99 = .ok (.iload 7, 2) := by decide +kernel
theorem dX2_sendOn_101 : decode cX2_sendOn 101 = .ok (.iastore, 1) := by decide +kernel
theorem dX2_sendOn_102 : decode cX2_sendOn 102 = .ok (.iinc 4 1, 3) := by decide +kernel
theorem dX2_sendOn_105 : decode cX2_sendOn 105 = .ok (.goto (-102), 3) := by decide +kernel
theorem dX2_sendOn_108 : decode cX2_sendOn 108 = .ok (.return_, 1) := by decide +kernel
theorem dX2_spread_0 : decode cX2_spread 0 = .ok (.aload_n 0, 1) := by decide +kernel
theorem dX2_spread_1 : decode cX2_spread 1 = .ok (.getfield 9, 3) := by decide +kernel
theorem dX2_spread_4 : decode cX2_spread 4 = .ok (.iconst (-1), 1) := by decide +kernel
theorem dX2_spread_5 : decode cX2_spread 5 = .ok (.invokestatic 32, 3) := by decide +kernel
theorem dX2_spread_8 : decode cX2_spread 8 = .ok (.aload_n 0, 1) := by decide +kernel
theorem dX2_spread_9 : decode cX2_spread 9 = .ok (.getfield 15, 3) := by decide +kernel
theorem dX2_spread_12 : decode cX2_spread 12 = .ok (.iconst (-1), 1) := by decide +kernel
theorem dX2_spread_13 : decode cX2_spread 13 = .ok (.invokestatic 32, 3) := by decide +kernel
theorem dX2_spread_16 : decode cX2_spread 16 = .ok (.aload_n 0, 1) := by decide +kernel
theorem dX2_spread_17 : decode cX2_spread 17 = .ok (.getfield 18, 3) := by decide +kernel
theorem dX2_spread_20 : decode cX2_spread 20 = .ok (.iconst (-1), 1) := by decide +kernel
theorem dX2_spread_21 : decode cX2_spread 21 = .ok (.invokestatic 32, 3) := by decide +kernel
theorem dX2_spread_24 : decode cX2_spread 24 = .ok (.aload_n 0, 1) := by decide +kernel
theorem dX2_spread_25 : decode cX2_spread 25 = .ok (.getfield 9, 3) := by decide +kernel
theorem dX2_spread_28 : decode cX2_spread 28 = .ok (.iload_n 1, 1) := by decide +kernel
theorem dX2_spread_29 : decode cX2_spread 29 = .ok (.iload_n 2, 1) := by decide +kernel
theorem dX2_spread_30 : decode cX2_spread 30 = .ok (.iastore, 1) := by decide +kernel
theorem dX2_spread_31 : decode cX2_spread 31 = .ok (.iconst 0, 1) := by decide +kernel
theorem dX2_spread_32 : decode cX2_spread 32 = .ok (.istore_n 3, 1) := by decide +kernel
theorem dX2_spread_33 : decode cX2_spread 33 = .ok (.iconst 0, 1) := by decide +kernel
theorem dX2_spread_34 : decode cX2_spread 34 = .ok (.istore 4, 2) := by decide +kernel
theorem dX2_spread_36 : decode cX2_spread 36 = .ok (.iload 4, 2) := by decide +kernel
theorem dX2_spread_38 : decode cX2_spread 38 = .ok (.aload_n 0, 1) := by decide +kernel
theorem dX2_spread_39 : decode cX2_spread 39 = .ok (.getfield 24, 3) := by decide +kernel
theorem dX2_spread_42 : decode cX2_spread 42 = .ok (.getfield 38, 3) := by decide +kernel
theorem dX2_spread_45 : decode cX2_spread 45 = .ok (.if_icmp .ge 72, 3) := by decide +kernel
theorem dX2_spread_48 : decode cX2_spread 48 = .ok (.aload_n 0, 1) := by decide +kernel
theorem dX2_spread_49 : decode cX2_spread 49 = .ok (.iload_n 3, 1) := by decide +kernel
theorem dX2_spread_50 : decode cX2_spread 50 = .ok (.invokevirtual 44, 3) := by decide +kernel
theorem dX2_spread_53 : decode cX2_spread 53 = .ok (.istore 5, 2) := by decide +kernel
theorem dX2_spread_55 : decode cX2_spread 55 = .ok (.iload 5, 2) := by decide +kernel
theorem dX2_spread_57 : decode cX2_spread 57 = .ok (.iconst (-1), 1) := by decide +kernel
theorem dX2_spread_58 : decode cX2_spread 58 = .ok (.if_icmp .ne 4, 3) := by decide +kernel
theorem dX2_spread_61 : decode cX2_spread 61 = .ok (.return_, 1) := by decide +kernel
theorem dX2_spread_62 : decode cX2_spread 62 = .ok (.iload_n 3, 1) := by decide +kernel
theorem dX2_spread_63 : decode cX2_spread 63 = .ok (.iconst 1, 1) := by decide +kernel
theorem dX2_spread_64 : decode cX2_spread 64 = .ok (.iload 5, 2) := by decide +kernel
theorem dX2_spread_66 : decode cX2_spread 66 = .ok (.ishl, 1) := by decide +kernel
theorem dX2_spread_67 : decode cX2_spread 67 = .ok (.ior, 1) := by decide +kernel
theorem dX2_spread_68 : decode cX2_spread 68 = .ok (.istore_n 3, 1) := by decide +kernel
theorem dX2_spread_69 : decode cX2_spread 69 = .ok (.aload_n 0, 1) := by decide +kernel
theorem dX2_spread_70 : decode cX2_spread 70 = .ok (.getfield 18, 3) := by decide +kernel
theorem dX2_spread_73 : decode cX2_spread 73 = .ok (.iload 5, 2) := by decide +kernel
theorem dX2_spread_75 : decode cX2_spread 75 = .ok (.aload_n 0, 1) := by decide +kernel
theorem dX2_spread_76 : decode cX2_spread 76 = .ok (.getfield 15, 3) := by decide +kernel
theorem dX2_spread_79 : decode cX2_spread 79 = .ok (.iload 5, 2) := by decide +kernel
theorem dX2_spread_81 : decode cX2_spread 81 = .ok (.iaload, 1) := by decide +kernel
theorem dX2_spread_82 : decode cX2_spread 82 = .ok (.iconst (-1), 1) := by decide +kernel
theorem dX2_spread_83 : decode cX2_spread 83 = .ok (.if_icmp .ne 7, 3) := by decide +kernel
theorem dX2_spread_86 : decode cX2_spread 86 = .ok (.iconst 0, 1) := by decide +kernel
theorem dX2_spread_87 : decode cX2_spread 87 = .ok (.goto 17, 3) := by decide +kernel
theorem dX2_spread_90 : decode cX2_spread 90 = .ok (.aload_n 0, 1) := by decide +kernel
theorem dX2_spread_91 : decode cX2_spread 91 = .ok (.getfield 18, 3) := by decide +kernel
theorem dX2_spread_94 : decode cX2_spread 94 = .ok (.aload_n 0, 1) := by decide +kernel
theorem dX2_spread_95 : decode cX2_spread 95 = .ok (.getfield 15, 3) := by decide +kernel
theorem dX2_spread_98 : decode cX2_spread 98 = .ok (.iload 5, 2) := by decide +kernel
theorem dX2_spread_100 : decode cX2_spread 100 = .ok (.iaload, 1) := by decide +kernel
theorem dX2_spread_101 : decode cX2_spread 101 = .ok (.iaload, 1) := by decide +kernel
theorem dX2_spread_102 : decode cX2_spread 102 = .ok (.iconst 1, 1) := by decide +kernel
theorem dX2_spread_103 : decode cX2_spread 103 = .ok (.iadd, 1) := by decide +kernel
theorem dX2_spread_104 : decode cX2_spread 104 = .ok (.iastore, 1) := by decide +kernel
theorem dX2_spread_105 : decode cX2_spread 105 = .ok (.aload_n 0, 1) := by decide +kernel
theorem dX2_spread_106 : decode cX2_spread 106 = .ok (.iload 5, 2) := by decide +kernel
theorem dX2_spread_108 : decode cX2_spread 108 = .ok (.invokevirtual 48, 3) := by decide +kernel
theorem dX2_spread_111 : decode cX2_spread 111 = .ok (.iinc 4 1, 3) := by decide +kernel
theorem dX2_spread_114 : decode cX2_spread 114 = .ok (.goto (-78), 3) := by decide +kernel
theorem dX2_spread_117 : decode cX2_spread 117 = .ok (.return_, 1) := by decide +kernel
