theorem qf_X12_387 : Cond.fieldLink RX12 387 "SlowWorldsModel" "ranSteps" "I" ∈ gw := tbt (tb6 (List.mem_of_getElem? (i := 74) rfl)) rfl
theorem qc_X12_does : Cond.code yX12_does cX12_does 4 (some .boolean) ∈ gw := tbt (tb9 (List.mem_of_getElem? (i := 12) rfl)) rfl
theorem qi_yX12_does : Cond.instanceMethod yX12_does ∈ gw := tbt (tb9 (List.mem_of_getElem? (i := 11) rfl)) rfl
theorem qs_X12_does : Cond.selects (yX12_does).cls yX12_does yX12_does ∈ gw := tb0 (List.mem_of_getElem? (i := 100) rfl) rfl
theorem ci_X12_does : CIv yX12_does cX12_does 4 (some .boolean) 1 := ⟨qc_X12_does, qi_yX12_does, qs_X12_does, qz_X12, by decide +kernel⟩
theorem qm_X12_390 : Cond.methodLink RX12 390 yX12_does ∈ gw := tbt (tb9 (List.mem_of_getElem? (i := 9) rfl)) rfl
theorem qc_X12_behindEnds : Cond.code yX12_behindEnds cX12_behindEnds 5 (some .int) ∈ gw := tbt (tb9 (List.mem_of_getElem? (i := 25) rfl)) rfl
theorem qi_yX12_behindEnds : Cond.instanceMethod yX12_behindEnds ∈ gw := tbt (tb9 (List.mem_of_getElem? (i := 24) rfl)) rfl
theorem qs_X12_behindEnds : Cond.selects (yX12_behindEnds).cls yX12_behindEnds yX12_behindEnds ∈ gw := tb0 (List.mem_of_getElem? (i := 103) rfl) rfl
theorem ci_X12_behindEnds : CIv yX12_behindEnds cX12_behindEnds 5 (some .int) 1 := ⟨qc_X12_behindEnds, qi_yX12_behindEnds, qs_X12_behindEnds, qz_X12, by decide +kernel⟩
theorem qm_X12_396 : Cond.methodLink RX12 396 yX12_behindEnds ∈ gw := tbt (tb9 (List.mem_of_getElem? (i := 22) rfl)) rfl
theorem qc_X12_holds : Cond.code yX12_holds cX12_holds 5 (some .boolean) ∈ gw := tbt (tb9 (List.mem_of_getElem? (i := 21) rfl)) rfl
theorem qi_yX12_holds : Cond.instanceMethod yX12_holds ∈ gw := tbt (tb9 (List.mem_of_getElem? (i := 20) rfl)) rfl
theorem qs_X12_holds : Cond.selects (yX12_holds).cls yX12_holds yX12_holds ∈ gw := tb0 (List.mem_of_getElem? (i := 102) rfl) rfl
theorem ci_X12_holds : CIv yX12_holds cX12_holds 5 (some .boolean) 1 := ⟨qc_X12_holds, qi_yX12_holds, qs_X12_holds, qz_X12, by decide +kernel⟩
theorem qm_X12_393 : Cond.methodLink RX12 393 yX12_holds ∈ gw := tbt (tb9 (List.mem_of_getElem? (i := 18) rfl)) rfl
theorem dX12_lives_0 : decode cX12_lives 0 = .ok (.aload_n 0, 1) := by decide +kernel
theorem dX12_lives_1 : decode cX12_lives 1 = .ok (.iload_n 1, 1) := by decide +kernel
theorem dX12_lives_2 : decode cX12_lives 2 = .ok (.putfield 380, 3) := by decide +kernel
theorem dX12_lives_5 : decode cX12_lives 5 = .ok (.aload_n 0, 1) := by decide +kernel
theorem dX12_lives_6 : decode cX12_lives 6 = .ok (.iconst 0, 1) := by decide +kernel
theorem dX12_lives_7 : decode cX12_lives 7 = .ok (.putfield 387, 3) := by decide +kernel
theorem dX12_lives_10 : decode cX12_lives 10 = .ok (.iconst 0, 1) := by decide +kernel
theorem dX12_lives_11 : decode cX12_lives 11 = .ok (.istore_n 2, 1) := by decide +kernel
theorem dX12_lives_12 : decode cX12_lives 12 = .ok (.iload_n 2, 1) := by decide +kernel
theorem dX12_lives_13 : decode cX12_lives 13 = .ok (.iconst 5, 1) := by decide +kernel
theorem dX12_lives_14 : decode cX12_lives 14 = .ok (.if_icmp .ge 16, 3) := by decide +kernel
theorem dX12_lives_17 : decode cX12_lives 17 = .ok (.aload_n 0, 1) := by decide +kernel
theorem dX12_lives_18 : decode cX12_lives 18 = .ok (.getfield 65, 3) := by decide +kernel
theorem dX12_lives_21 : decode cX12_lives 21 = .ok (.iload_n 2, 1) := by decide +kernel
theorem dX12_lives_22 : decode cX12_lives 22 = .ok (.iconst 0, 1) := by decide +kernel
theorem dX12_lives_23 : decode cX12_lives 23 = .ok (.iastore, 1) := by decide +kernel
theorem dX12_lives_24 : decode cX12_lives 24 = .ok (.iinc 2 1, 3) := by decide +kernel
theorem dX12_lives_27 : decode cX12_lives 27 = .ok (.goto (-15), 3) := by decide +kernel
theorem dX12_lives_30 : decode cX12_lives 30 = .ok (.iconst 0, 1) := by decide +kernel
theorem dX12_lives_31 : decode cX12_lives 31 = .ok (.istore_n 2, 1) := by decide +kernel
theorem dX12_lives_32 : decode cX12_lives 32 = .ok (.iload_n 2, 1) := by decide +kernel
theorem dX12_lives_33 : decode cX12_lives 33 = .ok (.aload_n 0, 1) := by decide +kernel
theorem dX12_lives_34 : decode cX12_lives 34 = .ok (.getfield 7, 3) := by decide +kernel
theorem dX12_lives_37 : decode cX12_lives 37 = .ok (.iconst 5, 1) := by decide +kernel
theorem dX12_lives_38 : decode cX12_lives 38 = .ok (.iaload, 1) := by decide +kernel
theorem dX12_lives_39 : decode cX12_lives 39 = .ok (.if_icmp .ge 145, 3) := by decide +kernel
theorem dX12_lives_42 : decode cX12_lives 42 = .ok (.aload_n 0, 1) := by decide +kernel
theorem dX12_lives_43 : decode cX12_lives 43 = .ok (.getfield 387, 3) := by decide +kernel
theorem dX12_lives_46 : decode cX12_lives 46 = .ok (.sipush 200, 3) := by decide +kernel
theorem dX12_lives_49 : decode cX12_lives 49 = .ok (.if_icmp .ne 11, 3) := by decide +kernel
theorem dX12_lives_52 : decode cX12_lives 52 = .ok (.aload_n 0, 1) := by decide +kernel
theorem dX12_lives_53 : decode cX12_lives 53 = .ok (.getfield 65, 3) := by decide +kernel
theorem dX12_lives_56 : decode cX12_lives 56 = .ok (.iconst 4, 1) := by decide +kernel
theorem dX12_lives_57 : decode cX12_lives 57 = .ok (.iconst 1, 1) := by decide +kernel
theorem dX12_lives_58 : decode cX12_lives 58 = .ok (.iastore, 1) := by decide +kernel
theorem dX12_lives_59 : decode cX12_lives 59 = .ok (.return_, 1) := by decide +kernel
theorem dX12_lives_60 : decode cX12_lives 60 = .ok (.sipush 520, 3) := by decide +kernel
theorem dX12_lives_63 : decode cX12_lives 63 = .ok (.bipush 6, 2) := by decide +kernel
theorem dX12_lives_65 : decode cX12_lives 65 = .ok (.iload_n 2, 1) := by decide +kernel
theorem dX12_lives_66 : decode cX12_lives 66 = .ok (.imul, 1) := by decide +kernel
theorem dX12_lives_67 : decode cX12_lives 67 = .ok (.iadd, 1) := by decide +kernel
theorem dX12_lives_68 : decode cX12_lives 68 = .ok (.istore_n 3, 1) := by decide +kernel
theorem dX12_lives_69 : decode cX12_lives 69 = .ok (.aload_n 0, 1) := by decide +kernel
theorem dX12_lives_70 : decode cX12_lives 70 = .ok (.dup, 1) := by decide +kernel
theorem dX12_lives_71 : decode cX12_lives 71 = .ok (.getfield 387, 3) := by decide +kernel
theorem dX12_lives_74 : decode cX12_lives 74 = .ok (.iconst 1, 1) := by decide +kernel
theorem dX12_lives_75 : decode cX12_lives 75 = .ok (.iadd, 1) := by decide +kernel
theorem dX12_lives_76 : decode cX12_lives 76 = .ok (.putfield 387, 3) := by decide +kernel
theorem dX12_lives_79 : decode cX12_lives 79 = .ok (.aload_n 0, 1) := by decide +kernel
theorem dX12_lives_80 : decode cX12_lives 80 = .ok (.getfield 7, 3) := by decide +kernel
theorem dX12_lives_83 : decode cX12_lives 83 = .ok (.iload_n 3, 1) := by decide +kernel
theorem dX12_lives_84 : decode cX12_lives 84 = .ok (.iaload, 1) := by decide +kernel
theorem dX12_lives_85 : decode cX12_lives 85 = .ok (.bipush 22, 2) := by decide +kernel
theorem dX12_lives_87 : decode cX12_lives 87 = .ok (.if_icmp .ne 4, 3) := by decide +kernel
theorem dX12_lives_90 : decode cX12_lives 90 = .ok (.return_, 1) := by decide +kernel
theorem dX12_lives_91 : decode cX12_lives 91 = .ok (.aload_n 0, 1) := by decide +kernel
theorem dX12_lives_92 : decode cX12_lives 92 = .ok (.getfield 65, 3) := by decide +kernel
theorem dX12_lives_95 : decode cX12_lives 95 = .ok (.iconst 0, 1) := by decide +kernel
theorem dX12_lives_96 : decode cX12_lives 96 = .ok (.dup2, 1) := by decide +kernel
theorem dX12_lives_97 : decode cX12_lives 97 = .ok (.iaload, 1) := by decide +kernel
theorem dX12_lives_98 : decode cX12_lives 98 = .ok (.aload_n 0, 1) := by decide +kernel
theorem dX12_lives_99 : decode cX12_lives 99 = .ok (.iload_n 3, 1) := by decide +kernel
theorem dX12_lives_100 : decode cX12_lives 100 = .ok (.invokevirtual 390, 3) := by decide +kernel
theorem dX12_lives_103 : decode cX12_lives 103 = .ok (.ifCond .eq 7, 3) := by decide +kernel
theorem dX12_lives_106 : decode cX12_lives 106 = .ok (.iconst 0, 1) := by decide +kernel
theorem dX12_lives_107 : decode cX12_lives 107 = .ok (.goto 4, 3) := by decide +kernel
theorem dX12_lives_110 : decode cX12_lives 110 = .ok (.iconst 1, 1) := by decide +kernel
theorem dX12_lives_111 : decode cX12_lives 111 = .ok (.iadd, 1) := by decide +kernel
theorem dX12_lives_112 : decode cX12_lives 112 = .ok (.iastore, 1) := by decide +kernel
theorem dX12_lives_113 : decode cX12_lives 113 = .ok (.aload_n 0, 1) := by decide +kernel
theorem dX12_lives_114 : decode cX12_lives 114 = .ok (.getfield 7, 3) := by decide +kernel
theorem dX12_lives_117 : decode cX12_lives 117 = .ok (.iload_n 3, 1) := by decide +kernel
theorem dX12_lives_118 : decode cX12_lives 118 = .ok (.iaload, 1) := by decide +kernel
theorem dX12_lives_119 : decode cX12_lives 119 = .ok (.bipush 20, 2) := by decide +kernel
theorem dX12_lives_121 : decode cX12_lives 121 = .ok (.if_icmp .ne 19, 3) := by decide +kernel
theorem dX12_lives_124 : decode cX12_lives 124 = .ok (.aload_n 0, 1) := by decide +kernel
theorem dX12_lives_125 : decode cX12_lives 125 = .ok (.getfield 62, 3) := by decide +kernel
theorem dX12_lives_128 : decode cX12_lives 128 = .ok (.iload_n 2, 1) := by decide +kernel
theorem dX12_lives_129 : decode cX12_lives 129 = .ok (.aload_n 0, 1) := by decide +kernel
theorem dX12_lives_130 : decode cX12_lives 130 = .ok (.getfield 7, 3) := by decide +kernel
theorem dX12_lives_133 : decode cX12_lives 133 = .ok (.iload_n 3, 1) := by decide +kernel
theorem dX12_lives_134 : decode cX12_lives 134 = .ok (.iconst 1, 1) := by decide +kernel
theorem dX12_lives_135 : decode cX12_lives 135 = .ok (.iadd, 1) := by decide +kernel
theorem dX12_lives_136 : decode cX12_lives 136 = .ok (.iaload, 1) := by decide +kernel
theorem dX12_lives_137 : decode cX12_lives 137 = .ok (.iconst 1, 1) := by decide +kernel
theorem dX12_lives_138 : decode cX12_lives 138 = .ok (.isub, 1) := by decide +kernel
theorem dX12_lives_139 : decode cX12_lives 139 = .ok (.iastore, 1) := by decide +kernel
theorem dX12_lives_140 : decode cX12_lives 140 = .ok (.aload_n 0, 1) := by decide +kernel
theorem dX12_lives_141 : decode cX12_lives 141 = .ok (.aload_n 0, 1) := by decide +kernel
theorem dX12_lives_142 : decode cX12_lives 142 = .ok (.getfield 7, 3) := by decide +kernel
theorem dX12_lives_145 : decode cX12_lives 145 = .ok (.iload_n 3, 1) := by decide +kernel
theorem dX12_lives_146 : decode cX12_lives 146 = .ok (.iaload, 1) := by decide +kernel
theorem dX12_lives_147 : decode cX12_lives 147 = .ok (.sipush 1900, 3) := by decide +kernel
theorem dX12_lives_150 : decode cX12_lives 150 = .ok (.if_icmp .lt 24, 3) := by decide +kernel
theorem dX12_lives_153 : decode cX12_lives 153 = .ok (.aload_n 0, 1) := by decide +kernel
theorem dX12_lives_154 : decode cX12_lives 154 = .ok (.iload_n 3, 1) := by decide +kernel
theorem dX12_lives_155 : decode cX12_lives 155 = .ok (.invokevirtual 393, 3) := by decide +kernel
theorem dX12_lives_158 : decode cX12_lives 158 = .ok (.ifCond .ne 16, 3) := by decide +kernel
theorem dX12_lives_161 : decode cX12_lives 161 = .ok (.aload_n 0, 1) := by decide +kernel
theorem dX12_lives_162 : decode cX12_lives 162 = .ok (.getfield 7, 3) := by decide +kernel
theorem dX12_lives_165 : decode cX12_lives 165 = .ok (.iload_n 3, 1) := by decide +kernel
theorem dX12_lives_166 : decode cX12_lives 166 = .ok (.iconst 4, 1) := by decide +kernel
theorem dX12_lives_167 : decode cX12_lives 167 = .ok (.iadd, 1) := by decide +kernel
theorem dX12_lives_168 : decode cX12_lives 168 = .ok (.iaload, 1) := by decide +kernel
theorem dX12_lives_169 : decode cX12_lives 169 = .ok (.iconst 1, 1) := by decide +kernel
theorem dX12_lives_170 : decode cX12_lives 170 = .ok (.iadd, 1) := by decide +kernel
theorem dX12_lives_171 : decode cX12_lives 171 = .ok (.goto 6, 3) := by decide +kernel
theorem dX12_lives_174 : decode cX12_lives 174 = .ok (.iload_n 2, 1) := by decide +kernel
theorem dX12_lives_175 : decode cX12_lives 175 = .ok (.iconst 1, 1) := by decide +kernel
theorem dX12_lives_176 : decode cX12_lives 176 = .ok (.iadd, 1) := by decide +kernel
theorem dX12_lives_177 : decode cX12_lives 177 = .ok (.invokevirtual 396, 3) := by decide +kernel
theorem dX12_lives_180 : decode cX12_lives 180 = .ok (.istore_n 2, 1) := by decide +kernel
theorem dX12_lives_181 : decode cX12_lives 181 = .ok (.goto (-149), 3) := by decide +kernel
theorem dX12_lives_184 : decode cX12_lives 184 = .ok (.return_, 1) := by decide +kernel
