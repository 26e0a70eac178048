theorem qc_X1_letPass : Cond.code yX1_letPass cX1_letPass 4 (some .int) ∈ gw := tbt (tb5 (List.mem_of_getElem? (i := 166) rfl)) rfl
theorem qi_yX1_letPass : Cond.instanceMethod yX1_letPass ∈ gw := tbt (tb5 (List.mem_of_getElem? (i := 164) rfl)) rfl
theorem qs_X1_letPass : Cond.selects (yX1_letPass).cls yX1_letPass yX1_letPass ∈ gw := tbt (tb5 (List.mem_of_getElem? (i := 165) rfl)) rfl
theorem ci_X1_letPass : CIv yX1_letPass cX1_letPass 4 (some .int) 1 := ⟨qc_X1_letPass, qi_yX1_letPass, qs_X1_letPass, qz_X1, by decide +kernel⟩
theorem qm_X1_137 : Cond.methodLink RX1 137 yX1_letPass ∈ gw := tbt (tb5 (List.mem_of_getElem? (i := 230) rfl)) rfl
theorem qf_X1_105 : Cond.fieldLink RX1 105 "SlowWorlds$Life" "weeks" "I" ∈ gw := tbt (tb2 (List.mem_of_getElem? (i := 147) rfl)) rfl
theorem qf_X1_102 : Cond.fieldLink RX1 102 "SlowWorlds$Life" "missed" "I" ∈ gw := tbt (tb2 (List.mem_of_getElem? (i := 145) rfl)) rfl
theorem qc_X0_dress : Cond.code yX0_dress cX0_dress 3 none ∈ gw := tbt (tb5 (List.mem_of_getElem? (i := 188) rfl)) rfl
theorem qi_yX0_dress : Cond.instanceMethod yX0_dress ∈ gw := tbt (tb5 (List.mem_of_getElem? (i := 186) rfl)) rfl
theorem qs_X0_dress : Cond.selects (yX0_dress).cls yX0_dress yX0_dress ∈ gw := tbt (tb5 (List.mem_of_getElem? (i := 187) rfl)) rfl
theorem ci_X0_dress : CIv yX0_dress cX0_dress 3 none 2 := ⟨qc_X0_dress, qi_yX0_dress, qs_X0_dress, qz_X0, by decide +kernel⟩
theorem qm_X1_143 : Cond.methodLink RX1 143 yX0_dress ∈ gw := tbt (tb5 (List.mem_of_getElem? (i := 231) rfl)) rfl
theorem qc_X1_giveOrder : Cond.code yX1_giveOrder cX1_giveOrder 4 (some .int) ∈ gw := tbt (tb4 (List.mem_of_getElem? (i := 222) rfl)) rfl
theorem qi_yX1_giveOrder : Cond.instanceMethod yX1_giveOrder ∈ gw := tbt (tb4 (List.mem_of_getElem? (i := 220) rfl)) rfl
theorem qs_X1_giveOrder : Cond.selects (yX1_giveOrder).cls yX1_giveOrder yX1_giveOrder ∈ gw := tbt (tb4 (List.mem_of_getElem? (i := 221) rfl)) rfl
theorem ci_X1_giveOrder : CIv yX1_giveOrder cX1_giveOrder 4 (some .int) 1 := ⟨qc_X1_giveOrder, qi_yX1_giveOrder, qs_X1_giveOrder, qz_X1, by decide +kernel⟩
theorem qm_X1_146 : Cond.methodLink RX1 146 yX1_giveOrder ∈ gw := tbt (tb5 (List.mem_of_getElem? (i := 232) rfl)) rfl
theorem qf_X1_111 : Cond.fieldLink RX1 111 "SlowWorlds$Life" "ordered" "I" ∈ gw := tbt (tb2 (List.mem_of_getElem? (i := 151) rfl)) rfl
theorem qc_X1_turnByChance : Cond.code yX1_turnByChance cX1_turnByChance 3 none ∈ gw := tbt (tb5 (List.mem_of_getElem? (i := 236) rfl)) rfl
theorem qi_yX1_turnByChance : Cond.instanceMethod yX1_turnByChance ∈ gw := tbt (tb5 (List.mem_of_getElem? (i := 235) rfl)) rfl
theorem qs_X1_turnByChance : Cond.selects (yX1_turnByChance).cls yX1_turnByChance yX1_turnByChance ∈ gw := tb0 (List.mem_of_getElem? (i := 34) rfl) rfl
theorem ci_X1_turnByChance : CIv yX1_turnByChance cX1_turnByChance 3 none 1 := ⟨qc_X1_turnByChance, qi_yX1_turnByChance, qs_X1_turnByChance, qz_X1, by decide +kernel⟩
theorem qm_X1_149 : Cond.methodLink RX1 149 yX1_turnByChance ∈ gw := tbt (tb5 (List.mem_of_getElem? (i := 233) rfl)) rfl
theorem qc_X1_holds : Cond.code yX1_holds cX1_holds 6 (some .boolean) ∈ gw := tbt (tb6 (List.mem_of_getElem? (i := 5) rfl)) rfl
theorem qi_yX1_holds : Cond.instanceMethod yX1_holds ∈ gw := tbt (tb6 (List.mem_of_getElem? (i := 4) rfl)) rfl
theorem qs_X1_holds : Cond.selects (yX1_holds).cls yX1_holds yX1_holds ∈ gw := tb0 (List.mem_of_getElem? (i := 35) rfl) rfl
theorem ci_X1_holds : CIv yX1_holds cX1_holds 6 (some .boolean) 1 := ⟨qc_X1_holds, qi_yX1_holds, qs_X1_holds, qz_X1, by decide +kernel⟩
theorem qm_X1_153 : Cond.methodLink RX1 153 yX1_holds ∈ gw := tbt (tb6 (List.mem_of_getElem? (i := 2) rfl)) rfl
theorem qf_X1_118 : Cond.fieldLink RX1 118 "SlowWorlds$Years" "rows" "I" ∈ gw := tbt (tb1 (List.mem_of_getElem? (i := 150) rfl)) rfl
theorem qf_X1_99 : Cond.fieldLink RX1 99 "SlowWorlds$Life" "steps" "I" ∈ gw := tbt (tb2 (List.mem_of_getElem? (i := 143) rfl)) rfl
theorem qf_X1_114 : Cond.fieldLink RX1 114 "SlowWorlds$Life" "left" "I" ∈ gw := tbt (tb2 (List.mem_of_getElem? (i := 153) rfl)) rfl
theorem qk_X1_117 : Cond.constant RX1 117 (1000000) ∈ gw := tbt (tb5 (List.mem_of_getElem? (i := 221) rfl)) rfl
theorem qc_X1_behindStep : Cond.code yX1_behindStep cX1_behindStep 6 (some .int) ∈ gw := tbt (tb5 (List.mem_of_getElem? (i := 229) rfl)) rfl
theorem qi_yX1_behindStep : Cond.instanceMethod yX1_behindStep ∈ gw := tbt (tb5 (List.mem_of_getElem? (i := 228) rfl)) rfl
theorem qs_X1_behindStep : Cond.selects (yX1_behindStep).cls yX1_behindStep yX1_behindStep ∈ gw := tb0 (List.mem_of_getElem? (i := 33) rfl) rfl
theorem ci_X1_behindStep : CIv yX1_behindStep cX1_behindStep 6 (some .int) 1 := ⟨qc_X1_behindStep, qi_yX1_behindStep, qs_X1_behindStep, qz_X1, by decide +kernel⟩
theorem qm_X1_128 : Cond.methodLink RX1 128 yX1_behindStep ∈ gw := tbt (tb5 (List.mem_of_getElem? (i := 226) rfl)) rfl
theorem qc_X1_behindEnd : Cond.code yX1_behindEnd cX1_behindEnd 3 (some .int) ∈ gw := tbt (tb5 (List.mem_of_getElem? (i := 225) rfl)) rfl
theorem qi_yX1_behindEnd : Cond.instanceMethod yX1_behindEnd ∈ gw := tbt (tb5 (List.mem_of_getElem? (i := 224) rfl)) rfl
theorem qs_X1_behindEnd : Cond.selects (yX1_behindEnd).cls yX1_behindEnd yX1_behindEnd ∈ gw := tb0 (List.mem_of_getElem? (i := 32) rfl) rfl
theorem ci_X1_behindEnd : CIv yX1_behindEnd cX1_behindEnd 3 (some .int) 1 := ⟨qc_X1_behindEnd, qi_yX1_behindEnd, qs_X1_behindEnd, qz_X1, by decide +kernel⟩
theorem qm_X1_124 : Cond.methodLink RX1 124 yX1_behindEnd ∈ gw := tbt (tb5 (List.mem_of_getElem? (i := 222) rfl)) rfl
theorem dX1_behindStep_0 : decode cX1_behindStep 0 = .ok (.aload_n 0, 1) := by decide +kernel
theorem dX1_behindStep_1 : decode cX1_behindStep 1 = .ok (.getfield 17, 3) := by decide +kernel
theorem dX1_behindStep_4 : decode cX1_behindStep 4 = .ok (.getfield 92, 3) := by decide +kernel
theorem dX1_behindStep_7 : decode cX1_behindStep 7 = .ok (.astore_n 2, 1) := by decide +kernel
theorem dX1_behindStep_8 : decode cX1_behindStep 8 = .ok (.aload_n 2, 1) := by decide +kernel
theorem dX1_behindStep_9 : decode cX1_behindStep 9 = .ok (.getfield 134, 3) := by decide +kernel
theorem dX1_behindStep_12 : decode cX1_behindStep 12 = .ok (.iload_n 1, 1) := by decide +kernel
theorem dX1_behindStep_13 : decode cX1_behindStep 13 = .ok (.iaload, 1) := by decide +kernel
theorem dX1_behindStep_14 : decode cX1_behindStep 14 = .ok (.istore_n 3, 1) := by decide +kernel
theorem dX1_behindStep_15 : decode cX1_behindStep 15 = .ok (.aload_n 2, 1) := by decide +kernel
theorem dX1_behindStep_16 : decode cX1_behindStep 16 = .ok (.getfield 121, 3) := by decide +kernel
theorem dX1_behindStep_19 : decode cX1_behindStep 19 = .ok (.iload_n 1, 1) := by decide +kernel
theorem dX1_behindStep_20 : decode cX1_behindStep 20 = .ok (.iaload, 1) := by decide +kernel
theorem dX1_behindStep_21 : decode cX1_behindStep 21 = .ok (.tableswitch 211 15 22 #[47, 89, 110, 168, 177, 211, 211, 200], 47) := by decide +kernel
theorem dX1_behindStep_68 : decode cX1_behindStep 68 = .ok (.aload_n 0, 1) := by decide +kernel
theorem dX1_behindStep_69 : decode cX1_behindStep 69 = .ok (.iload_n 3, 1) := by decide +kernel
theorem dX1_behindStep_70 : decode cX1_behindStep 70 = .ok (.invokevirtual 137, 3) := by decide +kernel
theorem dX1_behindStep_73 : decode cX1_behindStep 73 = .ok (.istore 4, 2) := by decide +kernel
theorem dX1_behindStep_75 : decode cX1_behindStep 75 = .ok (.aload_n 0, 1) := by decide +kernel
theorem dX1_behindStep_76 : decode cX1_behindStep 76 = .ok (.dup, 1) := by decide +kernel
theorem dX1_behindStep_77 : decode cX1_behindStep 77 = .ok (.getfield 105, 3) := by decide +kernel
theorem dX1_behindStep_80 : decode cX1_behindStep 80 = .ok (.iload 4, 2) := by decide +kernel
theorem dX1_behindStep_82 : decode cX1_behindStep 82 = .ok (.iadd, 1) := by decide +kernel
theorem dX1_behindStep_83 : decode cX1_behindStep 83 = .ok (.putfield 105, 3) := by decide +kernel
theorem dX1_behindStep_86 : decode cX1_behindStep 86 = .ok (.aload_n 0, 1) := by decide +kernel
theorem dX1_behindStep_87 : decode cX1_behindStep 87 = .ok (.dup, 1) := by decide +kernel
theorem dX1_behindStep_88 : decode cX1_behindStep 88 = .ok (.getfield 102, 3) := by decide +kernel
theorem dX1_behindStep_91 : decode cX1_behindStep 91 = .ok (.iload 4, 2) := by decide +kernel
theorem dX1_behindStep_93 : decode cX1_behindStep 93 = .ok (.iload_n 3, 1) := by decide +kernel
theorem dX1_behindStep_94 : decode cX1_behindStep 94 = .ok (.if_icmp .ge 7, 3) := by decide +kernel
theorem dX1_behindStep_97 : decode cX1_behindStep 97 = .ok (.iconst 1, 1) := by decide +kernel
theorem dX1_behindStep_98 : decode cX1_behindStep 98 = .ok (.goto 4, 3) := by decide +kernel
theorem dX1_behindStep_101 : decode cX1_behindStep 101 = .ok (.iconst 0, 1) := by decide +kernel
theorem dX1_behindStep_102 : decode cX1_behindStep 102 = .ok (.iadd, 1) := by decide +kernel
theorem dX1_behindStep_103 : decode cX1_behindStep 103 = .ok (.putfield 102, 3) := by decide +kernel
theorem dX1_behindStep_106 : decode cX1_behindStep 106 = .ok (.iload_n 1, 1) := by decide +kernel
theorem dX1_behindStep_107 : decode cX1_behindStep 107 = .ok (.iconst 1, 1) := by decide +kernel
theorem dX1_behindStep_108 : decode cX1_behindStep 108 = .ok (.iadd, 1) := by decide +kernel
theorem dX1_behindStep_109 : decode cX1_behindStep 109 = .ok (.ireturn, 1) := by decide +kernel
theorem dX1_behindStep_110 : decode cX1_behindStep 110 = .ok (.aload_n 0, 1) := by decide +kernel
theorem dX1_behindStep_111 : decode cX1_behindStep 111 = .ok (.getfield 17, 3) := by decide +kernel
theorem dX1_behindStep_114 : decode cX1_behindStep 114 = .ok (.getfield 29, 3) := by decide +kernel
theorem dX1_behindStep_117 : decode cX1_behindStep 117 = .ok (.iload_n 3, 1) := by decide +kernel
theorem dX1_behindStep_118 : decode cX1_behindStep 118 = .ok (.aload_n 2, 1) := by decide +kernel
theorem dX1_behindStep_119 : decode cX1_behindStep 119 = .ok (.getfield 140, 3) := by decide +kernel
theorem dX1_behindStep_122 : decode cX1_behindStep 122 = .ok (.iload_n 1, 1) := by decide +kernel
theorem dX1_behindStep_123 : decode cX1_behindStep 123 = .ok (.iaload, 1) := by decide +kernel
theorem dX1_behindStep_124 : decode cX1_behindStep 124 = .ok (.invokevirtual 143, 3) := by decide +kernel
theorem dX1_behindStep_127 : decode cX1_behindStep 127 = .ok (.iload_n 1, 1) := by decide +kernel
theorem dX1_behindStep_128 : decode cX1_behindStep 128 = .ok (.iconst 1, 1) := by decide +kernel
theorem dX1_behindStep_129 : decode cX1_behindStep 129 = .ok (.iadd, 1) := by decide +kernel
theorem dX1_behindStep_130 : decode cX1_behindStep 130 = .ok (.ireturn, 1) := by decide +kernel
theorem dX1_behindStep_131 : decode cX1_behindStep 131 = .ok (.aload_n 0, 1) := by decide +kernel
theorem dX1_behindStep_132 : decode cX1_behindStep 132 = .ok (.iload_n 3, 1) := by decide +kernel
theorem dX1_behindStep_133 : decode cX1_behindStep 133 = .ok (.invokevirtual 146, 3) := by decide +kernel
theorem dX1_behindStep_136 : decode cX1_behindStep 136 = .ok (.iconst (-1), 1) := by decide +kernel
theorem dX1_behindStep_137 : decode cX1_behindStep 137 = .ok (.if_icmp .eq 7, 3) := by decide +kernel
theorem dX1_behindStep_140 : decode cX1_behindStep 140 = .ok (.iconst 1, 1) := by decide +kernel
theorem dX1_behindStep_141 : decode cX1_behindStep 141 = .ok (.goto 4, 3) := by decide +kernel
theorem dX1_behindStep_144 : decode cX1_behindStep 144 = .ok (.iconst 0, 1) := by decide +kernel
theorem dX1_behindStep_145 : decode cX1_behindStep 145 = .ok (.istore 5, 2) := by decide +kernel
theorem dX1_behindStep_147 : decode cX1_behindStep 147 = .ok (.aload_n 0, 1) := by decide +kernel
theorem dX1_behindStep_148 : decode cX1_behindStep 148 = .ok (.dup, 1) := by decide +kernel
theorem dX1_behindStep_149 : decode cX1_behindStep 149 = .ok (.getfield 111, 3) := by decide +kernel
theorem dX1_behindStep_152 : decode cX1_behindStep 152 = .ok (.iload 5, 2) := by decide +kernel
theorem dX1_behindStep_154 : decode cX1_behindStep 154 = .ok (.ifCond .eq 7, 3) := by decide +kernel
theorem dX1_behindStep_157 : decode cX1_behindStep 157 = .ok (.iconst 1, 1) := by decide +kernel
theorem dX1_behindStep_158 : decode cX1_behindStep 158 = .ok (.goto 4, 3) := by decide +kernel
theorem dX1_behindStep_161 : decode cX1_behindStep 161 = .ok (.iconst 0, 1) := by decide +kernel
theorem dX1_behindStep_162 : decode cX1_behindStep 162 = .ok (.iadd, 1) := by decide +kernel
theorem dX1_behindStep_163 : decode cX1_behindStep 163 = .ok (.putfield 111, 3) := by decide +kernel
theorem dX1_behindStep_166 : decode cX1_behindStep 166 = .ok (.aload_n 0, 1) := by decide +kernel
theorem dX1_behindStep_167 : decode cX1_behindStep 167 = .ok (.dup, 1) := by decide +kernel
theorem dX1_behindStep_168 : decode cX1_behindStep 168 = .ok (.getfield 102, 3) := by decide +kernel
theorem dX1_behindStep_171 : decode cX1_behindStep 171 = .ok (.iload 5, 2) := by decide +kernel
theorem dX1_behindStep_173 : decode cX1_behindStep 173 = .ok (.ifCond .eq 7, 3) := by decide +kernel
theorem dX1_behindStep_176 : decode cX1_behindStep 176 = .ok (.iconst 0, 1) := by decide +kernel
theorem dX1_behindStep_177 : decode cX1_behindStep 177 = .ok (.goto 4, 3) := by decide +kernel
theorem dX1_behindStep_180 : decode cX1_behindStep 180 = .ok (.iconst 1, 1) := by decide +kernel
theorem dX1_behindStep_181 : decode cX1_behindStep 181 = .ok (.iadd, 1) := by decide +kernel
theorem dX1_behindStep_182 : decode cX1_behindStep 182 = .ok (.putfield 102, 3) := by decide +kernel
theorem dX1_behindStep_185 : decode cX1_behindStep 185 = .ok (.iload_n 1, 1) := by decide +kernel
theorem dX1_behindStep_186 : decode cX1_behindStep 186 = .ok (.iconst 1, 1) := by decide +kernel
theorem dX1_behindStep_187 : decode cX1_behindStep 187 = .ok (.iadd, 1) := by decide +kernel
theorem dX1_behindStep_188 : decode cX1_behindStep 188 = .ok (.ireturn, 1) := by decide +kernel
theorem dX1_behindStep_189 : decode cX1_behindStep 189 = .ok (.aload_n 0, 1) := by decide +kernel
theorem dX1_behindStep_190 : decode cX1_behindStep 190 = .ok (.iload_n 3, 1) := by decide +kernel
theorem dX1_behindStep_191 : decode cX1_behindStep 191 = .ok (.invokevirtual 149, 3) := by decide +kernel
theorem dX1_behindStep_194 : decode cX1_behindStep 194 = .ok (.iload_n 1, 1) := by decide +kernel
theorem dX1_behindStep_195 : decode cX1_behindStep 195 = .ok (.iconst 1, 1) := by decide +kernel
theorem dX1_behindStep_196 : decode cX1_behindStep 196 = .ok (.iadd, 1) := by decide +kernel
theorem dX1_behindStep_197 : decode cX1_behindStep 197 = .ok (.ireturn, 1) := by decide +kernel
theorem dX1_behindStep_198 : decode cX1_behindStep 198 = .ok (.aload_n 0, 1) := by decide +kernel
theorem dX1_behindStep_199 : decode cX1_behindStep 199 = .ok (.iload_n 1, 1) := by decide +kernel
theorem dX1_behindStep_200 : decode cX1_behindStep 200 = .ok (.invokevirtual 153, 3) := by decide +kernel
theorem dX1_behindStep_203 : decode cX1_behindStep 203 = .ok (.ifCond .eq 9, 3) := by decide +kernel
theorem dX1_behindStep_206 : decode cX1_behindStep 206 = .ok (.iload_n 1, 1) := by decide +kernel
theorem dX1_behindStep_207 : decode cX1_behindStep 207 = .ok (.iconst 1, 1) := by decide +kernel
theorem dX1_behindStep_208 : decode cX1_behindStep 208 = .ok (.iadd, 1) := by decide +kernel
theorem dX1_behindStep_209 : decode cX1_behindStep 209 = .ok (.goto 11, 3) := by decide +kernel
theorem dX1_behindStep_212 : decode cX1_behindStep 212 = .ok (.aload_n 2, 1) := by decide +kernel
theorem dX1_behindStep_213 : decode cX1_behindStep 213 = .ok (.getfield 131, 3) := by decide +kernel
theorem dX1_behindStep_216 : decode cX1_behindStep 216 = .ok (.iload_n 1, 1) := by decide +kernel
theorem dX1_behindStep_217 : decode cX1_behindStep 217 = .ok (.iaload, 1) := by decide +kernel
theorem dX1_behindStep_218 : decode cX1_behindStep 218 = .ok (.iconst 1, 1) := by decide +kernel
theorem dX1_behindStep_219 : decode cX1_behindStep 219 = .ok (.iadd, 1) := by decide +kernel
theorem dX1_behindStep_220 : decode cX1_behindStep 220 = .ok (.ireturn, 1) := by decide +kernel
theorem dX1_behindStep_221 : decode cX1_behindStep 221 = .ok (.aload_n 0, 1) := by decide +kernel
theorem dX1_behindStep_222 : decode cX1_behindStep 222 = .ok (.getfield 11, 3) := by decide +kernel
theorem dX1_behindStep_225 : decode cX1_behindStep 225 = .ok (.iload_n 1, 1) := by decide +kernel
theorem dX1_behindStep_226 : decode cX1_behindStep 226 = .ok (.iload_n 3, 1) := by decide +kernel
theorem dX1_behindStep_227 : decode cX1_behindStep 227 = .ok (.iastore, 1) := by decide +kernel
theorem dX1_behindStep_228 : decode cX1_behindStep 228 = .ok (.iload_n 1, 1) := by decide +kernel
theorem dX1_behindStep_229 : decode cX1_behindStep 229 = .ok (.iconst 1, 1) := by decide +kernel
theorem dX1_behindStep_230 : decode cX1_behindStep 230 = .ok (.iadd, 1) := by decide +kernel
theorem dX1_behindStep_231 : decode cX1_behindStep 231 = .ok (.ireturn, 1) := by decide +kernel
theorem dX1_behindStep_232 : decode cX1_behindStep 232 = .ok (.aload_n 2, 1) := by decide +kernel
theorem dX1_behindStep_233 : decode cX1_behindStep 233 = .ok (.getfield 118, 3) := by decide +kernel
theorem dX1_behindStep_236 : decode cX1_behindStep 236 = .ok (.ireturn, 1) := by decide +kernel
theorem dX1_run_0 : decode cX1_run 0 = .ok (.aload_n 0, 1) := by decide +kernel
theorem dX1_run_1 : decode cX1_run 1 = .ok (.getfield 17, 3) := by decide +kernel
theorem dX1_run_4 : decode cX1_run 4 = .ok (.getfield 92, 3) := by decide +kernel
theorem dX1_run_7 : decode cX1_run 7 = .ok (.astore_n 2, 1) := by decide +kernel
theorem dX1_run_8 : decode cX1_run 8 = .ok (.aload_n 0, 1) := by decide +kernel
theorem dX1_run_9 : decode cX1_run 9 = .ok (.iload_n 1, 1) := by decide +kernel
theorem dX1_run_10 : decode cX1_run 10 = .ok (.putfield 96, 3) := by decide +kernel
theorem dX1_run_13 : decode cX1_run 13 = .ok (.aload_n 0, 1) := by decide +kernel
theorem dX1_run_14 : decode cX1_run 14 = .ok (.iconst 0, 1) := by decide +kernel
theorem dX1_run_15 : decode cX1_run 15 = .ok (.putfield 99, 3) := by decide +kernel
theorem dX1_run_18 : decode cX1_run 18 = .ok (.aload_n 0, 1) := by decide +kernel
theorem dX1_run_19 : decode cX1_run 19 = .ok (.iconst 0, 1) := by decide +kernel
theorem dX1_run_20 : decode cX1_run 20 = .ok (.putfield 102, 3) := by decide +kernel
theorem dX1_run_23 : decode cX1_run 23 = .ok (.aload_n 0, 1) := by decide +kernel
theorem dX1_run_24 : decode cX1_run 24 = .ok (.iconst 0, 1) := by decide +kernel
theorem dX1_run_25 : decode cX1_run 25 = .ok (.putfield 105, 3) := by decide +kernel
theorem dX1_run_28 : decode cX1_run 28 = .ok (.aload_n 0, 1) := by decide +kernel
theorem dX1_run_29 : decode cX1_run 29 = .ok (.iconst 0, 1) := by decide +kernel
theorem dX1_run_30 : decode cX1_run 30 = .ok (.putfield 108, 3) := by decide +kernel
theorem dX1_run_33 : decode cX1_run 33 = .ok (.aload_n 0, 1) := by decide +kernel
theorem dX1_run_34 : decode cX1_run 34 = .ok (.iconst 0, 1) := by decide +kernel
theorem dX1_run_35 : decode cX1_run 35 = .ok (.putfield 111, 3) := by decide +kernel
theorem dX1_run_38 : decode cX1_run 38 = .ok (.aload_n 0, 1) := by decide +kernel
theorem dX1_run_39 : decode cX1_run 39 = .ok (.iconst 0, 1) := by decide +kernel
theorem dX1_run_40 : decode cX1_run 40 = .ok (.putfield 114, 3) := by decide +kernel
theorem dX1_run_43 : decode cX1_run 43 = .ok (.iconst 0, 1) := by decide +kernel
theorem dX1_run_44 : decode cX1_run 44 = .ok (.istore_n 3, 1) := by decide +kernel
theorem dX1_run_45 : decode cX1_run 45 = .ok (.iconst 0, 1) := by decide +kernel
theorem dX1_run_46 : decode cX1_run 46 = .ok (.istore 4, 2) := by decide +kernel
theorem dX1_run_48 : decode cX1_run 48 = .ok (.iload 4, 2) := by decide +kernel
theorem dX1_run_50 : decode cX1_run 50 = .ok (.ldc 117, 2) := by decide +kernel
theorem dX1_run_52 : decode cX1_run 52 = .ok (.if_icmp .ge 72, 3) := by decide +kernel
theorem dX1_run_55 : decode cX1_run 55 = .ok (.iload_n 3, 1) := by decide +kernel
theorem dX1_run_56 : decode cX1_run 56 = .ok (.aload_n 2, 1) := by decide +kernel
theorem dX1_run_57 : decode cX1_run 57 = .ok (.getfield 118, 3) := by decide +kernel
theorem dX1_run_60 : decode cX1_run 60 = .ok (.if_icmp .ge 64, 3) := by decide +kernel
theorem dX1_run_63 : decode cX1_run 63 = .ok (.aload_n 2, 1) := by decide +kernel
theorem dX1_run_64 : decode cX1_run 64 = .ok (.getfield 121, 3) := by decide +kernel
theorem dX1_run_67 : decode cX1_run 67 = .ok (.iload_n 3, 1) := by decide +kernel
theorem dX1_run_68 : decode cX1_run 68 = .ok (.iaload, 1) := by decide +kernel
theorem dX1_run_69 : decode cX1_run 69 = .ok (.bipush 23, 2) := by decide +kernel
theorem dX1_run_71 : decode cX1_run 71 = .ok (.if_icmp .ne 12, 3) := by decide +kernel
theorem dX1_run_74 : decode cX1_run 74 = .ok (.aload_n 0, 1) := by decide +kernel
theorem dX1_run_75 : decode cX1_run 75 = .ok (.iload_n 3, 1) := by decide +kernel
theorem dX1_run_76 : decode cX1_run 76 = .ok (.invokevirtual 124, 3) := by decide +kernel
theorem dX1_run_79 : decode cX1_run 79 = .ok (.istore_n 3, 1) := by decide +kernel
theorem dX1_run_80 : decode cX1_run 80 = .ok (.goto 38, 3) := by decide +kernel
theorem dX1_run_83 : decode cX1_run 83 = .ok (.aload_n 0, 1) := by decide +kernel
theorem dX1_run_84 : decode cX1_run 84 = .ok (.getfield 99, 3) := by decide +kernel
theorem dX1_run_87 : decode cX1_run 87 = .ok (.sipush 200, 3) := by decide +kernel
theorem dX1_run_90 : decode cX1_run 90 = .ok (.if_icmp .ge 22, 3) := by decide +kernel
theorem dX1_run_93 : decode cX1_run 93 = .ok (.aload_n 0, 1) := by decide +kernel
theorem dX1_run_94 : decode cX1_run 94 = .ok (.dup, 1) := by decide +kernel
theorem dX1_run_95 : decode cX1_run 95 = .ok (.getfield 99, 3) := by decide +kernel
theorem dX1_run_98 : decode cX1_run 98 = .ok (.iconst 1, 1) := by decide +kernel
theorem dX1_run_99 : decode cX1_run 99 = .ok (.iadd, 1) := by decide +kernel
theorem dX1_run_100 : decode cX1_run 100 = .ok (.putfield 99, 3) := by decide +kernel
theorem dX1_run_103 : decode cX1_run 103 = .ok (.aload_n 0, 1) := by decide +kernel
theorem dX1_run_104 : decode cX1_run 104 = .ok (.iload_n 3, 1) := by decide +kernel
theorem dX1_run_105 : decode cX1_run 105 = .ok (.invokevirtual 128, 3) := by decide +kernel
theorem dX1_run_108 : decode cX1_run 108 = .ok (.istore_n 3, 1) := by decide +kernel
theorem dX1_run_109 : decode cX1_run 109 = .ok (.goto 9, 3) := by decide +kernel
theorem dX1_run_112 : decode cX1_run 112 = .ok (.aload_n 0, 1) := by decide +kernel
theorem dX1_run_113 : decode cX1_run 113 = .ok (.iconst 1, 1) := by decide +kernel
theorem dX1_run_114 : decode cX1_run 114 = .ok (.putfield 114, 3) := by decide +kernel
theorem dX1_run_117 : decode cX1_run 117 = .ok (.return_, 1) := by decide +kernel
theorem dX1_run_118 : decode cX1_run 118 = .ok (.iinc 4 1, 3) := by decide +kernel
theorem dX1_run_121 : decode cX1_run 121 = .ok (.goto (-73), 3) := by decide +kernel
theorem dX1_run_124 : decode cX1_run 124 = .ok (.return_, 1) := by decide +kernel
