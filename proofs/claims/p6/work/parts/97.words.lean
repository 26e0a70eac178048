theorem qc_X12_isThere : Cond.code yX12_isThere cX12_isThere 2 (some .boolean) ∈ gw := tbt (tb7 (List.mem_of_getElem? (i := 38) rfl)) rfl
theorem qi_yX12_isThere : Cond.instanceMethod yX12_isThere ∈ gw := tbt (tb7 (List.mem_of_getElem? (i := 37) rfl)) rfl
theorem qs_X12_isThere : Cond.selects (yX12_isThere).cls yX12_isThere yX12_isThere ∈ gw := tb0 (List.mem_of_getElem? (i := 53) rfl) rfl
theorem ci_X12_isThere : CIv yX12_isThere cX12_isThere 2 (some .boolean) 1 := ⟨qc_X12_isThere, qi_yX12_isThere, qs_X12_isThere, qz_X12, by decide +kernel⟩
theorem qm_X12_192 : Cond.methodLink RX12 192 yX12_isThere ∈ gw := tbt (tb7 (List.mem_of_getElem? (i := 35) rfl)) rfl
theorem qc_X12_number : Cond.code yX12_number cX12_number 4 (some .boolean) ∈ gw := tbt (tb7 (List.mem_of_getElem? (i := 34) rfl)) rfl
theorem qi_yX12_number : Cond.instanceMethod yX12_number ∈ gw := tbt (tb7 (List.mem_of_getElem? (i := 33) rfl)) rfl
theorem qs_X12_number : Cond.selects (yX12_number).cls yX12_number yX12_number ∈ gw := tb0 (List.mem_of_getElem? (i := 52) rfl) rfl
theorem ci_X12_number : CIv yX12_number cX12_number 4 (some .boolean) 3 := ⟨qc_X12_number, qi_yX12_number, qs_X12_number, qz_X12, by decide +kernel⟩
theorem qm_X12_188 : Cond.methodLink RX12 188 yX12_number ∈ gw := tbt (tb7 (List.mem_of_getElem? (i := 31) rfl)) rfl
theorem qc_X12_wantWord : Cond.code yX12_wantWord cX12_wantWord 3 (some .boolean) ∈ gw := tbt (tb7 (List.mem_of_getElem? (i := 30) rfl)) rfl
theorem qi_yX12_wantWord : Cond.instanceMethod yX12_wantWord ∈ gw := tbt (tb7 (List.mem_of_getElem? (i := 29) rfl)) rfl
theorem qs_X12_wantWord : Cond.selects (yX12_wantWord).cls yX12_wantWord yX12_wantWord ∈ gw := tb0 (List.mem_of_getElem? (i := 51) rfl) rfl
theorem ci_X12_wantWord : CIv yX12_wantWord cX12_wantWord 3 (some .boolean) 2 := ⟨qc_X12_wantWord, qi_yX12_wantWord, qs_X12_wantWord, qz_X12, by decide +kernel⟩
theorem qm_X12_184 : Cond.methodLink RX12 184 yX12_wantWord ∈ gw := tbt (tb7 (List.mem_of_getElem? (i := 27) rfl)) rfl
theorem dX12_aRock_0 : decode cX12_aRock 0 = .ok (.aload_n 0, 1) := by decide +kernel
theorem dX12_aRock_1 : decode cX12_aRock 1 = .ok (.getfield 7, 3) := by decide +kernel
theorem dX12_aRock_4 : decode cX12_aRock 4 = .ok (.sipush 3560, 3) := by decide +kernel
theorem dX12_aRock_7 : decode cX12_aRock 7 = .ok (.iaload, 1) := by decide +kernel
theorem dX12_aRock_8 : decode cX12_aRock 8 = .ok (.istore_n 1, 1) := by decide +kernel
theorem dX12_aRock_9 : decode cX12_aRock 9 = .ok (.sipush 3570, 3) := by decide +kernel
theorem dX12_aRock_12 : decode cX12_aRock 12 = .ok (.bipush 6, 2) := by decide +kernel
theorem dX12_aRock_14 : decode cX12_aRock 14 = .ok (.iload_n 1, 1) := by decide +kernel
theorem dX12_aRock_15 : decode cX12_aRock 15 = .ok (.imul, 1) := by decide +kernel
theorem dX12_aRock_16 : decode cX12_aRock 16 = .ok (.iadd, 1) := by decide +kernel
theorem dX12_aRock_17 : decode cX12_aRock 17 = .ok (.istore_n 2, 1) := by decide +kernel
theorem dX12_aRock_18 : decode cX12_aRock 18 = .ok (.iload_n 1, 1) := by decide +kernel
theorem dX12_aRock_19 : decode cX12_aRock 19 = .ok (.bipush 6, 2) := by decide +kernel
theorem dX12_aRock_21 : decode cX12_aRock 21 = .ok (.if_icmp .ne 10, 3) := by decide +kernel
theorem dX12_aRock_24 : decode cX12_aRock 24 = .ok (.aload_n 0, 1) := by decide +kernel
theorem dX12_aRock_25 : decode cX12_aRock 25 = .ok (.bipush 6, 2) := by decide +kernel
theorem dX12_aRock_27 : decode cX12_aRock 27 = .ok (.invokevirtual 164, 3) := by decide +kernel
theorem dX12_aRock_30 : decode cX12_aRock 30 = .ok (.ireturn, 1) := by decide +kernel
theorem dX12_aRock_31 : decode cX12_aRock 31 = .ok (.aload_n 0, 1) := by decide +kernel
theorem dX12_aRock_32 : decode cX12_aRock 32 = .ok (.invokevirtual 158, 3) := by decide +kernel
theorem dX12_aRock_35 : decode cX12_aRock 35 = .ok (.aload_n 0, 1) := by decide +kernel
theorem dX12_aRock_36 : decode cX12_aRock 36 = .ok (.ldc 175, 2) := by decide +kernel
theorem dX12_aRock_38 : decode cX12_aRock 38 = .ok (.invokevirtual 177, 3) := by decide +kernel
theorem dX12_aRock_41 : decode cX12_aRock 41 = .ok (.ifCond .ne 9, 3) := by decide +kernel
theorem dX12_aRock_44 : decode cX12_aRock 44 = .ok (.aload_n 0, 1) := by decide +kernel
theorem dX12_aRock_45 : decode cX12_aRock 45 = .ok (.iconst 2, 1) := by decide +kernel
theorem dX12_aRock_46 : decode cX12_aRock 46 = .ok (.invokevirtual 164, 3) := by decide +kernel
theorem dX12_aRock_49 : decode cX12_aRock 49 = .ok (.ireturn, 1) := by decide +kernel
theorem dX12_aRock_50 : decode cX12_aRock 50 = .ok (.aload_n 0, 1) := by decide +kernel
theorem dX12_aRock_51 : decode cX12_aRock 51 = .ok (.bipush 24, 2) := by decide +kernel
theorem dX12_aRock_53 : decode cX12_aRock 53 = .ok (.iload_n 1, 1) := by decide +kernel
theorem dX12_aRock_54 : decode cX12_aRock 54 = .ok (.invokevirtual 181, 3) := by decide +kernel
theorem dX12_aRock_57 : decode cX12_aRock 57 = .ok (.iconst (-1), 1) := by decide +kernel
theorem dX12_aRock_58 : decode cX12_aRock 58 = .ok (.if_icmp .eq 9, 3) := by decide +kernel
theorem dX12_aRock_61 : decode cX12_aRock 61 = .ok (.aload_n 0, 1) := by decide +kernel
theorem dX12_aRock_62 : decode cX12_aRock 62 = .ok (.iconst 3, 1) := by decide +kernel
theorem dX12_aRock_63 : decode cX12_aRock 63 = .ok (.invokevirtual 164, 3) := by decide +kernel
theorem dX12_aRock_66 : decode cX12_aRock 66 = .ok (.ireturn, 1) := by decide +kernel
theorem dX12_aRock_67 : decode cX12_aRock 67 = .ok (.aload_n 0, 1) := by decide +kernel
theorem dX12_aRock_68 : decode cX12_aRock 68 = .ok (.getfield 13, 3) := by decide +kernel
theorem dX12_aRock_71 : decode cX12_aRock 71 = .ok (.bipush 24, 2) := by decide +kernel
theorem dX12_aRock_73 : decode cX12_aRock 73 = .ok (.iload_n 1, 1) := by decide +kernel
theorem dX12_aRock_74 : decode cX12_aRock 74 = .ok (.iadd, 1) := by decide +kernel
theorem dX12_aRock_75 : decode cX12_aRock 75 = .ok (.aload_n 0, 1) := by decide +kernel
theorem dX12_aRock_76 : decode cX12_aRock 76 = .ok (.invokevirtual 171, 3) := by decide +kernel
theorem dX12_aRock_79 : decode cX12_aRock 79 = .ok (.lastore, 1) := by decide +kernel
theorem dX12_aRock_80 : decode cX12_aRock 80 = .ok (.aload_n 0, 1) := by decide +kernel
theorem dX12_aRock_81 : decode cX12_aRock 81 = .ok (.invokevirtual 158, 3) := by decide +kernel
theorem dX12_aRock_84 : decode cX12_aRock 84 = .ok (.aload_n 0, 1) := by decide +kernel
theorem dX12_aRock_85 : decode cX12_aRock 85 = .ok (.ldc 175, 2) := by decide +kernel
theorem dX12_aRock_87 : decode cX12_aRock 87 = .ok (.iconst 3, 1) := by decide +kernel
theorem dX12_aRock_88 : decode cX12_aRock 88 = .ok (.invokevirtual 184, 3) := by decide +kernel
theorem dX12_aRock_91 : decode cX12_aRock 91 = .ok (.ifCond .eq 60, 3) := by decide +kernel
theorem dX12_aRock_94 : decode cX12_aRock 94 = .ok (.aload_n 0, 1) := by decide +kernel
theorem dX12_aRock_95 : decode cX12_aRock 95 = .ok (.iload_n 2, 1) := by decide +kernel
theorem dX12_aRock_96 : decode cX12_aRock 96 = .ok (.iconst 0, 1) := by decide +kernel
theorem dX12_aRock_97 : decode cX12_aRock 97 = .ok (.bipush 20, 2) := by decide +kernel
theorem dX12_aRock_99 : decode cX12_aRock 99 = .ok (.invokevirtual 188, 3) := by decide +kernel
theorem dX12_aRock_102 : decode cX12_aRock 102 = .ok (.ifCond .eq 49, 3) := by decide +kernel
theorem dX12_aRock_105 : decode cX12_aRock 105 = .ok (.aload_n 0, 1) := by decide +kernel
theorem dX12_aRock_106 : decode cX12_aRock 106 = .ok (.ldc 175, 2) := by decide +kernel
theorem dX12_aRock_108 : decode cX12_aRock 108 = .ok (.iconst 4, 1) := by decide +kernel
theorem dX12_aRock_109 : decode cX12_aRock 109 = .ok (.invokevirtual 184, 3) := by decide +kernel
theorem dX12_aRock_112 : decode cX12_aRock 112 = .ok (.ifCond .eq 39, 3) := by decide +kernel
theorem dX12_aRock_115 : decode cX12_aRock 115 = .ok (.aload_n 0, 1) := by decide +kernel
theorem dX12_aRock_116 : decode cX12_aRock 116 = .ok (.iload_n 2, 1) := by decide +kernel
theorem dX12_aRock_117 : decode cX12_aRock 117 = .ok (.iconst 1, 1) := by decide +kernel
theorem dX12_aRock_118 : decode cX12_aRock 118 = .ok (.iadd, 1) := by decide +kernel
theorem dX12_aRock_119 : decode cX12_aRock 119 = .ok (.iconst 1, 1) := by decide +kernel
theorem dX12_aRock_120 : decode cX12_aRock 120 = .ok (.bipush 99, 2) := by decide +kernel
theorem dX12_aRock_122 : decode cX12_aRock 122 = .ok (.invokevirtual 188, 3) := by decide +kernel
theorem dX12_aRock_125 : decode cX12_aRock 125 = .ok (.ifCond .eq 26, 3) := by decide +kernel
theorem dX12_aRock_128 : decode cX12_aRock 128 = .ok (.aload_n 0, 1) := by decide +kernel
theorem dX12_aRock_129 : decode cX12_aRock 129 = .ok (.ldc 175, 2) := by decide +kernel
theorem dX12_aRock_131 : decode cX12_aRock 131 = .ok (.iconst 5, 1) := by decide +kernel
theorem dX12_aRock_132 : decode cX12_aRock 132 = .ok (.invokevirtual 184, 3) := by decide +kernel
theorem dX12_aRock_135 : decode cX12_aRock 135 = .ok (.ifCond .eq 16, 3) := by decide +kernel
theorem dX12_aRock_138 : decode cX12_aRock 138 = .ok (.aload_n 0, 1) := by decide +kernel
theorem dX12_aRock_139 : decode cX12_aRock 139 = .ok (.iload_n 2, 1) := by decide +kernel
theorem dX12_aRock_140 : decode cX12_aRock 140 = .ok (.iconst 2, 1) := by decide +kernel
theorem dX12_aRock_141 : decode cX12_aRock 141 = .ok (.iadd, 1) := by decide +kernel
theorem dX12_aRock_142 : decode cX12_aRock 142 = .ok (.iconst 0, 1) := by decide +kernel
theorem dX12_aRock_143 : decode cX12_aRock 143 = .ok (.bipush 11, 2) := by decide +kernel
theorem dX12_aRock_145 : decode cX12_aRock 145 = .ok (.invokevirtual 188, 3) := by decide +kernel
theorem dX12_aRock_148 : decode cX12_aRock 148 = .ok (.ifCond .ne 5, 3) := by decide +kernel
theorem dX12_aRock_151 : decode cX12_aRock 151 = .ok (.iconst 0, 1) := by decide +kernel
theorem dX12_aRock_152 : decode cX12_aRock 152 = .ok (.ireturn, 1) := by decide +kernel
theorem dX12_aRock_153 : decode cX12_aRock 153 = .ok (.aload_n 0, 1) := by decide +kernel
theorem dX12_aRock_154 : decode cX12_aRock 154 = .ok (.bipush 6, 2) := by decide +kernel
theorem dX12_aRock_156 : decode cX12_aRock 156 = .ok (.invokevirtual 192, 3) := by decide +kernel
theorem dX12_aRock_159 : decode cX12_aRock 159 = .ok (.ifCond .eq 18, 3) := by decide +kernel
theorem dX12_aRock_162 : decode cX12_aRock 162 = .ok (.aload_n 0, 1) := by decide +kernel
theorem dX12_aRock_163 : decode cX12_aRock 163 = .ok (.iload_n 2, 1) := by decide +kernel
theorem dX12_aRock_164 : decode cX12_aRock 164 = .ok (.iconst 3, 1) := by decide +kernel
theorem dX12_aRock_165 : decode cX12_aRock 165 = .ok (.iadd, 1) := by decide +kernel
theorem dX12_aRock_166 : decode cX12_aRock 166 = .ok (.iconst 0, 1) := by decide +kernel
theorem dX12_aRock_167 : decode cX12_aRock 167 = .ok (.bipush 9, 2) := by decide +kernel
theorem dX12_aRock_169 : decode cX12_aRock 169 = .ok (.invokevirtual 188, 3) := by decide +kernel
theorem dX12_aRock_172 : decode cX12_aRock 172 = .ok (.ifCond .ne 5, 3) := by decide +kernel
theorem dX12_aRock_175 : decode cX12_aRock 175 = .ok (.iconst 0, 1) := by decide +kernel
theorem dX12_aRock_176 : decode cX12_aRock 176 = .ok (.ireturn, 1) := by decide +kernel
theorem dX12_aRock_177 : decode cX12_aRock 177 = .ok (.aload_n 0, 1) := by decide +kernel
theorem dX12_aRock_178 : decode cX12_aRock 178 = .ok (.bipush 7, 2) := by decide +kernel
theorem dX12_aRock_180 : decode cX12_aRock 180 = .ok (.invokevirtual 192, 3) := by decide +kernel
theorem dX12_aRock_183 : decode cX12_aRock 183 = .ok (.ifCond .eq 42, 3) := by decide +kernel
theorem dX12_aRock_186 : decode cX12_aRock 186 = .ok (.aload_n 0, 1) := by decide +kernel
theorem dX12_aRock_187 : decode cX12_aRock 187 = .ok (.iload_n 2, 1) := by decide +kernel
theorem dX12_aRock_188 : decode cX12_aRock 188 = .ok (.iconst 4, 1) := by decide +kernel
theorem dX12_aRock_189 : decode cX12_aRock 189 = .ok (.iadd, 1) := by decide +kernel
theorem dX12_aRock_190 : decode cX12_aRock 190 = .ok (.iconst 0, 1) := by decide +kernel
theorem dX12_aRock_191 : decode cX12_aRock 191 = .ok (.bipush 99, 2) := by decide +kernel
theorem dX12_aRock_193 : decode cX12_aRock 193 = .ok (.invokevirtual 188, 3) := by decide +kernel
theorem dX12_aRock_196 : decode cX12_aRock 196 = .ok (.ifCond .ne 5, 3) := by decide +kernel
theorem dX12_aRock_199 : decode cX12_aRock 199 = .ok (.iconst 0, 1) := by decide +kernel
theorem dX12_aRock_200 : decode cX12_aRock 200 = .ok (.ireturn, 1) := by decide +kernel
theorem dX12_aRock_201 : decode cX12_aRock 201 = .ok (.aload_n 0, 1) := by decide +kernel
theorem dX12_aRock_202 : decode cX12_aRock 202 = .ok (.bipush 8, 2) := by decide +kernel
theorem dX12_aRock_204 : decode cX12_aRock 204 = .ok (.invokevirtual 192, 3) := by decide +kernel
theorem dX12_aRock_207 : decode cX12_aRock 207 = .ok (.ifCond .eq 18, 3) := by decide +kernel
theorem dX12_aRock_210 : decode cX12_aRock 210 = .ok (.aload_n 0, 1) := by decide +kernel
theorem dX12_aRock_211 : decode cX12_aRock 211 = .ok (.iload_n 2, 1) := by decide +kernel
theorem dX12_aRock_212 : decode cX12_aRock 212 = .ok (.iconst 5, 1) := by decide +kernel
theorem dX12_aRock_213 : decode cX12_aRock 213 = .ok (.iadd, 1) := by decide +kernel
theorem dX12_aRock_214 : decode cX12_aRock 214 = .ok (.iconst 0, 1) := by decide +kernel
theorem dX12_aRock_215 : decode cX12_aRock 215 = .ok (.bipush 20, 2) := by decide +kernel
theorem dX12_aRock_217 : decode cX12_aRock 217 = .ok (.invokevirtual 188, 3) := by decide +kernel
theorem dX12_aRock_220 : decode cX12_aRock 220 = .ok (.ifCond .ne 5, 3) := by decide +kernel
theorem dX12_aRock_223 : decode cX12_aRock 223 = .ok (.iconst 0, 1) := by decide +kernel
theorem dX12_aRock_224 : decode cX12_aRock 224 = .ok (.ireturn, 1) := by decide +kernel
theorem dX12_aRock_225 : decode cX12_aRock 225 = .ok (.aload_n 0, 1) := by decide +kernel
theorem dX12_aRock_226 : decode cX12_aRock 226 = .ok (.bipush 9, 2) := by decide +kernel
theorem dX12_aRock_228 : decode cX12_aRock 228 = .ok (.invokevirtual 192, 3) := by decide +kernel
theorem dX12_aRock_231 : decode cX12_aRock 231 = .ok (.ifCond .eq 17, 3) := by decide +kernel
theorem dX12_aRock_234 : decode cX12_aRock 234 = .ok (.aload_n 0, 1) := by decide +kernel
theorem dX12_aRock_235 : decode cX12_aRock 235 = .ok (.getfield 7, 3) := by decide +kernel
theorem dX12_aRock_238 : decode cX12_aRock 238 = .ok (.sipush 3678, 3) := by decide +kernel
theorem dX12_aRock_241 : decode cX12_aRock 241 = .ok (.dup2, 1) := by decide +kernel
theorem dX12_aRock_242 : decode cX12_aRock 242 = .ok (.iaload, 1) := by decide +kernel
theorem dX12_aRock_243 : decode cX12_aRock 243 = .ok (.iconst 1, 1) := by decide +kernel
theorem dX12_aRock_244 : decode cX12_aRock 244 = .ok (.iload_n 1, 1) := by decide +kernel
theorem dX12_aRock_245 : decode cX12_aRock 245 = .ok (.ishl, 1) := by decide +kernel
theorem dX12_aRock_246 : decode cX12_aRock 246 = .ok (.ior, 1) := by decide +kernel
theorem dX12_aRock_247 : decode cX12_aRock 247 = .ok (.iastore, 1) := by decide +kernel
theorem dX12_aRock_248 : decode cX12_aRock 248 = .ok (.aload_n 0, 1) := by decide +kernel
theorem dX12_aRock_249 : decode cX12_aRock 249 = .ok (.getfield 7, 3) := by decide +kernel
theorem dX12_aRock_252 : decode cX12_aRock 252 = .ok (.sipush 3560, 3) := by decide +kernel
theorem dX12_aRock_255 : decode cX12_aRock 255 = .ok (.dup2, 1) := by decide +kernel
theorem dX12_aRock_256 : decode cX12_aRock 256 = .ok (.iaload, 1) := by decide +kernel
theorem dX12_aRock_257 : decode cX12_aRock 257 = .ok (.iconst 1, 1) := by decide +kernel
theorem dX12_aRock_258 : decode cX12_aRock 258 = .ok (.iadd, 1) := by decide +kernel
theorem dX12_aRock_259 : decode cX12_aRock 259 = .ok (.iastore, 1) := by decide +kernel
theorem dX12_aRock_260 : decode cX12_aRock 260 = .ok (.iconst 1, 1) := by decide +kernel
theorem dX12_aRock_261 : decode cX12_aRock 261 = .ok (.ireturn, 1) := by decide +kernel
