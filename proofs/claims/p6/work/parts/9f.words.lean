theorem qf_X12_231 : Cond.fieldLink RX12 231 "SlowWorldsModel" "depth" "I" ∈ gw := tbt (tb6 (List.mem_of_getElem? (i := 66) rfl)) rfl
theorem qf_X12_44 : Cond.fieldLink RX12 44 "SlowWorldsModel" "opened" "[I" ∈ gw := tbt (tb6 (List.mem_of_getElem? (i := 65) rfl)) rfl
theorem qc_X12_yearOrder : Cond.code yX12_yearOrder cX12_yearOrder 3 (some .boolean) ∈ gw := tbt (tb7 (List.mem_of_getElem? (i := 78) rfl)) rfl
theorem qi_yX12_yearOrder : Cond.instanceMethod yX12_yearOrder ∈ gw := tbt (tb7 (List.mem_of_getElem? (i := 77) rfl)) rfl
theorem qs_X12_yearOrder : Cond.selects (yX12_yearOrder).cls yX12_yearOrder yX12_yearOrder ∈ gw := tb0 (List.mem_of_getElem? (i := 62) rfl) rfl
theorem ci_X12_yearOrder : CIv yX12_yearOrder cX12_yearOrder 3 (some .boolean) 2 := ⟨qc_X12_yearOrder, qi_yX12_yearOrder, qs_X12_yearOrder, qz_X12, by decide +kernel⟩
theorem qm_X12_237 : Cond.methodLink RX12 237 yX12_yearOrder ∈ gw := tbt (tb7 (List.mem_of_getElem? (i := 75) rfl)) rfl
theorem qf_X12_234 : Cond.fieldLink RX12 234 "SlowWorldsModel" "counted" "I" ∈ gw := tbt (tb6 (List.mem_of_getElem? (i := 67) rfl)) rfl
theorem dX12_yearStep_0 : decode cX12_yearStep 0 = .ok (.aload_n 0, 1) := by decide +kernel
theorem dX12_yearStep_1 : decode cX12_yearStep 1 = .ok (.ldc 175, 2) := by decide +kernel
theorem dX12_yearStep_3 : decode cX12_yearStep 3 = .ok (.invokevirtual 167, 3) := by decide +kernel
theorem dX12_yearStep_6 : decode cX12_yearStep 6 = .ok (.istore_n 1, 1) := by decide +kernel
theorem dX12_yearStep_7 : decode cX12_yearStep 7 = .ok (.aload_n 0, 1) := by decide +kernel
theorem dX12_yearStep_8 : decode cX12_yearStep 8 = .ok (.getfield 7, 3) := by decide +kernel
theorem dX12_yearStep_11 : decode cX12_yearStep 11 = .ok (.sipush 3565, 3) := by decide +kernel
theorem dX12_yearStep_14 : decode cX12_yearStep 14 = .ok (.iaload, 1) := by decide +kernel
theorem dX12_yearStep_15 : decode cX12_yearStep 15 = .ok (.istore_n 2, 1) := by decide +kernel
theorem dX12_yearStep_16 : decode cX12_yearStep 16 = .ok (.sipush 4080, 3) := by decide +kernel
theorem dX12_yearStep_19 : decode cX12_yearStep 19 = .ok (.bipush 6, 2) := by decide +kernel
theorem dX12_yearStep_21 : decode cX12_yearStep 21 = .ok (.iload_n 2, 1) := by decide +kernel
theorem dX12_yearStep_22 : decode cX12_yearStep 22 = .ok (.imul, 1) := by decide +kernel
theorem dX12_yearStep_23 : decode cX12_yearStep 23 = .ok (.iadd, 1) := by decide +kernel
theorem dX12_yearStep_24 : decode cX12_yearStep 24 = .ok (.istore_n 3, 1) := by decide +kernel
theorem dX12_yearStep_25 : decode cX12_yearStep 25 = .ok (.iload_n 1, 1) := by decide +kernel
theorem dX12_yearStep_26 : decode cX12_yearStep 26 = .ok (.bipush 19, 2) := by decide +kernel
theorem dX12_yearStep_28 : decode cX12_yearStep 28 = .ok (.if_icmp .eq 9, 3) := by decide +kernel
theorem dX12_yearStep_31 : decode cX12_yearStep 31 = .ok (.iload_n 1, 1) := by decide +kernel
theorem dX12_yearStep_32 : decode cX12_yearStep 32 = .ok (.bipush 20, 2) := by decide +kernel
theorem dX12_yearStep_34 : decode cX12_yearStep 34 = .ok (.if_icmp .ne 7, 3) := by decide +kernel
theorem dX12_yearStep_37 : decode cX12_yearStep 37 = .ok (.iconst 1, 1) := by decide +kernel
theorem dX12_yearStep_38 : decode cX12_yearStep 38 = .ok (.goto 4, 3) := by decide +kernel
theorem dX12_yearStep_41 : decode cX12_yearStep 41 = .ok (.iconst 0, 1) := by decide +kernel
theorem dX12_yearStep_42 : decode cX12_yearStep 42 = .ok (.istore 4, 2) := by decide +kernel
theorem dX12_yearStep_44 : decode cX12_yearStep 44 = .ok (.iload_n 1, 1) := by decide +kernel
theorem dX12_yearStep_45 : decode cX12_yearStep 45 = .ok (.bipush 15, 2) := by decide +kernel
theorem dX12_yearStep_47 : decode cX12_yearStep 47 = .ok (.if_icmp .lt 22, 3) := by decide +kernel
theorem dX12_yearStep_50 : decode cX12_yearStep 50 = .ok (.iload_n 1, 1) := by decide +kernel
theorem dX12_yearStep_51 : decode cX12_yearStep 51 = .ok (.bipush 22, 2) := by decide +kernel
theorem dX12_yearStep_53 : decode cX12_yearStep 53 = .ok (.if_icmp .gt 16, 3) := by decide +kernel
theorem dX12_yearStep_56 : decode cX12_yearStep 56 = .ok (.iload_n 1, 1) := by decide +kernel
theorem dX12_yearStep_57 : decode cX12_yearStep 57 = .ok (.bipush 21, 2) := by decide +kernel
theorem dX12_yearStep_59 : decode cX12_yearStep 59 = .ok (.if_icmp .ne 16, 3) := by decide +kernel
theorem dX12_yearStep_62 : decode cX12_yearStep 62 = .ok (.aload_n 0, 1) := by decide +kernel
theorem dX12_yearStep_63 : decode cX12_yearStep 63 = .ok (.getfield 231, 3) := by decide +kernel
theorem dX12_yearStep_66 : decode cX12_yearStep 66 = .ok (.ifCond .ne 9, 3) := by decide +kernel
theorem dX12_yearStep_69 : decode cX12_yearStep 69 = .ok (.aload_n 0, 1) := by decide +kernel
theorem dX12_yearStep_70 : decode cX12_yearStep 70 = .ok (.iconst 2, 1) := by decide +kernel
theorem dX12_yearStep_71 : decode cX12_yearStep 71 = .ok (.invokevirtual 164, 3) := by decide +kernel
theorem dX12_yearStep_74 : decode cX12_yearStep 74 = .ok (.ireturn, 1) := by decide +kernel
theorem dX12_yearStep_75 : decode cX12_yearStep 75 = .ok (.iload_n 1, 1) := by decide +kernel
theorem dX12_yearStep_76 : decode cX12_yearStep 76 = .ok (.bipush 21, 2) := by decide +kernel
theorem dX12_yearStep_78 : decode cX12_yearStep 78 = .ok (.if_icmp .eq 19, 3) := by decide +kernel
theorem dX12_yearStep_81 : decode cX12_yearStep 81 = .ok (.aload_n 0, 1) := by decide +kernel
theorem dX12_yearStep_82 : decode cX12_yearStep 82 = .ok (.getfield 234, 3) := by decide +kernel
theorem dX12_yearStep_85 : decode cX12_yearStep 85 = .ok (.bipush 30, 2) := by decide +kernel
theorem dX12_yearStep_87 : decode cX12_yearStep 87 = .ok (.if_icmp .ne 10, 3) := by decide +kernel
theorem dX12_yearStep_90 : decode cX12_yearStep 90 = .ok (.aload_n 0, 1) := by decide +kernel
theorem dX12_yearStep_91 : decode cX12_yearStep 91 = .ok (.bipush 6, 2) := by decide +kernel
theorem dX12_yearStep_93 : decode cX12_yearStep 93 = .ok (.invokevirtual 164, 3) := by decide +kernel
theorem dX12_yearStep_96 : decode cX12_yearStep 96 = .ok (.ireturn, 1) := by decide +kernel
theorem dX12_yearStep_97 : decode cX12_yearStep 97 = .ok (.iload 4, 2) := by decide +kernel
theorem dX12_yearStep_99 : decode cX12_yearStep 99 = .ok (.ifCond .eq 18, 3) := by decide +kernel
theorem dX12_yearStep_102 : decode cX12_yearStep 102 = .ok (.aload_n 0, 1) := by decide +kernel
theorem dX12_yearStep_103 : decode cX12_yearStep 103 = .ok (.getfield 231, 3) := by decide +kernel
theorem dX12_yearStep_106 : decode cX12_yearStep 106 = .ok (.iconst 3, 1) := by decide +kernel
theorem dX12_yearStep_107 : decode cX12_yearStep 107 = .ok (.if_icmp .ne 10, 3) := by decide +kernel
theorem dX12_yearStep_110 : decode cX12_yearStep 110 = .ok (.aload_n 0, 1) := by decide +kernel
theorem dX12_yearStep_111 : decode cX12_yearStep 111 = .ok (.bipush 7, 2) := by decide +kernel
theorem dX12_yearStep_113 : decode cX12_yearStep 113 = .ok (.invokevirtual 164, 3) := by decide +kernel
theorem dX12_yearStep_116 : decode cX12_yearStep 116 = .ok (.ireturn, 1) := by decide +kernel
theorem dX12_yearStep_117 : decode cX12_yearStep 117 = .ok (.aload_n 0, 1) := by decide +kernel
theorem dX12_yearStep_118 : decode cX12_yearStep 118 = .ok (.dup, 1) := by decide +kernel
theorem dX12_yearStep_119 : decode cX12_yearStep 119 = .ok (.getfield 234, 3) := by decide +kernel
theorem dX12_yearStep_122 : decode cX12_yearStep 122 = .ok (.iload_n 1, 1) := by decide +kernel
theorem dX12_yearStep_123 : decode cX12_yearStep 123 = .ok (.bipush 21, 2) := by decide +kernel
theorem dX12_yearStep_125 : decode cX12_yearStep 125 = .ok (.if_icmp .ne 7, 3) := by decide +kernel
theorem dX12_yearStep_128 : decode cX12_yearStep 128 = .ok (.iconst 0, 1) := by decide +kernel
theorem dX12_yearStep_129 : decode cX12_yearStep 129 = .ok (.goto 4, 3) := by decide +kernel
theorem dX12_yearStep_132 : decode cX12_yearStep 132 = .ok (.iconst 1, 1) := by decide +kernel
theorem dX12_yearStep_133 : decode cX12_yearStep 133 = .ok (.iadd, 1) := by decide +kernel
theorem dX12_yearStep_134 : decode cX12_yearStep 134 = .ok (.putfield 234, 3) := by decide +kernel
theorem dX12_yearStep_137 : decode cX12_yearStep 137 = .ok (.aload_n 0, 1) := by decide +kernel
theorem dX12_yearStep_138 : decode cX12_yearStep 138 = .ok (.getfield 7, 3) := by decide +kernel
theorem dX12_yearStep_141 : decode cX12_yearStep 141 = .ok (.iload_n 3, 1) := by decide +kernel
theorem dX12_yearStep_142 : decode cX12_yearStep 142 = .ok (.iload_n 1, 1) := by decide +kernel
theorem dX12_yearStep_143 : decode cX12_yearStep 143 = .ok (.iastore, 1) := by decide +kernel
theorem dX12_yearStep_144 : decode cX12_yearStep 144 = .ok (.iconst 1, 1) := by decide +kernel
theorem dX12_yearStep_145 : decode cX12_yearStep 145 = .ok (.istore 5, 2) := by decide +kernel
theorem dX12_yearStep_147 : decode cX12_yearStep 147 = .ok (.iload 5, 2) := by decide +kernel
theorem dX12_yearStep_149 : decode cX12_yearStep 149 = .ok (.bipush 6, 2) := by decide +kernel
theorem dX12_yearStep_151 : decode cX12_yearStep 151 = .ok (.if_icmp .ge 19, 3) := by decide +kernel
theorem dX12_yearStep_154 : decode cX12_yearStep 154 = .ok (.aload_n 0, 1) := by decide +kernel
theorem dX12_yearStep_155 : decode cX12_yearStep 155 = .ok (.getfield 7, 3) := by decide +kernel
theorem dX12_yearStep_158 : decode cX12_yearStep 158 = .ok (.iload_n 3, 1) := by decide +kernel
theorem dX12_yearStep_159 : decode cX12_yearStep 159 = .ok (.iload 5, 2) := by decide +kernel
theorem dX12_yearStep_161 : decode cX12_yearStep 161 = .ok (.iadd, 1) := by decide +kernel
theorem dX12_yearStep_162 : decode cX12_yearStep 162 = .ok (.iconst 0, 1) := by decide +kernel
theorem dX12_yearStep_163 : decode cX12_yearStep 163 = .ok (.iastore, 1) := by decide +kernel
theorem dX12_yearStep_164 : decode cX12_yearStep 164 = .ok (.iinc 5 1, 3) := by decide +kernel
theorem dX12_yearStep_167 : decode cX12_yearStep 167 = .ok (.goto (-20), 3) := by decide +kernel
theorem dX12_yearStep_170 : decode cX12_yearStep 170 = .ok (.aload_n 0, 1) := by decide +kernel
theorem dX12_yearStep_171 : decode cX12_yearStep 171 = .ok (.getfield 7, 3) := by decide +kernel
theorem dX12_yearStep_174 : decode cX12_yearStep 174 = .ok (.sipush 3565, 3) := by decide +kernel
theorem dX12_yearStep_177 : decode cX12_yearStep 177 = .ok (.dup2, 1) := by decide +kernel
theorem dX12_yearStep_178 : decode cX12_yearStep 178 = .ok (.iaload, 1) := by decide +kernel
theorem dX12_yearStep_179 : decode cX12_yearStep 179 = .ok (.iconst 1, 1) := by decide +kernel
theorem dX12_yearStep_180 : decode cX12_yearStep 180 = .ok (.iadd, 1) := by decide +kernel
theorem dX12_yearStep_181 : decode cX12_yearStep 181 = .ok (.iastore, 1) := by decide +kernel
theorem dX12_yearStep_182 : decode cX12_yearStep 182 = .ok (.aload_n 0, 1) := by decide +kernel
theorem dX12_yearStep_183 : decode cX12_yearStep 183 = .ok (.invokevirtual 158, 3) := by decide +kernel
theorem dX12_yearStep_186 : decode cX12_yearStep 186 = .ok (.aload_n 0, 1) := by decide +kernel
theorem dX12_yearStep_187 : decode cX12_yearStep 187 = .ok (.iload_n 1, 1) := by decide +kernel
theorem dX12_yearStep_188 : decode cX12_yearStep 188 = .ok (.iload_n 3, 1) := by decide +kernel
theorem dX12_yearStep_189 : decode cX12_yearStep 189 = .ok (.invokevirtual 237, 3) := by decide +kernel
theorem dX12_yearStep_192 : decode cX12_yearStep 192 = .ok (.ifCond .ne 5, 3) := by decide +kernel
theorem dX12_yearStep_195 : decode cX12_yearStep 195 = .ok (.iconst 0, 1) := by decide +kernel
theorem dX12_yearStep_196 : decode cX12_yearStep 196 = .ok (.ireturn, 1) := by decide +kernel
theorem dX12_yearStep_197 : decode cX12_yearStep 197 = .ok (.iload 4, 2) := by decide +kernel
theorem dX12_yearStep_199 : decode cX12_yearStep 199 = .ok (.ifCond .eq 23, 3) := by decide +kernel
theorem dX12_yearStep_202 : decode cX12_yearStep 202 = .ok (.aload_n 0, 1) := by decide +kernel
theorem dX12_yearStep_203 : decode cX12_yearStep 203 = .ok (.getfield 44, 3) := by decide +kernel
theorem dX12_yearStep_206 : decode cX12_yearStep 206 = .ok (.aload_n 0, 1) := by decide +kernel
theorem dX12_yearStep_207 : decode cX12_yearStep 207 = .ok (.getfield 231, 3) := by decide +kernel
theorem dX12_yearStep_210 : decode cX12_yearStep 210 = .ok (.iload_n 2, 1) := by decide +kernel
theorem dX12_yearStep_211 : decode cX12_yearStep 211 = .ok (.iastore, 1) := by decide +kernel
theorem dX12_yearStep_212 : decode cX12_yearStep 212 = .ok (.aload_n 0, 1) := by decide +kernel
theorem dX12_yearStep_213 : decode cX12_yearStep 213 = .ok (.dup, 1) := by decide +kernel
theorem dX12_yearStep_214 : decode cX12_yearStep 214 = .ok (.getfield 231, 3) := by decide +kernel
theorem dX12_yearStep_217 : decode cX12_yearStep 217 = .ok (.iconst 1, 1) := by decide +kernel
theorem dX12_yearStep_218 : decode cX12_yearStep 218 = .ok (.iadd, 1) := by decide +kernel
theorem dX12_yearStep_219 : decode cX12_yearStep 219 = .ok (.putfield 231, 3) := by decide +kernel
theorem dX12_yearStep_222 : decode cX12_yearStep 222 = .ok (.iload_n 1, 1) := by decide +kernel
theorem dX12_yearStep_223 : decode cX12_yearStep 223 = .ok (.bipush 21, 2) := by decide +kernel
theorem dX12_yearStep_225 : decode cX12_yearStep 225 = .ok (.if_icmp .ne 54, 3) := by decide +kernel
theorem dX12_yearStep_228 : decode cX12_yearStep 228 = .ok (.aload_n 0, 1) := by decide +kernel
theorem dX12_yearStep_229 : decode cX12_yearStep 229 = .ok (.dup, 1) := by decide +kernel
theorem dX12_yearStep_230 : decode cX12_yearStep 230 = .ok (.getfield 231, 3) := by decide +kernel
theorem dX12_yearStep_233 : decode cX12_yearStep 233 = .ok (.iconst 1, 1) := by decide +kernel
theorem dX12_yearStep_234 : decode cX12_yearStep 234 = .ok (.isub, 1) := by decide +kernel
theorem dX12_yearStep_235 : decode cX12_yearStep 235 = .ok (.putfield 231, 3) := by decide +kernel
theorem dX12_yearStep_238 : decode cX12_yearStep 238 = .ok (.aload_n 0, 1) := by decide +kernel
theorem dX12_yearStep_239 : decode cX12_yearStep 239 = .ok (.getfield 7, 3) := by decide +kernel
theorem dX12_yearStep_242 : decode cX12_yearStep 242 = .ok (.iload_n 3, 1) := by decide +kernel
theorem dX12_yearStep_243 : decode cX12_yearStep 243 = .ok (.iconst 4, 1) := by decide +kernel
theorem dX12_yearStep_244 : decode cX12_yearStep 244 = .ok (.iadd, 1) := by decide +kernel
theorem dX12_yearStep_245 : decode cX12_yearStep 245 = .ok (.aload_n 0, 1) := by decide +kernel
theorem dX12_yearStep_246 : decode cX12_yearStep 246 = .ok (.getfield 44, 3) := by decide +kernel
theorem dX12_yearStep_249 : decode cX12_yearStep 249 = .ok (.aload_n 0, 1) := by decide +kernel
theorem dX12_yearStep_250 : decode cX12_yearStep 250 = .ok (.getfield 231, 3) := by decide +kernel
theorem dX12_yearStep_253 : decode cX12_yearStep 253 = .ok (.iaload, 1) := by decide +kernel
theorem dX12_yearStep_254 : decode cX12_yearStep 254 = .ok (.iastore, 1) := by decide +kernel
theorem dX12_yearStep_255 : decode cX12_yearStep 255 = .ok (.aload_n 0, 1) := by decide +kernel
theorem dX12_yearStep_256 : decode cX12_yearStep 256 = .ok (.getfield 7, 3) := by decide +kernel
theorem dX12_yearStep_259 : decode cX12_yearStep 259 = .ok (.sipush 4080, 3) := by decide +kernel
theorem dX12_yearStep_262 : decode cX12_yearStep 262 = .ok (.bipush 6, 2) := by decide +kernel
theorem dX12_yearStep_264 : decode cX12_yearStep 264 = .ok (.aload_n 0, 1) := by decide +kernel
theorem dX12_yearStep_265 : decode cX12_yearStep 265 = .ok (.getfield 44, 3) := by decide +kernel
theorem dX12_yearStep_268 : decode cX12_yearStep 268 = .ok (.aload_n 0, 1) := by decide +kernel
theorem dX12_yearStep_269 : decode cX12_yearStep 269 = .ok (.getfield 231, 3) := by decide +kernel
theorem dX12_yearStep_272 : decode cX12_yearStep 272 = .ok (.iaload, 1) := by decide +kernel
theorem dX12_yearStep_273 : decode cX12_yearStep 273 = .ok (.imul, 1) := by decide +kernel
theorem dX12_yearStep_274 : decode cX12_yearStep 274 = .ok (.iadd, 1) := by decide +kernel
theorem dX12_yearStep_275 : decode cX12_yearStep 275 = .ok (.iconst 4, 1) := by decide +kernel
theorem dX12_yearStep_276 : decode cX12_yearStep 276 = .ok (.iadd, 1) := by decide +kernel
theorem dX12_yearStep_277 : decode cX12_yearStep 277 = .ok (.iload_n 2, 1) := by decide +kernel
theorem dX12_yearStep_278 : decode cX12_yearStep 278 = .ok (.iastore, 1) := by decide +kernel
theorem dX12_yearStep_279 : decode cX12_yearStep 279 = .ok (.aload_n 0, 1) := by decide +kernel
theorem dX12_yearStep_280 : decode cX12_yearStep 280 = .ok (.bipush 59, 2) := by decide +kernel
theorem dX12_yearStep_282 : decode cX12_yearStep 282 = .ok (.invokevirtual 212, 3) := by decide +kernel
theorem dX12_yearStep_285 : decode cX12_yearStep 285 = .ok (.ireturn, 1) := by decide +kernel
