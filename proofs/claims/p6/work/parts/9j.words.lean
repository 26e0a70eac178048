theorem qc_X12_four : Cond.code yX12_four cX12_four 3 none ∈ gw := tbt (tb6 (List.mem_of_getElem? (i := 203) rfl)) rfl
theorem qi_yX12_four : Cond.instanceMethod yX12_four ∈ gw := tbt (tb6 (List.mem_of_getElem? (i := 202) rfl)) rfl
theorem qs_X12_four : Cond.selects (yX12_four).cls yX12_four yX12_four ∈ gw := tb0 (List.mem_of_getElem? (i := 39) rfl) rfl
theorem ci_X12_four : CIv yX12_four cX12_four 3 none 1 := ⟨qc_X12_four, qi_yX12_four, qs_X12_four, qz_X12, by decide +kernel⟩
theorem qm_X12_109 : Cond.methodLink RX12 109 yX12_four ∈ gw := tbt (tb6 (List.mem_of_getElem? (i := 200) rfl)) rfl
theorem qf_X12_21 : Cond.fieldLink RX12 21 "SlowWorldsModel" "sort" "[I" ∈ gw := tbt (tb6 (List.mem_of_getElem? (i := 49) rfl)) rfl
theorem qc_X12_wrongPlace : Cond.code yX12_wrongPlace cX12_wrongPlace 3 (some .int) ∈ gw := tbt (tb6 (List.mem_of_getElem? (i := 183) rfl)) rfl
theorem qi_yX12_wrongPlace : Cond.instanceMethod yX12_wrongPlace ∈ gw := tbt (tb6 (List.mem_of_getElem? (i := 182) rfl)) rfl
theorem qs_X12_wrongPlace : Cond.selects (yX12_wrongPlace).cls yX12_wrongPlace yX12_wrongPlace ∈ gw := tb0 (List.mem_of_getElem? (i := 38) rfl) rfl
theorem ci_X12_wrongPlace : CIv yX12_wrongPlace cX12_wrongPlace 3 (some .int) 2 := ⟨qc_X12_wrongPlace, qi_yX12_wrongPlace, qs_X12_wrongPlace, qz_X12, by decide +kernel⟩
theorem qm_X12_96 : Cond.methodLink RX12 96 yX12_wrongPlace ∈ gw := tbt (tb6 (List.mem_of_getElem? (i := 180) rfl)) rfl
theorem qc_X12_cut : Cond.code yX12_cut cX12_cut 3 (some .long) ∈ gw := tbt (tb6 (List.mem_of_getElem? (i := 186) rfl)) rfl
theorem qt_yX12_cut : Cond.static yX12_cut ∈ gw := tbt (tb6 (List.mem_of_getElem? (i := 185) rfl)) rfl
theorem ci_X12_cut : CIs yX12_cut cX12_cut 3 (some .long) 2 := ⟨qc_X12_cut, qt_yX12_cut, qz_X12, by decide +kernel⟩
theorem qm_X12_100 : Cond.methodLink RX12 100 yX12_cut ∈ gw := tbt (tb6 (List.mem_of_getElem? (i := 184) rfl)) rfl
theorem qk_X12_104 : Cond.constantLong RX12 104 (-1) ∈ gw := tbt (tb6 (List.mem_of_getElem? (i := 191) rfl)) rfl
theorem qk_X12_351 : Cond.constantLong RX12 351 (460) ∈ gw := tbt (tb8 (List.mem_of_getElem? (i := 150) rfl)) rfl
theorem qf_X12_59 : Cond.fieldLink RX12 59 "SlowWorldsModel" "costs" "[I" ∈ gw := tbt (tb6 (List.mem_of_getElem? (i := 72) rfl)) rfl
theorem dX12_cheap_0 : decode cX12_cheap 0 = .ok (.aload_n 0, 1) := by decide +kernel
theorem dX12_cheap_1 : decode cX12_cheap 1 = .ok (.iload_n 1, 1) := by decide +kernel
theorem dX12_cheap_2 : decode cX12_cheap 2 = .ok (.iload_n 2, 1) := by decide +kernel
theorem dX12_cheap_3 : decode cX12_cheap 3 = .ok (.iload_n 3, 1) := by decide +kernel
theorem dX12_cheap_4 : decode cX12_cheap 4 = .ok (.invokevirtual 277, 3) := by decide +kernel
theorem dX12_cheap_7 : decode cX12_cheap 7 = .ok (.ifCond .eq 16, 3) := by decide +kernel
theorem dX12_cheap_10 : decode cX12_cheap 10 = .ok (.iload 4, 2) := by decide +kernel
theorem dX12_cheap_12 : decode cX12_cheap 12 = .ok (.i2l, 1) := by decide +kernel
theorem dX12_cheap_13 : decode cX12_cheap 13 = .ok (.lconst 0, 1) := by decide +kernel
theorem dX12_cheap_14 : decode cX12_cheap 14 = .ok (.ldc2_w 351, 3) := by decide +kernel
theorem dX12_cheap_17 : decode cX12_cheap 17 = .ok (.invokestatic 295, 3) := by decide +kernel
theorem dX12_cheap_20 : decode cX12_cheap 20 = .ok (.ifCond .ne 9, 3) := by decide +kernel
theorem dX12_cheap_23 : decode cX12_cheap 23 = .ok (.aload_n 0, 1) := by decide +kernel
theorem dX12_cheap_24 : decode cX12_cheap 24 = .ok (.iconst 1, 1) := by decide +kernel
theorem dX12_cheap_25 : decode cX12_cheap 25 = .ok (.invokevirtual 81, 3) := by decide +kernel
theorem dX12_cheap_28 : decode cX12_cheap 28 = .ok (.ireturn, 1) := by decide +kernel
theorem dX12_cheap_29 : decode cX12_cheap 29 = .ok (.iconst 0, 1) := by decide +kernel
theorem dX12_cheap_30 : decode cX12_cheap 30 = .ok (.istore 5, 2) := by decide +kernel
theorem dX12_cheap_32 : decode cX12_cheap 32 = .ok (.iload 5, 2) := by decide +kernel
theorem dX12_cheap_34 : decode cX12_cheap 34 = .ok (.sipush 2766, 3) := by decide +kernel
theorem dX12_cheap_37 : decode cX12_cheap 37 = .ok (.if_icmp .ge 18, 3) := by decide +kernel
theorem dX12_cheap_40 : decode cX12_cheap 40 = .ok (.aload_n 0, 1) := by decide +kernel
theorem dX12_cheap_41 : decode cX12_cheap 41 = .ok (.getfield 59, 3) := by decide +kernel
theorem dX12_cheap_44 : decode cX12_cheap 44 = .ok (.iload 5, 2) := by decide +kernel
theorem dX12_cheap_46 : decode cX12_cheap 46 = .ok (.ldc 88, 2) := by decide +kernel
theorem dX12_cheap_48 : decode cX12_cheap 48 = .ok (.iastore, 1) := by decide +kernel
theorem dX12_cheap_49 : decode cX12_cheap 49 = .ok (.iinc 5 1, 3) := by decide +kernel
theorem dX12_cheap_52 : decode cX12_cheap 52 = .ok (.goto (-20), 3) := by decide +kernel
theorem dX12_cheap_55 : decode cX12_cheap 55 = .ok (.aload_n 0, 1) := by decide +kernel
theorem dX12_cheap_56 : decode cX12_cheap 56 = .ok (.getfield 59, 3) := by decide +kernel
theorem dX12_cheap_59 : decode cX12_cheap 59 = .ok (.bipush 6, 2) := by decide +kernel
theorem dX12_cheap_61 : decode cX12_cheap 61 = .ok (.iload_n 2, 1) := by decide +kernel
theorem dX12_cheap_62 : decode cX12_cheap 62 = .ok (.imul, 1) := by decide +kernel
theorem dX12_cheap_63 : decode cX12_cheap 63 = .ok (.iload_n 1, 1) := by decide +kernel
theorem dX12_cheap_64 : decode cX12_cheap 64 = .ok (.iadd, 1) := by decide +kernel
theorem dX12_cheap_65 : decode cX12_cheap 65 = .ok (.iconst 0, 1) := by decide +kernel
theorem dX12_cheap_66 : decode cX12_cheap 66 = .ok (.iastore, 1) := by decide +kernel
theorem dX12_cheap_67 : decode cX12_cheap 67 = .ok (.ldc 88, 2) := by decide +kernel
theorem dX12_cheap_69 : decode cX12_cheap 69 = .ok (.istore 5, 2) := by decide +kernel
theorem dX12_cheap_71 : decode cX12_cheap 71 = .ok (.iload_n 2, 1) := by decide +kernel
theorem dX12_cheap_72 : decode cX12_cheap 72 = .ok (.istore 6, 2) := by decide +kernel
theorem dX12_cheap_74 : decode cX12_cheap 74 = .ok (.iload 6, 2) := by decide +kernel
theorem dX12_cheap_76 : decode cX12_cheap 76 = .ok (.iload 4, 2) := by decide +kernel
theorem dX12_cheap_78 : decode cX12_cheap 78 = .ok (.if_icmp .gt 175, 3) := by decide +kernel
theorem dX12_cheap_81 : decode cX12_cheap 81 = .ok (.iload 5, 2) := by decide +kernel
theorem dX12_cheap_83 : decode cX12_cheap 83 = .ok (.aload_n 0, 1) := by decide +kernel
theorem dX12_cheap_84 : decode cX12_cheap 84 = .ok (.getfield 59, 3) := by decide +kernel
theorem dX12_cheap_87 : decode cX12_cheap 87 = .ok (.bipush 6, 2) := by decide +kernel
theorem dX12_cheap_89 : decode cX12_cheap 89 = .ok (.iload 6, 2) := by decide +kernel
theorem dX12_cheap_91 : decode cX12_cheap 91 = .ok (.imul, 1) := by decide +kernel
theorem dX12_cheap_92 : decode cX12_cheap 92 = .ok (.iload_n 3, 1) := by decide +kernel
theorem dX12_cheap_93 : decode cX12_cheap 93 = .ok (.iadd, 1) := by decide +kernel
theorem dX12_cheap_94 : decode cX12_cheap 94 = .ok (.iaload, 1) := by decide +kernel
theorem dX12_cheap_95 : decode cX12_cheap 95 = .ok (.invokestatic 137, 3) := by decide +kernel
theorem dX12_cheap_98 : decode cX12_cheap 98 = .ok (.istore 5, 2) := by decide +kernel
theorem dX12_cheap_100 : decode cX12_cheap 100 = .ok (.iconst 0, 1) := by decide +kernel
theorem dX12_cheap_101 : decode cX12_cheap 101 = .ok (.istore 7, 2) := by decide +kernel
theorem dX12_cheap_103 : decode cX12_cheap 103 = .ok (.iload 7, 2) := by decide +kernel
theorem dX12_cheap_105 : decode cX12_cheap 105 = .ok (.aload_n 0, 1) := by decide +kernel
theorem dX12_cheap_106 : decode cX12_cheap 106 = .ok (.getfield 7, 3) := by decide +kernel
theorem dX12_cheap_109 : decode cX12_cheap 109 = .ok (.iconst 0, 1) := by decide +kernel
theorem dX12_cheap_110 : decode cX12_cheap 110 = .ok (.iaload, 1) := by decide +kernel
theorem dX12_cheap_111 : decode cX12_cheap 111 = .ok (.if_icmp .ge 136, 3) := by decide +kernel
theorem dX12_cheap_114 : decode cX12_cheap 114 = .ok (.aload_n 0, 1) := by decide +kernel
theorem dX12_cheap_115 : decode cX12_cheap 115 = .ok (.getfield 59, 3) := by decide +kernel
theorem dX12_cheap_118 : decode cX12_cheap 118 = .ok (.bipush 6, 2) := by decide +kernel
theorem dX12_cheap_120 : decode cX12_cheap 120 = .ok (.iload 6, 2) := by decide +kernel
theorem dX12_cheap_122 : decode cX12_cheap 122 = .ok (.imul, 1) := by decide +kernel
theorem dX12_cheap_123 : decode cX12_cheap 123 = .ok (.iload 7, 2) := by decide +kernel
theorem dX12_cheap_125 : decode cX12_cheap 125 = .ok (.iadd, 1) := by decide +kernel
theorem dX12_cheap_126 : decode cX12_cheap 126 = .ok (.iaload, 1) := by decide +kernel
theorem dX12_cheap_127 : decode cX12_cheap 127 = .ok (.ldc 88, 2) := by decide +kernel
theorem dX12_cheap_129 : decode cX12_cheap 129 = .ok (.if_icmp .ne 6, 3) := by decide +kernel
theorem dX12_cheap_132 : decode cX12_cheap 132 = .ok (.goto 109, 3) := by decide +kernel
theorem dX12_cheap_135 : decode cX12_cheap 135 = .ok (.iconst 0, 1) := by decide +kernel
theorem dX12_cheap_136 : decode cX12_cheap 136 = .ok (.istore 8, 2) := by decide +kernel
theorem dX12_cheap_138 : decode cX12_cheap 138 = .ok (.iload 8, 2) := by decide +kernel
theorem dX12_cheap_140 : decode cX12_cheap 140 = .ok (.aload_n 0, 1) := by decide +kernel
theorem dX12_cheap_141 : decode cX12_cheap 141 = .ok (.getfield 7, 3) := by decide +kernel
theorem dX12_cheap_144 : decode cX12_cheap 144 = .ok (.iconst 0, 1) := by decide +kernel
theorem dX12_cheap_145 : decode cX12_cheap 145 = .ok (.iaload, 1) := by decide +kernel
theorem dX12_cheap_146 : decode cX12_cheap 146 = .ok (.if_icmp .ge 95, 3) := by decide +kernel
theorem dX12_cheap_149 : decode cX12_cheap 149 = .ok (.iload 8, 2) := by decide +kernel
theorem dX12_cheap_151 : decode cX12_cheap 151 = .ok (.iload 7, 2) := by decide +kernel
theorem dX12_cheap_153 : decode cX12_cheap 153 = .ok (.if_icmp .ne 8, 3) := by decide +kernel
theorem dX12_cheap_156 : decode cX12_cheap 156 = .ok (.ldc 88, 2) := by decide +kernel
theorem dX12_cheap_158 : decode cX12_cheap 158 = .ok (.goto 13, 3) := by decide +kernel
theorem dX12_cheap_161 : decode cX12_cheap 161 = .ok (.aload_n 0, 1) := by decide +kernel
theorem dX12_cheap_162 : decode cX12_cheap 162 = .ok (.iload 7, 2) := by decide +kernel
theorem dX12_cheap_164 : decode cX12_cheap 164 = .ok (.iload 6, 2) := by decide +kernel
theorem dX12_cheap_166 : decode cX12_cheap 166 = .ok (.iload 8, 2) := by decide +kernel
theorem dX12_cheap_168 : decode cX12_cheap 168 = .ok (.invokevirtual 280, 3) := by decide +kernel
theorem dX12_cheap_171 : decode cX12_cheap 171 = .ok (.istore 9, 2) := by decide +kernel
theorem dX12_cheap_173 : decode cX12_cheap 173 = .ok (.iload 9, 2) := by decide +kernel
theorem dX12_cheap_175 : decode cX12_cheap 175 = .ok (.sipush 460, 3) := by decide +kernel
theorem dX12_cheap_178 : decode cX12_cheap 178 = .ok (.if_icmp .gt 57, 3) := by decide +kernel
theorem dX12_cheap_181 : decode cX12_cheap 181 = .ok (.aload_n 0, 1) := by decide +kernel
theorem dX12_cheap_182 : decode cX12_cheap 182 = .ok (.getfield 59, 3) := by decide +kernel
theorem dX12_cheap_185 : decode cX12_cheap 185 = .ok (.bipush 6, 2) := by decide +kernel
theorem dX12_cheap_187 : decode cX12_cheap 187 = .ok (.iload 9, 2) := by decide +kernel
theorem dX12_cheap_189 : decode cX12_cheap 189 = .ok (.imul, 1) := by decide +kernel
theorem dX12_cheap_190 : decode cX12_cheap 190 = .ok (.iload 8, 2) := by decide +kernel
theorem dX12_cheap_192 : decode cX12_cheap 192 = .ok (.iadd, 1) := by decide +kernel
theorem dX12_cheap_193 : decode cX12_cheap 193 = .ok (.aload_n 0, 1) := by decide +kernel
theorem dX12_cheap_194 : decode cX12_cheap 194 = .ok (.getfield 59, 3) := by decide +kernel
theorem dX12_cheap_197 : decode cX12_cheap 197 = .ok (.bipush 6, 2) := by decide +kernel
theorem dX12_cheap_199 : decode cX12_cheap 199 = .ok (.iload 9, 2) := by decide +kernel
theorem dX12_cheap_201 : decode cX12_cheap 201 = .ok (.imul, 1) := by decide +kernel
theorem dX12_cheap_202 : decode cX12_cheap 202 = .ok (.iload 8, 2) := by decide +kernel
theorem dX12_cheap_204 : decode cX12_cheap 204 = .ok (.iadd, 1) := by decide +kernel
theorem dX12_cheap_205 : decode cX12_cheap 205 = .ok (.iaload, 1) := by decide +kernel
theorem dX12_cheap_206 : decode cX12_cheap 206 = .ok (.aload_n 0, 1) := by decide +kernel
theorem dX12_cheap_207 : decode cX12_cheap 207 = .ok (.getfield 59, 3) := by decide +kernel
theorem dX12_cheap_210 : decode cX12_cheap 210 = .ok (.bipush 6, 2) := by decide +kernel
theorem dX12_cheap_212 : decode cX12_cheap 212 = .ok (.iload 6, 2) := by decide +kernel
theorem dX12_cheap_214 : decode cX12_cheap 214 = .ok (.imul, 1) := by decide +kernel
theorem dX12_cheap_215 : decode cX12_cheap 215 = .ok (.iload 7, 2) := by decide +kernel
theorem dX12_cheap_217 : decode cX12_cheap 217 = .ok (.iadd, 1) := by decide +kernel
theorem dX12_cheap_218 : decode cX12_cheap 218 = .ok (.iaload, 1) := by decide +kernel
theorem dX12_cheap_219 : decode cX12_cheap 219 = .ok (.iload 9, 2) := by decide +kernel
theorem dX12_cheap_221 : decode cX12_cheap 221 = .ok (.iload 6, 2) := by decide +kernel
theorem dX12_cheap_223 : decode cX12_cheap 223 = .ok (.isub, 1) := by decide +kernel
theorem dX12_cheap_224 : decode cX12_cheap 224 = .ok (.iload 9, 2) := by decide +kernel
theorem dX12_cheap_226 : decode cX12_cheap 226 = .ok (.iload 6, 2) := by decide +kernel
theorem dX12_cheap_228 : decode cX12_cheap 228 = .ok (.isub, 1) := by decide +kernel
theorem dX12_cheap_229 : decode cX12_cheap 229 = .ok (.imul, 1) := by decide +kernel
theorem dX12_cheap_230 : decode cX12_cheap 230 = .ok (.iadd, 1) := by decide +kernel
theorem dX12_cheap_231 : decode cX12_cheap 231 = .ok (.invokestatic 137, 3) := by decide +kernel
theorem dX12_cheap_234 : decode cX12_cheap 234 = .ok (.iastore, 1) := by decide +kernel
theorem dX12_cheap_235 : decode cX12_cheap 235 = .ok (.iinc 8 1, 3) := by decide +kernel
theorem dX12_cheap_238 : decode cX12_cheap 238 = .ok (.goto (-100), 3) := by decide +kernel
theorem dX12_cheap_241 : decode cX12_cheap 241 = .ok (.iinc 7 1, 3) := by decide +kernel
theorem dX12_cheap_244 : decode cX12_cheap 244 = .ok (.goto (-141), 3) := by decide +kernel
theorem dX12_cheap_247 : decode cX12_cheap 247 = .ok (.iinc 6 1, 3) := by decide +kernel
theorem dX12_cheap_250 : decode cX12_cheap 250 = .ok (.goto (-176), 3) := by decide +kernel
theorem dX12_cheap_253 : decode cX12_cheap 253 = .ok (.aload_n 0, 1) := by decide +kernel
theorem dX12_cheap_254 : decode cX12_cheap 254 = .ok (.iload 5, 2) := by decide +kernel
theorem dX12_cheap_256 : decode cX12_cheap 256 = .ok (.invokevirtual 284, 3) := by decide +kernel
theorem dX12_cheap_259 : decode cX12_cheap 259 = .ok (.ireturn, 1) := by decide +kernel
theorem dX12_cut_0 : decode cX12_cut 0 = .ok (.iload_n 2, 1) := by decide +kernel
theorem dX12_cut_1 : decode cX12_cut 1 = .ok (.ifCond .ne 10, 3) := by decide +kernel
theorem dX12_cut_4 : decode cX12_cut 4 = .ok (.lload_n 0, 1) := by decide +kernel
theorem dX12_cut_5 : decode cX12_cut 5 = .ok (.l2i, 1) := by decide +kernel
theorem dX12_cut_6 : decode cX12_cut 6 = .ok (.i2b, 1) := by decide +kernel
theorem dX12_cut_7 : decode cX12_cut 7 = .ok (.i2l, 1) := by decide +kernel
theorem dX12_cut_8 : decode cX12_cut 8 = .ok (.goto 27, 3) := by decide +kernel
theorem dX12_cut_11 : decode cX12_cut 11 = .ok (.iload_n 2, 1) := by decide +kernel
theorem dX12_cut_12 : decode cX12_cut 12 = .ok (.iconst 1, 1) := by decide +kernel
theorem dX12_cut_13 : decode cX12_cut 13 = .ok (.if_icmp .ne 10, 3) := by decide +kernel
theorem dX12_cut_16 : decode cX12_cut 16 = .ok (.lload_n 0, 1) := by decide +kernel
theorem dX12_cut_17 : decode cX12_cut 17 = .ok (.l2i, 1) := by decide +kernel
theorem dX12_cut_18 : decode cX12_cut 18 = .ok (.i2s, 1) := by decide +kernel
theorem dX12_cut_19 : decode cX12_cut 19 = .ok (.i2l, 1) := by decide +kernel
theorem dX12_cut_20 : decode cX12_cut 20 = .ok (.goto 15, 3) := by decide +kernel
theorem dX12_cut_23 : decode cX12_cut 23 = .ok (.iload_n 2, 1) := by decide +kernel
theorem dX12_cut_24 : decode cX12_cut 24 = .ok (.iconst 2, 1) := by decide +kernel
theorem dX12_cut_25 : decode cX12_cut 25 = .ok (.if_icmp .ne 9, 3) := by decide +kernel
theorem dX12_cut_28 : decode cX12_cut 28 = .ok (.lload_n 0, 1) := by decide +kernel
theorem dX12_cut_29 : decode cX12_cut 29 = .ok (.l2i, 1) := by decide +kernel
theorem dX12_cut_30 : decode cX12_cut 30 = .ok (.i2l, 1) := by decide +kernel
theorem dX12_cut_31 : decode cX12_cut 31 = .ok (.goto 4, 3) := by decide +kernel
theorem dX12_cut_34 : decode cX12_cut 34 = .ok (.lload_n 0, 1) := by decide +kernel
theorem dX12_cut_35 : decode cX12_cut 35 = .ok (.lreturn, 1) := by decide +kernel
theorem dX12_fault_0 : decode cX12_fault 0 = .ok (.iload_n 1, 1) := by decide +kernel
theorem dX12_fault_1 : decode cX12_fault 1 = .ok (.ifCond .ne 10, 3) := by decide +kernel
theorem dX12_fault_4 : decode cX12_fault 4 = .ok (.aload_n 0, 1) := by decide +kernel
theorem dX12_fault_5 : decode cX12_fault 5 = .ok (.getfield 37, 3) := by decide +kernel
theorem dX12_fault_8 : decode cX12_fault 8 = .ok (.goto 16, 3) := by decide +kernel
theorem dX12_fault_11 : decode cX12_fault 11 = .ok (.iload_n 1, 1) := by decide +kernel
theorem dX12_fault_12 : decode cX12_fault 12 = .ok (.iconst 1, 1) := by decide +kernel
theorem dX12_fault_13 : decode cX12_fault 13 = .ok (.if_icmp .ne 10, 3) := by decide +kernel
theorem dX12_fault_16 : decode cX12_fault 16 = .ok (.aload_n 0, 1) := by decide +kernel
theorem dX12_fault_17 : decode cX12_fault 17 = .ok (.getfield 41, 3) := by decide +kernel
theorem dX12_fault_20 : decode cX12_fault 20 = .ok (.goto 4, 3) := by decide +kernel
theorem dX12_fault_23 : decode cX12_fault 23 = .ok (.iconst (-1), 1) := by decide +kernel
theorem dX12_fault_24 : decode cX12_fault 24 = .ok (.ireturn, 1) := by decide +kernel
theorem dX12_feed_0 : decode cX12_feed 0 = .ok (.aload_n 0, 1) := by decide +kernel
theorem dX12_feed_1 : decode cX12_feed 1 = .ok (.getfield 106, 3) := by decide +kernel
theorem dX12_feed_4 : decode cX12_feed 4 = .ok (.bipush 20, 2) := by decide +kernel
theorem dX12_feed_6 : decode cX12_feed 6 = .ok (.iadd, 1) := by decide +kernel
theorem dX12_feed_7 : decode cX12_feed 7 = .ok (.sipush 900, 3) := by decide +kernel
theorem dX12_feed_10 : decode cX12_feed 10 = .ok (.if_icmp .le 5, 3) := by decide +kernel
theorem dX12_feed_13 : decode cX12_feed 13 = .ok (.iconst (-1), 1) := by decide +kernel
theorem dX12_feed_14 : decode cX12_feed 14 = .ok (.ireturn, 1) := by decide +kernel
theorem dX12_feed_15 : decode cX12_feed 15 = .ok (.aload_n 0, 1) := by decide +kernel
theorem dX12_feed_16 : decode cX12_feed 16 = .ok (.iload_n 1, 1) := by decide +kernel
theorem dX12_feed_17 : decode cX12_feed 17 = .ok (.invokevirtual 109, 3) := by decide +kernel
theorem dX12_feed_20 : decode cX12_feed 20 = .ok (.aload_n 0, 1) := by decide +kernel
theorem dX12_feed_21 : decode cX12_feed 21 = .ok (.iload_n 2, 1) := by decide +kernel
theorem dX12_feed_22 : decode cX12_feed 22 = .ok (.invokevirtual 109, 3) := by decide +kernel
theorem dX12_feed_25 : decode cX12_feed 25 = .ok (.aload_n 0, 1) := by decide +kernel
theorem dX12_feed_26 : decode cX12_feed 26 = .ok (.iload_n 3, 1) := by decide +kernel
theorem dX12_feed_27 : decode cX12_feed 27 = .ok (.invokevirtual 109, 3) := by decide +kernel
theorem dX12_feed_30 : decode cX12_feed 30 = .ok (.aload_n 0, 1) := by decide +kernel
theorem dX12_feed_31 : decode cX12_feed 31 = .ok (.iload 4, 2) := by decide +kernel
theorem dX12_feed_33 : decode cX12_feed 33 = .ok (.invokevirtual 109, 3) := by decide +kernel
theorem dX12_feed_36 : decode cX12_feed 36 = .ok (.aload_n 0, 1) := by decide +kernel
theorem dX12_feed_37 : decode cX12_feed 37 = .ok (.iload 5, 2) := by decide +kernel
theorem dX12_feed_39 : decode cX12_feed 39 = .ok (.invokevirtual 109, 3) := by decide +kernel
theorem dX12_feed_42 : decode cX12_feed 42 = .ok (.aload_n 0, 1) := by decide +kernel
theorem dX12_feed_43 : decode cX12_feed 43 = .ok (.getfield 106, 3) := by decide +kernel
theorem dX12_feed_46 : decode cX12_feed 46 = .ok (.ireturn, 1) := by decide +kernel
theorem dX12_four_0 : decode cX12_four 0 = .ok (.bipush 24, 2) := by decide +kernel
theorem dX12_four_2 : decode cX12_four 2 = .ok (.istore_n 2, 1) := by decide +kernel
theorem dX12_four_3 : decode cX12_four 3 = .ok (.iload_n 2, 1) := by decide +kernel
theorem dX12_four_4 : decode cX12_four 4 = .ok (.ifCond .lt 32, 3) := by decide +kernel
theorem dX12_four_7 : decode cX12_four 7 = .ok (.aload_n 0, 1) := by decide +kernel
theorem dX12_four_8 : decode cX12_four 8 = .ok (.getfield 30, 3) := by decide +kernel
theorem dX12_four_11 : decode cX12_four 11 = .ok (.aload_n 0, 1) := by decide +kernel
theorem dX12_four_12 : decode cX12_four 12 = .ok (.getfield 106, 3) := by decide +kernel
theorem dX12_four_15 : decode cX12_four 15 = .ok (.iload_n 1, 1) := by decide +kernel
theorem dX12_four_16 : decode cX12_four 16 = .ok (.iload_n 2, 1) := by decide +kernel
theorem dX12_four_17 : decode cX12_four 17 = .ok (.ishr, 1) := by decide +kernel
theorem dX12_four_18 : decode cX12_four 18 = .ok (.i2b, 1) := by decide +kernel
theorem dX12_four_19 : decode cX12_four 19 = .ok (.bastore, 1) := by decide +kernel
theorem dX12_four_20 : decode cX12_four 20 = .ok (.aload_n 0, 1) := by decide +kernel
theorem dX12_four_21 : decode cX12_four 21 = .ok (.dup, 1) := by decide +kernel
theorem dX12_four_22 : decode cX12_four 22 = .ok (.getfield 106, 3) := by decide +kernel
theorem dX12_four_25 : decode cX12_four 25 = .ok (.iconst 1, 1) := by decide +kernel
theorem dX12_four_26 : decode cX12_four 26 = .ok (.iadd, 1) := by decide +kernel
theorem dX12_four_27 : decode cX12_four 27 = .ok (.putfield 106, 3) := by decide +kernel
theorem dX12_four_30 : decode cX12_four 30 = .ok (.iinc 2 (-8), 3) := by decide +kernel
theorem dX12_four_33 : decode cX12_four 33 = .ok (.goto (-30), 3) := by decide +kernel
theorem dX12_four_36 : decode cX12_four 36 = .ok (.return_, 1) := by decide +kernel
theorem dX12_pour_0 : decode cX12_pour 0 = .ok (.iload_n 1, 1) := by decide +kernel
theorem dX12_pour_1 : decode cX12_pour 1 = .ok (.invokestatic 93, 3) := by decide +kernel
theorem dX12_pour_4 : decode cX12_pour 4 = .ok (.ifCond .eq 24, 3) := by decide +kernel
theorem dX12_pour_7 : decode cX12_pour 7 = .ok (.iload_n 3, 1) := by decide +kernel
theorem dX12_pour_8 : decode cX12_pour 8 = .ok (.invokestatic 93, 3) := by decide +kernel
theorem dX12_pour_11 : decode cX12_pour 11 = .ok (.ifCond .eq 17, 3) := by decide +kernel
theorem dX12_pour_14 : decode cX12_pour 14 = .ok (.iload_n 2, 1) := by decide +kernel
theorem dX12_pour_15 : decode cX12_pour 15 = .ok (.ifCond .lt 13, 3) := by decide +kernel
theorem dX12_pour_18 : decode cX12_pour 18 = .ok (.iload 4, 2) := by decide +kernel
theorem dX12_pour_20 : decode cX12_pour 20 = .ok (.ifCond .lt 8, 3) := by decide +kernel
theorem dX12_pour_23 : decode cX12_pour 23 = .ok (.iload 5, 2) := by decide +kernel
theorem dX12_pour_25 : decode cX12_pour 25 = .ok (.ifCond .ge 9, 3) := by decide +kernel
theorem dX12_pour_28 : decode cX12_pour 28 = .ok (.aload_n 0, 1) := by decide +kernel
theorem dX12_pour_29 : decode cX12_pour 29 = .ok (.iconst 1, 1) := by decide +kernel
theorem dX12_pour_30 : decode cX12_pour 30 = .ok (.invokevirtual 89, 3) := by decide +kernel
theorem dX12_pour_33 : decode cX12_pour 33 = .ok (.ireturn, 1) := by decide +kernel
theorem dX12_pour_34 : decode cX12_pour 34 = .ok (.aload_n 0, 1) := by decide +kernel
theorem dX12_pour_35 : decode cX12_pour 35 = .ok (.getfield 24, 3) := by decide +kernel
theorem dX12_pour_38 : decode cX12_pour 38 = .ok (.iload_n 1, 1) := by decide +kernel
theorem dX12_pour_39 : decode cX12_pour 39 = .ok (.iaload, 1) := by decide +kernel
theorem dX12_pour_40 : decode cX12_pour 40 = .ok (.iconst (-1), 1) := by decide +kernel
theorem dX12_pour_41 : decode cX12_pour 41 = .ok (.if_icmp .eq 13, 3) := by decide +kernel
theorem dX12_pour_44 : decode cX12_pour 44 = .ok (.aload_n 0, 1) := by decide +kernel
theorem dX12_pour_45 : decode cX12_pour 45 = .ok (.getfield 24, 3) := by decide +kernel
theorem dX12_pour_48 : decode cX12_pour 48 = .ok (.iload_n 3, 1) := by decide +kernel
theorem dX12_pour_49 : decode cX12_pour 49 = .ok (.iaload, 1) := by decide +kernel
theorem dX12_pour_50 : decode cX12_pour 50 = .ok (.iconst (-1), 1) := by decide +kernel
theorem dX12_pour_51 : decode cX12_pour 51 = .ok (.if_icmp .ne 9, 3) := by decide +kernel
theorem dX12_pour_54 : decode cX12_pour 54 = .ok (.aload_n 0, 1) := by decide +kernel
theorem dX12_pour_55 : decode cX12_pour 55 = .ok (.iconst 2, 1) := by decide +kernel
theorem dX12_pour_56 : decode cX12_pour 56 = .ok (.invokevirtual 89, 3) := by decide +kernel
theorem dX12_pour_59 : decode cX12_pour 59 = .ok (.ireturn, 1) := by decide +kernel
theorem dX12_pour_60 : decode cX12_pour 60 = .ok (.aload_n 0, 1) := by decide +kernel
theorem dX12_pour_61 : decode cX12_pour 61 = .ok (.getfield 21, 3) := by decide +kernel
theorem dX12_pour_64 : decode cX12_pour 64 = .ok (.iload_n 1, 1) := by decide +kernel
theorem dX12_pour_65 : decode cX12_pour 65 = .ok (.iaload, 1) := by decide +kernel
theorem dX12_pour_66 : decode cX12_pour 66 = .ok (.aload_n 0, 1) := by decide +kernel
theorem dX12_pour_67 : decode cX12_pour 67 = .ok (.getfield 21, 3) := by decide +kernel
theorem dX12_pour_70 : decode cX12_pour 70 = .ok (.iload_n 3, 1) := by decide +kernel
theorem dX12_pour_71 : decode cX12_pour 71 = .ok (.iaload, 1) := by decide +kernel
theorem dX12_pour_72 : decode cX12_pour 72 = .ok (.if_icmp .eq 10, 3) := by decide +kernel
theorem dX12_pour_75 : decode cX12_pour 75 = .ok (.aload_n 0, 1) := by decide +kernel
theorem dX12_pour_76 : decode cX12_pour 76 = .ok (.bipush 8, 2) := by decide +kernel
theorem dX12_pour_78 : decode cX12_pour 78 = .ok (.invokevirtual 89, 3) := by decide +kernel
theorem dX12_pour_81 : decode cX12_pour 81 = .ok (.ireturn, 1) := by decide +kernel
theorem dX12_pour_82 : decode cX12_pour 82 = .ok (.iload 5, 2) := by decide +kernel
theorem dX12_pour_84 : decode cX12_pour 84 = .ok (.aload_n 0, 1) := by decide +kernel
theorem dX12_pour_85 : decode cX12_pour 85 = .ok (.getfield 24, 3) := by decide +kernel
theorem dX12_pour_88 : decode cX12_pour 88 = .ok (.iload_n 1, 1) := by decide +kernel
theorem dX12_pour_89 : decode cX12_pour 89 = .ok (.iaload, 1) := by decide +kernel
theorem dX12_pour_90 : decode cX12_pour 90 = .ok (.iload_n 2, 1) := by decide +kernel
theorem dX12_pour_91 : decode cX12_pour 91 = .ok (.isub, 1) := by decide +kernel
theorem dX12_pour_92 : decode cX12_pour 92 = .ok (.if_icmp .gt 17, 3) := by decide +kernel
theorem dX12_pour_95 : decode cX12_pour 95 = .ok (.iload 5, 2) := by decide +kernel
theorem dX12_pour_97 : decode cX12_pour 97 = .ok (.aload_n 0, 1) := by decide +kernel
theorem dX12_pour_98 : decode cX12_pour 98 = .ok (.getfield 24, 3) := by decide +kernel
theorem dX12_pour_101 : decode cX12_pour 101 = .ok (.iload_n 3, 1) := by decide +kernel
theorem dX12_pour_102 : decode cX12_pour 102 = .ok (.iaload, 1) := by decide +kernel
theorem dX12_pour_103 : decode cX12_pour 103 = .ok (.iload 4, 2) := by decide +kernel
theorem dX12_pour_105 : decode cX12_pour 105 = .ok (.isub, 1) := by decide +kernel
theorem dX12_pour_106 : decode cX12_pour 106 = .ok (.if_icmp .le 9, 3) := by decide +kernel
theorem dX12_pour_109 : decode cX12_pour 109 = .ok (.aload_n 0, 1) := by decide +kernel
theorem dX12_pour_110 : decode cX12_pour 110 = .ok (.iconst 3, 1) := by decide +kernel
theorem dX12_pour_111 : decode cX12_pour 111 = .ok (.invokevirtual 89, 3) := by decide +kernel
theorem dX12_pour_114 : decode cX12_pour 114 = .ok (.ireturn, 1) := by decide +kernel
theorem dX12_pour_115 : decode cX12_pour 115 = .ok (.iconst 0, 1) := by decide +kernel
theorem dX12_pour_116 : decode cX12_pour 116 = .ok (.istore 6, 2) := by decide +kernel
theorem dX12_pour_118 : decode cX12_pour 118 = .ok (.iload 6, 2) := by decide +kernel
theorem dX12_pour_120 : decode cX12_pour 120 = .ok (.iload 5, 2) := by decide +kernel
theorem dX12_pour_122 : decode cX12_pour 122 = .ok (.if_icmp .ge 58, 3) := by decide +kernel
theorem dX12_pour_125 : decode cX12_pour 125 = .ok (.iload_n 2, 1) := by decide +kernel
theorem dX12_pour_126 : decode cX12_pour 126 = .ok (.iload 4, 2) := by decide +kernel
theorem dX12_pour_128 : decode cX12_pour 128 = .ok (.if_icmp .ge 13, 3) := by decide +kernel
theorem dX12_pour_131 : decode cX12_pour 131 = .ok (.iload 5, 2) := by decide +kernel
theorem dX12_pour_133 : decode cX12_pour 133 = .ok (.iconst 1, 1) := by decide +kernel
theorem dX12_pour_134 : decode cX12_pour 134 = .ok (.isub, 1) := by decide +kernel
theorem dX12_pour_135 : decode cX12_pour 135 = .ok (.iload 6, 2) := by decide +kernel
theorem dX12_pour_137 : decode cX12_pour 137 = .ok (.isub, 1) := by decide +kernel
theorem dX12_pour_138 : decode cX12_pour 138 = .ok (.goto 5, 3) := by decide +kernel
theorem dX12_pour_141 : decode cX12_pour 141 = .ok (.iload 6, 2) := by decide +kernel
theorem dX12_pour_143 : decode cX12_pour 143 = .ok (.istore 7, 2) := by decide +kernel
theorem dX12_pour_145 : decode cX12_pour 145 = .ok (.aload_n 0, 1) := by decide +kernel
theorem dX12_pour_146 : decode cX12_pour 146 = .ok (.getfield 27, 3) := by decide +kernel
theorem dX12_pour_149 : decode cX12_pour 149 = .ok (.bipush 60, 2) := by decide +kernel
theorem dX12_pour_151 : decode cX12_pour 151 = .ok (.iload_n 3, 1) := by decide +kernel
theorem dX12_pour_152 : decode cX12_pour 152 = .ok (.imul, 1) := by decide +kernel
theorem dX12_pour_153 : decode cX12_pour 153 = .ok (.iload 4, 2) := by decide +kernel
theorem dX12_pour_155 : decode cX12_pour 155 = .ok (.iadd, 1) := by decide +kernel
theorem dX12_pour_156 : decode cX12_pour 156 = .ok (.iload 7, 2) := by decide +kernel
theorem dX12_pour_158 : decode cX12_pour 158 = .ok (.iadd, 1) := by decide +kernel
theorem dX12_pour_159 : decode cX12_pour 159 = .ok (.aload_n 0, 1) := by decide +kernel
theorem dX12_pour_160 : decode cX12_pour 160 = .ok (.getfield 27, 3) := by decide +kernel
theorem dX12_pour_163 : decode cX12_pour 163 = .ok (.bipush 60, 2) := by decide +kernel
theorem dX12_pour_165 : decode cX12_pour 165 = .ok (.iload_n 1, 1) := by decide +kernel
theorem dX12_pour_166 : decode cX12_pour 166 = .ok (.imul, 1) := by decide +kernel
theorem dX12_pour_167 : decode cX12_pour 167 = .ok (.iload_n 2, 1) := by decide +kernel
theorem dX12_pour_168 : decode cX12_pour 168 = .ok (.iadd, 1) := by decide +kernel
theorem dX12_pour_169 : decode cX12_pour 169 = .ok (.iload 7, 2) := by decide +kernel
theorem dX12_pour_171 : decode cX12_pour 171 = .ok (.iadd, 1) := by decide +kernel
theorem dX12_pour_172 : decode cX12_pour 172 = .ok (.laload, 1) := by decide +kernel
theorem dX12_pour_173 : decode cX12_pour 173 = .ok (.lastore, 1) := by decide +kernel
theorem dX12_pour_174 : decode cX12_pour 174 = .ok (.iinc 6 1, 3) := by decide +kernel
theorem dX12_pour_177 : decode cX12_pour 177 = .ok (.goto (-59), 3) := by decide +kernel
theorem dX12_pour_180 : decode cX12_pour 180 = .ok (.aload_n 0, 1) := by decide +kernel
theorem dX12_pour_181 : decode cX12_pour 181 = .ok (.iconst 0, 1) := by decide +kernel
theorem dX12_pour_182 : decode cX12_pour 182 = .ok (.invokevirtual 89, 3) := by decide +kernel
theorem dX12_pour_185 : decode cX12_pour 185 = .ok (.ireturn, 1) := by decide +kernel
theorem dX12_read_0 : decode cX12_read 0 = .ok (.aload_n 0, 1) := by decide +kernel
theorem dX12_read_1 : decode cX12_read 1 = .ok (.aload_n 0, 1) := by decide +kernel
theorem dX12_read_2 : decode cX12_read 2 = .ok (.iload_n 1, 1) := by decide +kernel
theorem dX12_read_3 : decode cX12_read 3 = .ok (.iload_n 2, 1) := by decide +kernel
theorem dX12_read_4 : decode cX12_read 4 = .ok (.invokevirtual 96, 3) := by decide +kernel
theorem dX12_read_7 : decode cX12_read 7 = .ok (.putfield 75, 3) := by decide +kernel
theorem dX12_read_10 : decode cX12_read 10 = .ok (.aload_n 0, 1) := by decide +kernel
theorem dX12_read_11 : decode cX12_read 11 = .ok (.getfield 75, 3) := by decide +kernel
theorem dX12_read_14 : decode cX12_read 14 = .ok (.ifCond .le 9, 3) := by decide +kernel
theorem dX12_read_17 : decode cX12_read 17 = .ok (.ldc2_w 104, 3) := by decide +kernel
theorem dX12_read_20 : decode cX12_read 20 = .ok (.goto 14, 3) := by decide +kernel
theorem dX12_read_23 : decode cX12_read 23 = .ok (.aload_n 0, 1) := by decide +kernel
theorem dX12_read_24 : decode cX12_read 24 = .ok (.getfield 27, 3) := by decide +kernel
theorem dX12_read_27 : decode cX12_read 27 = .ok (.bipush 60, 2) := by decide +kernel
theorem dX12_read_29 : decode cX12_read 29 = .ok (.iload_n 1, 1) := by decide +kernel
theorem dX12_read_30 : decode cX12_read 30 = .ok (.imul, 1) := by decide +kernel
theorem dX12_read_31 : decode cX12_read 31 = .ok (.iload_n 2, 1) := by decide +kernel
theorem dX12_read_32 : decode cX12_read 32 = .ok (.iadd, 1) := by decide +kernel
theorem dX12_read_33 : decode cX12_read 33 = .ok (.laload, 1) := by decide +kernel
theorem dX12_read_34 : decode cX12_read 34 = .ok (.lreturn, 1) := by decide +kernel
theorem dX12_tray_0 : decode cX12_tray 0 = .ok (.iload_n 1, 1) := by decide +kernel
theorem dX12_tray_1 : decode cX12_tray 1 = .ok (.invokestatic 93, 3) := by decide +kernel
theorem dX12_tray_4 : decode cX12_tray 4 = .ok (.ifCond .eq 22, 3) := by decide +kernel
theorem dX12_tray_7 : decode cX12_tray 7 = .ok (.iload_n 2, 1) := by decide +kernel
theorem dX12_tray_8 : decode cX12_tray 8 = .ok (.ifCond .lt 18, 3) := by decide +kernel
theorem dX12_tray_11 : decode cX12_tray 11 = .ok (.iload_n 2, 1) := by decide +kernel
theorem dX12_tray_12 : decode cX12_tray 12 = .ok (.iconst 3, 1) := by decide +kernel
theorem dX12_tray_13 : decode cX12_tray 13 = .ok (.if_icmp .gt 13, 3) := by decide +kernel
theorem dX12_tray_16 : decode cX12_tray 16 = .ok (.iload_n 3, 1) := by decide +kernel
theorem dX12_tray_17 : decode cX12_tray 17 = .ok (.ifCond .lt 9, 3) := by decide +kernel
theorem dX12_tray_20 : decode cX12_tray 20 = .ok (.iload_n 3, 1) := by decide +kernel
theorem dX12_tray_21 : decode cX12_tray 21 = .ok (.bipush 60, 2) := by decide +kernel
theorem dX12_tray_23 : decode cX12_tray 23 = .ok (.if_icmp .le 9, 3) := by decide +kernel
theorem dX12_tray_26 : decode cX12_tray 26 = .ok (.aload_n 0, 1) := by decide +kernel
theorem dX12_tray_27 : decode cX12_tray 27 = .ok (.iconst 1, 1) := by decide +kernel
theorem dX12_tray_28 : decode cX12_tray 28 = .ok (.invokevirtual 89, 3) := by decide +kernel
theorem dX12_tray_31 : decode cX12_tray 31 = .ok (.ireturn, 1) := by decide +kernel
theorem dX12_tray_32 : decode cX12_tray 32 = .ok (.aload_n 0, 1) := by decide +kernel
theorem dX12_tray_33 : decode cX12_tray 33 = .ok (.getfield 21, 3) := by decide +kernel
theorem dX12_tray_36 : decode cX12_tray 36 = .ok (.iload_n 1, 1) := by decide +kernel
theorem dX12_tray_37 : decode cX12_tray 37 = .ok (.iload_n 2, 1) := by decide +kernel
theorem dX12_tray_38 : decode cX12_tray 38 = .ok (.iastore, 1) := by decide +kernel
theorem dX12_tray_39 : decode cX12_tray 39 = .ok (.aload_n 0, 1) := by decide +kernel
theorem dX12_tray_40 : decode cX12_tray 40 = .ok (.getfield 24, 3) := by decide +kernel
theorem dX12_tray_43 : decode cX12_tray 43 = .ok (.iload_n 1, 1) := by decide +kernel
theorem dX12_tray_44 : decode cX12_tray 44 = .ok (.iload_n 3, 1) := by decide +kernel
theorem dX12_tray_45 : decode cX12_tray 45 = .ok (.iastore, 1) := by decide +kernel
theorem dX12_tray_46 : decode cX12_tray 46 = .ok (.iconst 0, 1) := by decide +kernel
theorem dX12_tray_47 : decode cX12_tray 47 = .ok (.istore 4, 2) := by decide +kernel
theorem dX12_tray_49 : decode cX12_tray 49 = .ok (.iload 4, 2) := by decide +kernel
theorem dX12_tray_51 : decode cX12_tray 51 = .ok (.iload_n 3, 1) := by decide +kernel
theorem dX12_tray_52 : decode cX12_tray 52 = .ok (.if_icmp .ge 22, 3) := by decide +kernel
theorem dX12_tray_55 : decode cX12_tray 55 = .ok (.aload_n 0, 1) := by decide +kernel
theorem dX12_tray_56 : decode cX12_tray 56 = .ok (.getfield 27, 3) := by decide +kernel
theorem dX12_tray_59 : decode cX12_tray 59 = .ok (.bipush 60, 2) := by decide +kernel
theorem dX12_tray_61 : decode cX12_tray 61 = .ok (.iload_n 1, 1) := by decide +kernel
theorem dX12_tray_62 : decode cX12_tray 62 = .ok (.imul, 1) := by decide +kernel
theorem dX12_tray_63 : decode cX12_tray 63 = .ok (.iload 4, 2) := by decide +kernel
theorem dX12_tray_65 : decode cX12_tray 65 = .ok (.iadd, 1) := by decide +kernel
theorem dX12_tray_66 : decode cX12_tray 66 = .ok (.lconst 0, 1) := by decide +kernel
theorem dX12_tray_67 : decode cX12_tray 67 = .ok (.lastore, 1) := by decide +kernel
theorem dX12_tray_68 : decode cX12_tray 68 = .ok (.iinc 4 1, 3) := by decide +kernel
theorem dX12_tray_71 : decode cX12_tray 71 = .ok (.goto (-22), 3) := by decide +kernel
theorem dX12_tray_74 : decode cX12_tray 74 = .ok (.aload_n 0, 1) := by decide +kernel
theorem dX12_tray_75 : decode cX12_tray 75 = .ok (.iconst 0, 1) := by decide +kernel
theorem dX12_tray_76 : decode cX12_tray 76 = .ok (.invokevirtual 89, 3) := by decide +kernel
theorem dX12_tray_79 : decode cX12_tray 79 = .ok (.ireturn, 1) := by decide +kernel
theorem dX12_write_0 : decode cX12_write 0 = .ok (.aload_n 0, 1) := by decide +kernel
theorem dX12_write_1 : decode cX12_write 1 = .ok (.iload_n 1, 1) := by decide +kernel
theorem dX12_write_2 : decode cX12_write 2 = .ok (.iload_n 2, 1) := by decide +kernel
theorem dX12_write_3 : decode cX12_write 3 = .ok (.invokevirtual 96, 3) := by decide +kernel
theorem dX12_write_6 : decode cX12_write 6 = .ok (.istore 5, 2) := by decide +kernel
theorem dX12_write_8 : decode cX12_write 8 = .ok (.iload 5, 2) := by decide +kernel
theorem dX12_write_10 : decode cX12_write 10 = .ok (.ifCond .ne 24, 3) := by decide +kernel
theorem dX12_write_13 : decode cX12_write 13 = .ok (.aload_n 0, 1) := by decide +kernel
theorem dX12_write_14 : decode cX12_write 14 = .ok (.getfield 27, 3) := by decide +kernel
theorem dX12_write_17 : decode cX12_write 17 = .ok (.bipush 60, 2) := by decide +kernel
theorem dX12_write_19 : decode cX12_write 19 = .ok (.iload_n 1, 1) := by decide +kernel
theorem dX12_write_20 : decode cX12_write 20 = .ok (.imul, 1) := by decide +kernel
theorem dX12_write_21 : decode cX12_write 21 = .ok (.iload_n 2, 1) := by decide +kernel
theorem dX12_write_22 : decode cX12_write 22 = .ok (.iadd, 1) := by decide +kernel
theorem dX12_write_23 : decode cX12_write 23 = .ok (.lload_n 3, 1) := by decide +kernel
theorem dX12_write_24 : decode cX12_write 24 = .ok (.aload_n 0, 1) := by decide +kernel
theorem dX12_write_25 : decode cX12_write 25 = .ok (.getfield 21, 3) := by decide +kernel
theorem dX12_write_28 : decode cX12_write 28 = .ok (.iload_n 1, 1) := by decide +kernel
theorem dX12_write_29 : decode cX12_write 29 = .ok (.iaload, 1) := by decide +kernel
theorem dX12_write_30 : decode cX12_write 30 = .ok (.invokestatic 100, 3) := by decide +kernel
theorem dX12_write_33 : decode cX12_write 33 = .ok (.lastore, 1) := by decide +kernel
theorem dX12_write_34 : decode cX12_write 34 = .ok (.aload_n 0, 1) := by decide +kernel
theorem dX12_write_35 : decode cX12_write 35 = .ok (.iload 5, 2) := by decide +kernel
theorem dX12_write_37 : decode cX12_write 37 = .ok (.invokevirtual 89, 3) := by decide +kernel
theorem dX12_write_40 : decode cX12_write 40 = .ok (.ireturn, 1) := by decide +kernel
theorem dX12_wrongPlace_0 : decode cX12_wrongPlace 0 = .ok (.iload_n 1, 1) := by decide +kernel
theorem dX12_wrongPlace_1 : decode cX12_wrongPlace 1 = .ok (.invokestatic 93, 3) := by decide +kernel
theorem dX12_wrongPlace_4 : decode cX12_wrongPlace 4 = .ok (.ifCond .ne 7, 3) := by decide +kernel
theorem dX12_wrongPlace_7 : decode cX12_wrongPlace 7 = .ok (.iconst 1, 1) := by decide +kernel
theorem dX12_wrongPlace_8 : decode cX12_wrongPlace 8 = .ok (.goto 36, 3) := by decide +kernel
theorem dX12_wrongPlace_11 : decode cX12_wrongPlace 11 = .ok (.aload_n 0, 1) := by decide +kernel
theorem dX12_wrongPlace_12 : decode cX12_wrongPlace 12 = .ok (.getfield 24, 3) := by decide +kernel
theorem dX12_wrongPlace_15 : decode cX12_wrongPlace 15 = .ok (.iload_n 1, 1) := by decide +kernel
theorem dX12_wrongPlace_16 : decode cX12_wrongPlace 16 = .ok (.iaload, 1) := by decide +kernel
theorem dX12_wrongPlace_17 : decode cX12_wrongPlace 17 = .ok (.iconst (-1), 1) := by decide +kernel
theorem dX12_wrongPlace_18 : decode cX12_wrongPlace 18 = .ok (.if_icmp .ne 7, 3) := by decide +kernel
theorem dX12_wrongPlace_21 : decode cX12_wrongPlace 21 = .ok (.iconst 2, 1) := by decide +kernel
theorem dX12_wrongPlace_22 : decode cX12_wrongPlace 22 = .ok (.goto 22, 3) := by decide +kernel
theorem dX12_wrongPlace_25 : decode cX12_wrongPlace 25 = .ok (.iload_n 2, 1) := by decide +kernel
theorem dX12_wrongPlace_26 : decode cX12_wrongPlace 26 = .ok (.ifCond .lt 13, 3) := by decide +kernel
theorem dX12_wrongPlace_29 : decode cX12_wrongPlace 29 = .ok (.iload_n 2, 1) := by decide +kernel
theorem dX12_wrongPlace_30 : decode cX12_wrongPlace 30 = .ok (.aload_n 0, 1) := by decide +kernel
theorem dX12_wrongPlace_31 : decode cX12_wrongPlace 31 = .ok (.getfield 24, 3) := by decide +kernel
theorem dX12_wrongPlace_34 : decode cX12_wrongPlace 34 = .ok (.iload_n 1, 1) := by decide +kernel
theorem dX12_wrongPlace_35 : decode cX12_wrongPlace 35 = .ok (.iaload, 1) := by decide +kernel
theorem dX12_wrongPlace_36 : decode cX12_wrongPlace 36 = .ok (.if_icmp .lt 7, 3) := by decide +kernel
theorem dX12_wrongPlace_39 : decode cX12_wrongPlace 39 = .ok (.iconst 3, 1) := by decide +kernel
theorem dX12_wrongPlace_40 : decode cX12_wrongPlace 40 = .ok (.goto 4, 3) := by decide +kernel
theorem dX12_wrongPlace_43 : decode cX12_wrongPlace 43 = .ok (.iconst 0, 1) := by decide +kernel
theorem dX12_wrongPlace_44 : decode cX12_wrongPlace 44 = .ok (.ireturn, 1) := by decide +kernel
