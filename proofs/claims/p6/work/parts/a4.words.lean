theorem qm_X11_1 : Cond.methodLink RX11 1 objectInit ∈ gw := tbt (tb1 (List.mem_of_getElem? (i := 27) rfl)) rfl
theorem ql_X11_9 : Cond.classLink RX11 9 RX7 ∈ gw := tbt (tb1 (List.mem_of_getElem? (i := 30) rfl)) rfl
theorem ql_X11_15 : Cond.classLink RX11 15 RX8 ∈ gw := tbt (tb1 (List.mem_of_getElem? (i := 32) rfl)) rfl
theorem qy_X8 : Cond.instantiable RX8 3 ∈ gw := tbt (tb1 (List.mem_of_getElem? (i := 33) rfl)) rfl
theorem qc_X8_init : Cond.code yX8_init cX8_init 1 none ∈ gw := tbt (tb1 (List.mem_of_getElem? (i := 36) rfl)) rfl
theorem qi_yX8_init : Cond.instanceMethod yX8_init ∈ gw := tbt (tb1 (List.mem_of_getElem? (i := 35) rfl)) rfl
theorem ci_X8_init : CIi yX8_init cX8_init 1 0 := ⟨qc_X8_init, qi_yX8_init, qz_X8, rfl, by decide +kernel⟩
theorem ql_X11_29 : Cond.classLink RX11 29 RX4 ∈ gw := tbt (tb1 (List.mem_of_getElem? (i := 185) rfl)) rfl
theorem qy_X4 : Cond.instantiable RX4 12 ∈ gw := tbt (tb1 (List.mem_of_getElem? (i := 186) rfl)) rfl
theorem qc_X4_init : Cond.code yX4_init cX4_init 5 none ∈ gw := tbt (tb1 (List.mem_of_getElem? (i := 189) rfl)) rfl
theorem qi_yX4_init : Cond.instanceMethod yX4_init ∈ gw := tbt (tb1 (List.mem_of_getElem? (i := 188) rfl)) rfl
theorem ci_X4_init : CIi yX4_init cX4_init 5 0 := ⟨qc_X4_init, qi_yX4_init, qz_X4, rfl, by decide +kernel⟩
theorem qm_X11_31 : Cond.methodLink RX11 31 yX4_init ∈ gw := tbt (tb1 (List.mem_of_getElem? (i := 187) rfl)) rfl
theorem ql_X11_36 : Cond.classLink RX11 36 RX6 ∈ gw := tbt (tb2 (List.mem_of_getElem? (i := 46) rfl)) rfl
theorem qy_X6 : Cond.instantiable RX6 3 ∈ gw := tbt (tb2 (List.mem_of_getElem? (i := 47) rfl)) rfl
theorem qc_X6_init : Cond.code yX6_init cX6_init 2 none ∈ gw := tbt (tb2 (List.mem_of_getElem? (i := 50) rfl)) rfl
theorem qi_yX6_init : Cond.instanceMethod yX6_init ∈ gw := tbt (tb2 (List.mem_of_getElem? (i := 49) rfl)) rfl
theorem ci_X6_init : CIi yX6_init cX6_init 2 1 := ⟨qc_X6_init, qi_yX6_init, qz_X6, rfl, by decide +kernel⟩
theorem qm_X11_38 : Cond.methodLink RX11 38 yX6_init ∈ gw := tbt (tb2 (List.mem_of_getElem? (i := 48) rfl)) rfl
theorem ql_X11_45 : Cond.classLink RX11 45 RX10 ∈ gw := tbt (tb2 (List.mem_of_getElem? (i := 62) rfl)) rfl
theorem qy_X10 : Cond.instantiable RX10 5 ∈ gw := tbt (tb2 (List.mem_of_getElem? (i := 63) rfl)) rfl
theorem qc_X10_init : Cond.code yX10_init cX10_init 2 none ∈ gw := tbt (tb2 (List.mem_of_getElem? (i := 66) rfl)) rfl
theorem qi_yX10_init : Cond.instanceMethod yX10_init ∈ gw := tbt (tb2 (List.mem_of_getElem? (i := 65) rfl)) rfl
theorem ci_X10_init : CIi yX10_init cX10_init 2 1 := ⟨qc_X10_init, qi_yX10_init, qz_X10, rfl, by decide +kernel⟩
theorem qm_X11_47 : Cond.methodLink RX11 47 yX10_init ∈ gw := tbt (tb2 (List.mem_of_getElem? (i := 64) rfl)) rfl
theorem ql_X11_52 : Cond.classLink RX11 52 RX3 ∈ gw := tbt (tb2 (List.mem_of_getElem? (i := 84) rfl)) rfl
theorem qy_X3 : Cond.instantiable RX3 4 ∈ gw := tbt (tb2 (List.mem_of_getElem? (i := 85) rfl)) rfl
theorem qc_X3_init : Cond.code yX3_init cX3_init 2 none ∈ gw := tbt (tb2 (List.mem_of_getElem? (i := 88) rfl)) rfl
theorem qi_yX3_init : Cond.instanceMethod yX3_init ∈ gw := tbt (tb2 (List.mem_of_getElem? (i := 87) rfl)) rfl
theorem ci_X3_init : CIi yX3_init cX3_init 2 1 := ⟨qc_X3_init, qi_yX3_init, qz_X3, rfl, by decide +kernel⟩
theorem qm_X11_58 : Cond.methodLink RX11 58 yX3_init ∈ gw := tbt (tb2 (List.mem_of_getElem? (i := 86) rfl)) rfl
theorem ql_X11_65 : Cond.classLink RX11 65 RX2 ∈ gw := tbt (tb2 (List.mem_of_getElem? (i := 103) rfl)) rfl
theorem qy_X2 : Cond.instantiable RX2 6 ∈ gw := tbt (tb2 (List.mem_of_getElem? (i := 104) rfl)) rfl
theorem qc_X2_init : Cond.code yX2_init cX2_init 3 none ∈ gw := tbt (tb2 (List.mem_of_getElem? (i := 107) rfl)) rfl
theorem qi_yX2_init : Cond.instanceMethod yX2_init ∈ gw := tbt (tb2 (List.mem_of_getElem? (i := 106) rfl)) rfl
theorem ci_X2_init : CIi yX2_init cX2_init 3 2 := ⟨qc_X2_init, qi_yX2_init, qz_X2, rfl, by decide +kernel⟩
theorem qm_X11_67 : Cond.methodLink RX11 67 yX2_init ∈ gw := tbt (tb2 (List.mem_of_getElem? (i := 105) rfl)) rfl
theorem ql_X11_74 : Cond.classLink RX11 74 RX1 ∈ gw := tbt (tb2 (List.mem_of_getElem? (i := 132) rfl)) rfl
theorem qy_X1 : Cond.instantiable RX1 11 ∈ gw := tbt (tb2 (List.mem_of_getElem? (i := 133) rfl)) rfl
theorem qc_X1_init : Cond.code yX1_init cX1_init 4 none ∈ gw := tbt (tb2 (List.mem_of_getElem? (i := 136) rfl)) rfl
theorem qi_yX1_init : Cond.instanceMethod yX1_init ∈ gw := tbt (tb2 (List.mem_of_getElem? (i := 135) rfl)) rfl
theorem ci_X1_init : CIi yX1_init cX1_init 4 3 := ⟨qc_X1_init, qi_yX1_init, qz_X1, rfl, by decide +kernel⟩
theorem qm_X11_76 : Cond.methodLink RX11 76 yX1_init ∈ gw := tbt (tb2 (List.mem_of_getElem? (i := 134) rfl)) rfl
theorem qy_X7 : Cond.instantiable RX7 3 ∈ gw := tbt (tb2 (List.mem_of_getElem? (i := 178) rfl)) rfl
theorem qc_X7_init : Cond.code yX7_init cX7_init 1 none ∈ gw := tbt (tb2 (List.mem_of_getElem? (i := 181) rfl)) rfl
theorem qi_yX7_init : Cond.instanceMethod yX7_init ∈ gw := tbt (tb2 (List.mem_of_getElem? (i := 180) rfl)) rfl
theorem ci_X7_init : CIi yX7_init cX7_init 1 0 := ⟨qc_X7_init, qi_yX7_init, qz_X7, rfl, by decide +kernel⟩
theorem qm_X12_1 : Cond.methodLink RX12 1 objectInit ∈ gw := tbt (tb6 (List.mem_of_getElem? (i := 39) rfl)) rfl
theorem dX11_init_0 : decode cX11_init 0 = .ok (.aload_n 0, 1) := by decide +kernel
theorem dX11_init_1 : decode cX11_init 1 = .ok (.invokespecial 1, 3) := by decide +kernel
theorem dX11_init_4 : decode cX11_init 4 = .ok (.aload_n 0, 1) := by decide +kernel
theorem dX11_init_5 : decode cX11_init 5 = .ok (.iconst 4, 1) := by decide +kernel
theorem dX11_init_6 : decode cX11_init 6 = .ok (.anewarray 9, 3) := by decide +kernel
theorem dX11_init_9 : decode cX11_init 9 = .ok (.putfield 11, 3) := by decide +kernel
theorem dX11_init_12 : decode cX11_init 12 = .ok (.aload_n 0, 1) := by decide +kernel
theorem dX11_init_13 : decode cX11_init 13 = .ok (.new 15, 3) := by decide +kernel
theorem dX11_init_16 : decode cX11_init 16 = .ok (.dup, 1) := by decide +kernel
theorem dX11_init_17 : decode cX11_init 17 = .ok (.invokespecial 17, 3) := by decide +kernel
theorem dX11_init_20 : decode cX11_init 20 = .ok (.putfield 18, 3) := by decide +kernel
theorem dX11_init_23 : decode cX11_init 23 = .ok (.aload_n 0, 1) := by decide +kernel
theorem dX11_init_24 : decode cX11_init 24 = .ok (.new 15, 3) := by decide +kernel
theorem dX11_init_27 : decode cX11_init 27 = .ok (.dup, 1) := by decide +kernel
theorem dX11_init_28 : decode cX11_init 28 = .ok (.invokespecial 17, 3) := by decide +kernel
theorem dX11_init_31 : decode cX11_init 31 = .ok (.putfield 22, 3) := by decide +kernel
theorem dX11_init_34 : decode cX11_init 34 = .ok (.aload_n 0, 1) := by decide +kernel
theorem dX11_init_35 : decode cX11_init 35 = .ok (.iconst 3, 1) := by decide +kernel
theorem dX11_init_36 : decode cX11_init 36 = .ok (.anewarray 15, 3) := by decide +kernel
theorem dX11_init_39 : decode cX11_init 39 = .ok (.putfield 25, 3) := by decide +kernel
theorem dX11_init_42 : decode cX11_init 42 = .ok (.aload_n 0, 1) := by decide +kernel
theorem dX11_init_43 : decode cX11_init 43 = .ok (.new 29, 3) := by decide +kernel
theorem dX11_init_46 : decode cX11_init 46 = .ok (.dup, 1) := by decide +kernel
theorem dX11_init_47 : decode cX11_init 47 = .ok (.invokespecial 31, 3) := by decide +kernel
theorem dX11_init_50 : decode cX11_init 50 = .ok (.putfield 32, 3) := by decide +kernel
theorem dX11_init_53 : decode cX11_init 53 = .ok (.aload_n 0, 1) := by decide +kernel
theorem dX11_init_54 : decode cX11_init 54 = .ok (.new 36, 3) := by decide +kernel
theorem dX11_init_57 : decode cX11_init 57 = .ok (.dup, 1) := by decide +kernel
theorem dX11_init_58 : decode cX11_init 58 = .ok (.aload_n 0, 1) := by decide +kernel
theorem dX11_init_59 : decode cX11_init 59 = .ok (.getfield 32, 3) := by decide +kernel
theorem dX11_init_62 : decode cX11_init 62 = .ok (.invokespecial 38, 3) := by decide +kernel
theorem dX11_init_65 : decode cX11_init 65 = .ok (.putfield 41, 3) := by decide +kernel
theorem dX11_init_68 : decode cX11_init 68 = .ok (.aload_n 0, 1) := by decide +kernel
theorem dX11_init_69 : decode cX11_init 69 = .ok (.new 45, 3) := by decide +kernel
theorem dX11_init_72 : decode cX11_init 72 = .ok (.dup, 1) := by decide +kernel
theorem dX11_init_73 : decode cX11_init 73 = .ok (.aload_n 0, 1) := by decide +kernel
theorem dX11_init_74 : decode cX11_init 74 = .ok (.getfield 32, 3) := by decide +kernel
theorem dX11_init_77 : decode cX11_init 77 = .ok (.invokespecial 47, 3) := by decide +kernel
theorem dX11_init_80 : decode cX11_init 80 = .ok (.putfield 48, 3) := by decide +kernel
theorem dX11_init_83 : decode cX11_init 83 = .ok (.aload_n 0, 1) := by decide +kernel
theorem dX11_init_84 : decode cX11_init 84 = .ok (.new 52, 3) := by decide +kernel
theorem dX11_init_87 : decode cX11_init 87 = .ok (.dup, 1) := by decide +kernel
theorem dX11_init_88 : decode cX11_init 88 = .ok (.aload_n 0, 1) := by decide +kernel
theorem dX11_init_89 : decode cX11_init 89 = .ok (.getfield 18, 3) := by decide +kernel
theorem dX11_init_92 : decode cX11_init 92 = .ok (.getfield 54, 3) := by decide +kernel
theorem dX11_init_95 : decode cX11_init 95 = .ok (.invokespecial 58, 3) := by decide +kernel
theorem dX11_init_98 : decode cX11_init 98 = .ok (.putfield 61, 3) := by decide +kernel
theorem dX11_init_101 : decode cX11_init 101 = .ok (.aload_n 0, 1) := by decide +kernel
theorem dX11_init_102 : decode cX11_init 102 = .ok (.new 65, 3) := by decide +kernel
theorem dX11_init_105 : decode cX11_init 105 = .ok (.dup, 1) := by decide +kernel
theorem dX11_init_106 : decode cX11_init 106 = .ok (.aload_n 0, 1) := by decide +kernel
theorem dX11_init_107 : decode cX11_init 107 = .ok (.getfield 18, 3) := by decide +kernel
theorem dX11_init_110 : decode cX11_init 110 = .ok (.getfield 54, 3) := by decide +kernel
theorem dX11_init_113 : decode cX11_init 113 = .ok (.aload_n 0, 1) := by decide +kernel
theorem dX11_init_114 : decode cX11_init 114 = .ok (.getfield 61, 3) := by decide +kernel
theorem dX11_init_117 : decode cX11_init 117 = .ok (.invokespecial 67, 3) := by decide +kernel
theorem dX11_init_120 : decode cX11_init 120 = .ok (.putfield 70, 3) := by decide +kernel
theorem dX11_init_123 : decode cX11_init 123 = .ok (.aload_n 0, 1) := by decide +kernel
theorem dX11_init_124 : decode cX11_init 124 = .ok (.new 74, 3) := by decide +kernel
theorem dX11_init_127 : decode cX11_init 127 = .ok (.dup, 1) := by decide +kernel
theorem dX11_init_128 : decode cX11_init 128 = .ok (.aload_n 0, 1) := by decide +kernel
theorem dX11_init_129 : decode cX11_init 129 = .ok (.getfield 18, 3) := by decide +kernel
theorem dX11_init_132 : decode cX11_init 132 = .ok (.aload_n 0, 1) := by decide +kernel
theorem dX11_init_133 : decode cX11_init 133 = .ok (.getfield 61, 3) := by decide +kernel
theorem dX11_init_136 : decode cX11_init 136 = .ok (.aload_n 0, 1) := by decide +kernel
theorem dX11_init_137 : decode cX11_init 137 = .ok (.getfield 70, 3) := by decide +kernel
theorem dX11_init_140 : decode cX11_init 140 = .ok (.invokespecial 76, 3) := by decide +kernel
theorem dX11_init_143 : decode cX11_init 143 = .ok (.putfield 79, 3) := by decide +kernel
theorem dX11_init_146 : decode cX11_init 146 = .ok (.aload_n 0, 1) := by decide +kernel
theorem dX11_init_147 : decode cX11_init 147 = .ok (.iconst 5, 1) := by decide +kernel
theorem dX11_init_148 : decode cX11_init 148 = .ok (.newarray .int, 2) := by decide +kernel
theorem dX11_init_150 : decode cX11_init 150 = .ok (.putfield 83, 3) := by decide +kernel
theorem dX11_init_153 : decode cX11_init 153 = .ok (.aload_n 0, 1) := by decide +kernel
theorem dX11_init_154 : decode cX11_init 154 = .ok (.iconst 0, 1) := by decide +kernel
theorem dX11_init_155 : decode cX11_init 155 = .ok (.putfield 87, 3) := by decide +kernel
theorem dX11_init_158 : decode cX11_init 158 = .ok (.aload_n 0, 1) := by decide +kernel
theorem dX11_init_159 : decode cX11_init 159 = .ok (.lconst 0, 1) := by decide +kernel
theorem dX11_init_160 : decode cX11_init 160 = .ok (.putfield 91, 3) := by decide +kernel
theorem dX11_init_163 : decode cX11_init 163 = .ok (.aload_n 0, 1) := by decide +kernel
theorem dX11_init_164 : decode cX11_init 164 = .ok (.lconst 1, 1) := by decide +kernel
theorem dX11_init_165 : decode cX11_init 165 = .ok (.putfield 95, 3) := by decide +kernel
theorem dX11_init_168 : decode cX11_init 168 = .ok (.iconst 0, 1) := by decide +kernel
theorem dX11_init_169 : decode cX11_init 169 = .ok (.istore_n 1, 1) := by decide +kernel
theorem dX11_init_170 : decode cX11_init 170 = .ok (.iload_n 1, 1) := by decide +kernel
theorem dX11_init_171 : decode cX11_init 171 = .ok (.iconst 4, 1) := by decide +kernel
theorem dX11_init_172 : decode cX11_init 172 = .ok (.if_icmp .ge 22, 3) := by decide +kernel
theorem dX11_init_175 : decode cX11_init 175 = .ok (.aload_n 0, 1) := by decide +kernel
theorem dX11_init_176 : decode cX11_init 176 = .ok (.getfield 11, 3) := by decide +kernel
theorem dX11_init_179 : decode cX11_init 179 = .ok (.iload_n 1, 1) := by decide +kernel
theorem dX11_init_180 : decode cX11_init 180 = .ok (.new 9, 3) := by decide +kernel
theorem dX11_init_183 : decode cX11_init 183 = .ok (.dup, 1) := by decide +kernel
theorem dX11_init_184 : decode cX11_init 184 = .ok (.invokespecial 98, 3) := by decide +kernel
theorem dX11_init_187 : decode cX11_init 187 = .ok (.aastore, 1) := by decide +kernel
theorem dX11_init_188 : decode cX11_init 188 = .ok (.iinc 1 1, 3) := by decide +kernel
theorem dX11_init_191 : decode cX11_init 191 = .ok (.goto (-21), 3) := by decide +kernel
theorem dX11_init_194 : decode cX11_init 194 = .ok (.iconst 0, 1) := by decide +kernel
theorem dX11_init_195 : decode cX11_init 195 = .ok (.istore_n 1, 1) := by decide +kernel
theorem dX11_init_196 : decode cX11_init 196 = .ok (.iload_n 1, 1) := by decide +kernel
theorem dX11_init_197 : decode cX11_init 197 = .ok (.iconst 3, 1) := by decide +kernel
theorem dX11_init_198 : decode cX11_init 198 = .ok (.if_icmp .ge 22, 3) := by decide +kernel
theorem dX11_init_201 : decode cX11_init 201 = .ok (.aload_n 0, 1) := by decide +kernel
theorem dX11_init_202 : decode cX11_init 202 = .ok (.getfield 25, 3) := by decide +kernel
theorem dX11_init_205 : decode cX11_init 205 = .ok (.iload_n 1, 1) := by decide +kernel
theorem dX11_init_206 : decode cX11_init 206 = .ok (.new 15, 3) := by decide +kernel
theorem dX11_init_209 : decode cX11_init 209 = .ok (.dup, 1) := by decide +kernel
theorem dX11_init_210 : decode cX11_init 210 = .ok (.invokespecial 17, 3) := by decide +kernel
theorem dX11_init_213 : decode cX11_init 213 = .ok (.aastore, 1) := by decide +kernel
theorem dX11_init_214 : decode cX11_init 214 = .ok (.iinc 1 1, 3) := by decide +kernel
theorem dX11_init_217 : decode cX11_init 217 = .ok (.goto (-21), 3) := by decide +kernel
theorem dX11_init_220 : decode cX11_init 220 = .ok (.return_, 1) := by decide +kernel
theorem dX12_init_0 : decode cX12_init 0 = .ok (.aload_n 0, 1) := by decide +kernel
theorem dX12_init_1 : decode cX12_init 1 = .ok (.invokespecial 1, 3) := by decide +kernel
theorem dX12_init_4 : decode cX12_init 4 = .ok (.aload_n 0, 1) := by decide +kernel
theorem dX12_init_5 : decode cX12_init 5 = .ok (.sipush 5340, 3) := by decide +kernel
theorem dX12_init_8 : decode cX12_init 8 = .ok (.newarray .int, 2) := by decide +kernel
theorem dX12_init_10 : decode cX12_init 10 = .ok (.putfield 7, 3) := by decide +kernel
theorem dX12_init_13 : decode cX12_init 13 = .ok (.aload_n 0, 1) := by decide +kernel
theorem dX12_init_14 : decode cX12_init 14 = .ok (.bipush 36, 2) := by decide +kernel
theorem dX12_init_16 : decode cX12_init 16 = .ok (.newarray .long, 2) := by decide +kernel
theorem dX12_init_18 : decode cX12_init 18 = .ok (.putfield 13, 3) := by decide +kernel
theorem dX12_init_21 : decode cX12_init 21 = .ok (.aload_n 0, 1) := by decide +kernel
theorem dX12_init_22 : decode cX12_init 22 = .ok (.lconst 1, 1) := by decide +kernel
theorem dX12_init_23 : decode cX12_init 23 = .ok (.putfield 17, 3) := by decide +kernel
theorem dX12_init_26 : decode cX12_init 26 = .ok (.aload_n 0, 1) := by decide +kernel
theorem dX12_init_27 : decode cX12_init 27 = .ok (.iconst 4, 1) := by decide +kernel
theorem dX12_init_28 : decode cX12_init 28 = .ok (.newarray .int, 2) := by decide +kernel
theorem dX12_init_30 : decode cX12_init 30 = .ok (.putfield 21, 3) := by decide +kernel
theorem dX12_init_33 : decode cX12_init 33 = .ok (.aload_n 0, 1) := by decide +kernel
theorem dX12_init_34 : decode cX12_init 34 = .ok (.iconst 4, 1) := by decide +kernel
theorem dX12_init_35 : decode cX12_init 35 = .ok (.newarray .int, 2) := by decide +kernel
theorem dX12_init_37 : decode cX12_init 37 = .ok (.dup, 1) := by decide +kernel
theorem dX12_init_38 : decode cX12_init 38 = .ok (.iconst 0, 1) := by decide +kernel
theorem dX12_init_39 : decode cX12_init 39 = .ok (.iconst (-1), 1) := by decide +kernel
theorem dX12_init_40 : decode cX12_init 40 = .ok (.iastore, 1) := by decide +kernel
theorem dX12_init_41 : decode cX12_init 41 = .ok (.dup, 1) := by decide +kernel
theorem dX12_init_42 : decode cX12_init 42 = .ok (.iconst 1, 1) := by decide +kernel
theorem dX12_init_43 : decode cX12_init 43 = .ok (.iconst (-1), 1) := by decide +kernel
theorem dX12_init_44 : decode cX12_init 44 = .ok (.iastore, 1) := by decide +kernel
theorem dX12_init_45 : decode cX12_init 45 = .ok (.dup, 1) := by decide +kernel
theorem dX12_init_46 : decode cX12_init 46 = .ok (.iconst 2, 1) := by decide +kernel
theorem dX12_init_47 : decode cX12_init 47 = .ok (.iconst (-1), 1) := by decide +kernel
theorem dX12_init_48 : decode cX12_init 48 = .ok (.iastore, 1) := by decide +kernel
theorem dX12_init_49 : decode cX12_init 49 = .ok (.dup, 1) := by decide +kernel
theorem dX12_init_50 : decode cX12_init 50 = .ok (.iconst 3, 1) := by decide +kernel
theorem dX12_init_51 : decode cX12_init 51 = .ok (.iconst (-1), 1) := by decide +kernel
theorem dX12_init_52 : decode cX12_init 52 = .ok (.iastore, 1) := by decide +kernel
theorem dX12_init_53 : decode cX12_init 53 = .ok (.putfield 24, 3) := by decide +kernel
theorem dX12_init_56 : decode cX12_init 56 = .ok (.aload_n 0, 1) := by decide +kernel
theorem dX12_init_57 : decode cX12_init 57 = .ok (.sipush 240, 3) := by decide +kernel
theorem dX12_init_60 : decode cX12_init 60 = .ok (.newarray .long, 2) := by decide +kernel
theorem dX12_init_62 : decode cX12_init 62 = .ok (.putfield 27, 3) := by decide +kernel
theorem dX12_init_65 : decode cX12_init 65 = .ok (.aload_n 0, 1) := by decide +kernel
theorem dX12_init_66 : decode cX12_init 66 = .ok (.sipush 900, 3) := by decide +kernel
theorem dX12_init_69 : decode cX12_init 69 = .ok (.newarray .byte, 2) := by decide +kernel
theorem dX12_init_71 : decode cX12_init 71 = .ok (.putfield 30, 3) := by decide +kernel
theorem dX12_init_74 : decode cX12_init 74 = .ok (.aload_n 0, 1) := by decide +kernel
theorem dX12_init_75 : decode cX12_init 75 = .ok (.sipush 900, 3) := by decide +kernel
theorem dX12_init_78 : decode cX12_init 78 = .ok (.newarray .byte, 2) := by decide +kernel
theorem dX12_init_80 : decode cX12_init 80 = .ok (.putfield 34, 3) := by decide +kernel
theorem dX12_init_83 : decode cX12_init 83 = .ok (.aload_n 0, 1) := by decide +kernel
theorem dX12_init_84 : decode cX12_init 84 = .ok (.iconst (-1), 1) := by decide +kernel
theorem dX12_init_85 : decode cX12_init 85 = .ok (.putfield 37, 3) := by decide +kernel
theorem dX12_init_88 : decode cX12_init 88 = .ok (.aload_n 0, 1) := by decide +kernel
theorem dX12_init_89 : decode cX12_init 89 = .ok (.iconst (-1), 1) := by decide +kernel
theorem dX12_init_90 : decode cX12_init 90 = .ok (.putfield 41, 3) := by decide +kernel
theorem dX12_init_93 : decode cX12_init 93 = .ok (.aload_n 0, 1) := by decide +kernel
theorem dX12_init_94 : decode cX12_init 94 = .ok (.iconst 3, 1) := by decide +kernel
theorem dX12_init_95 : decode cX12_init 95 = .ok (.newarray .int, 2) := by decide +kernel
theorem dX12_init_97 : decode cX12_init 97 = .ok (.putfield 44, 3) := by decide +kernel
theorem dX12_init_100 : decode cX12_init 100 = .ok (.aload_n 0, 1) := by decide +kernel
theorem dX12_init_101 : decode cX12_init 101 = .ok (.bipush 6, 2) := by decide +kernel
theorem dX12_init_103 : decode cX12_init 103 = .ok (.newarray .int, 2) := by decide +kernel
theorem dX12_init_105 : decode cX12_init 105 = .ok (.putfield 47, 3) := by decide +kernel
theorem dX12_init_108 : decode cX12_init 108 = .ok (.aload_n 0, 1) := by decide +kernel
theorem dX12_init_109 : decode cX12_init 109 = .ok (.bipush 6, 2) := by decide +kernel
theorem dX12_init_111 : decode cX12_init 111 = .ok (.newarray .int, 2) := by decide +kernel
theorem dX12_init_113 : decode cX12_init 113 = .ok (.putfield 50, 3) := by decide +kernel
theorem dX12_init_116 : decode cX12_init 116 = .ok (.aload_n 0, 1) := by decide +kernel
theorem dX12_init_117 : decode cX12_init 117 = .ok (.bipush 6, 2) := by decide +kernel
theorem dX12_init_119 : decode cX12_init 119 = .ok (.newarray .int, 2) := by decide +kernel
theorem dX12_init_121 : decode cX12_init 121 = .ok (.putfield 53, 3) := by decide +kernel
theorem dX12_init_124 : decode cX12_init 124 = .ok (.aload_n 0, 1) := by decide +kernel
theorem dX12_init_125 : decode cX12_init 125 = .ok (.bipush 120, 2) := by decide +kernel
theorem dX12_init_127 : decode cX12_init 127 = .ok (.newarray .int, 2) := by decide +kernel
theorem dX12_init_129 : decode cX12_init 129 = .ok (.putfield 56, 3) := by decide +kernel
theorem dX12_init_132 : decode cX12_init 132 = .ok (.aload_n 0, 1) := by decide +kernel
theorem dX12_init_133 : decode cX12_init 133 = .ok (.sipush 2766, 3) := by decide +kernel
theorem dX12_init_136 : decode cX12_init 136 = .ok (.newarray .int, 2) := by decide +kernel
theorem dX12_init_138 : decode cX12_init 138 = .ok (.putfield 59, 3) := by decide +kernel
theorem dX12_init_141 : decode cX12_init 141 = .ok (.aload_n 0, 1) := by decide +kernel
theorem dX12_init_142 : decode cX12_init 142 = .ok (.bipush 80, 2) := by decide +kernel
theorem dX12_init_144 : decode cX12_init 144 = .ok (.newarray .int, 2) := by decide +kernel
theorem dX12_init_146 : decode cX12_init 146 = .ok (.putfield 62, 3) := by decide +kernel
theorem dX12_init_149 : decode cX12_init 149 = .ok (.aload_n 0, 1) := by decide +kernel
theorem dX12_init_150 : decode cX12_init 150 = .ok (.iconst 5, 1) := by decide +kernel
theorem dX12_init_151 : decode cX12_init 151 = .ok (.newarray .int, 2) := by decide +kernel
theorem dX12_init_153 : decode cX12_init 153 = .ok (.putfield 65, 3) := by decide +kernel
theorem dX12_init_156 : decode cX12_init 156 = .ok (.aload_n 0, 1) := by decide +kernel
theorem dX12_init_157 : decode cX12_init 157 = .ok (.iconst 5, 1) := by decide +kernel
theorem dX12_init_158 : decode cX12_init 158 = .ok (.newarray .int, 2) := by decide +kernel
theorem dX12_init_160 : decode cX12_init 160 = .ok (.putfield 68, 3) := by decide +kernel
theorem dX12_init_163 : decode cX12_init 163 = .ok (.aload_n 0, 1) := by decide +kernel
theorem dX12_init_164 : decode cX12_init 164 = .ok (.iconst 0, 1) := by decide +kernel
theorem dX12_init_165 : decode cX12_init 165 = .ok (.invokevirtual 71, 3) := by decide +kernel
theorem dX12_init_168 : decode cX12_init 168 = .ok (.return_, 1) := by decide +kernel
