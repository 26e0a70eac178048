theorem qm_X11_1 : Cond.methodLink RX11 1 objectInit ∈ gw := tbt (tb1 (List.mem_of_getElem? (i := 27) rfl)) rfl
theorem ql_X11_9 : Cond.classLink RX11 9 RX7 ∈ gw := tbt (tb1 (List.mem_of_getElem? (i := 30) rfl)) rfl
theorem ql_X11_15 : Cond.classLink RX11 15 RX8 ∈ gw := tbt (tb1 (List.mem_of_getElem? (i := 32) rfl)) rfl
theorem qy_X8 : Cond.instantiable RX8 3 ∈ gw := tbt (tb1 (List.mem_of_getElem? (i := 33) rfl)) rfl
theorem qc_X8_init : Cond.code yX8_init cX8_init 1 none ∈ gw := tbt (tb1 (List.mem_of_getElem? (i := 36) rfl)) rfl
theorem qi_yX8_init : Cond.instanceMethod yX8_init ∈ gw := tbt (tb1 (List.mem_of_getElem? (i := 35) rfl)) rfl
theorem ci_X8_init : CIi yX8_init cX8_init 1 0 := ⟨qc_X8_init, qi_yX8_init, qz_X8, rfl, by decide +kernel⟩
theorem ql_X11_29 : Cond.classLink RX11 29 RX4 ∈ gw := tbt (tb1 (List.mem_of_getElem? (i := 185) rfl)) rfl
theorem qy_X4 : Cond.instantiable RX4 12 ∈ gw := tbt (tb1 (List.mem_of_getElem? (i := 186) rfl)) rfl
theorem qc_X4_init : Cond.code yX4_init cX4_init 5 none ∈ gw := tbt (tb1 (List.mem_of_getElem? (i := 189) rfl)) rfl
theorem qi_yX4_init : Cond.instanceMethod yX4_init ∈ gw := tbt (tb1 (List.mem_of_getElem? (i := 188) rfl)) rfl
theorem ci_X4_init : CIi yX4_init cX4_init 5 0 := ⟨qc_X4_init, qi_yX4_init, qz_X4, rfl, by decide +kernel⟩
theorem qm_X11_31 : Cond.methodLink RX11 31 yX4_init ∈ gw := tbt (tb1 (List.mem_of_getElem? (i := 187) rfl)) rfl
theorem ql_X11_36 : Cond.classLink RX11 36 RX6 ∈ gw := tbt (tb2 (List.mem_of_getElem? (i := 46) rfl)) rfl
theorem qy_X6 : Cond.instantiable RX6 3 ∈ gw := tbt (tb2 (List.mem_of_getElem? (i := 47) rfl)) rfl
theorem qc_X6_init : Cond.code yX6_init cX6_init 2 none ∈ gw := tbt (tb2 (List.mem_of_getElem? (i := 50) rfl)) rfl
theorem qi_yX6_init : Cond.instanceMethod yX6_init ∈ gw := tbt (tb2 (List.mem_of_getElem? (i := 49) rfl)) rfl
theorem ci_X6_init : CIi yX6_init cX6_init 2 1 := ⟨qc_X6_init, qi_yX6_init, qz_X6, rfl, by decide +kernel⟩
theorem qm_X11_38 : Cond.methodLink RX11 38 yX6_init ∈ gw := tbt (tb2 (List.mem_of_getElem? (i := 48) rfl)) rfl
theorem ql_X11_45 : Cond.classLink RX11 45 RX10 ∈ gw := tbt (tb2 (List.mem_of_getElem? (i := 62) rfl)) rfl
theorem qy_X10 : Cond.instantiable RX10 5 ∈ gw := tbt (tb2 (List.mem_of_getElem? (i := 63) rfl)) rfl
theorem qc_X10_init : Cond.code yX10_init cX10_init 2 none ∈ gw := tbt (tb2 (List.mem_of_getElem? (i := 66) rfl)) rfl
theorem qi_yX10_init : Cond.instanceMethod yX10_init ∈ gw := tbt (tb2 (List.mem_of_getElem? (i := 65) rfl)) rfl
theorem ci_X10_init : CIi yX10_init cX10_init 2 1 := ⟨qc_X10_init, qi_yX10_init, qz_X10, rfl, by decide +kernel⟩
theorem qm_X11_47 : Cond.methodLink RX11 47 yX10_init ∈ gw := tbt (tb2 (List.mem_of_getElem? (i := 64) rfl)) rfl
theorem ql_X11_52 : Cond.classLink RX11 52 RX3 ∈ gw := tbt (tb2 (List.mem_of_getElem? (i := 84) rfl)) rfl
theorem qy_X3 : Cond.instantiable RX3 4 ∈ gw := tbt (tb2 (List.mem_of_getElem? (i := 85) rfl)) rfl
theorem qc_X3_init : Cond.code yX3_init cX3_init 2 none ∈ gw := tbt (tb2 (List.mem_of_getElem? (i := 88) rfl)) rfl
theorem qi_yX3_init : Cond.instanceMethod yX3_init ∈ gw := tbt (tb2 (List.mem_of_getElem? (i := 87) rfl)) rfl
theorem ci_X3_init : CIi yX3_init cX3_init 2 1 := ⟨qc_X3_init, qi_yX3_init, qz_X3, rfl, by decide +kernel⟩
theorem qm_X11_58 : Cond.methodLink RX11 58 yX3_init ∈ gw := tbt (tb2 (List.mem_of_getElem? (i := 86) rfl)) rfl
theorem ql_X11_65 : Cond.classLink RX11 65 RX2 ∈ gw := tbt (tb2 (List.mem_of_getElem? (i := 103) rfl)) rfl
theorem qy_X2 : Cond.instantiable RX2 6 ∈ gw := tbt (tb2 (List.mem_of_getElem? (i := 104) rfl)) rfl
theorem qc_X2_init : Cond.code yX2_init cX2_init 3 none ∈ gw := tbt (tb2 (List.mem_of_getElem? (i := 107) rfl)) rfl
theorem qi_yX2_init : Cond.instanceMethod yX2_init ∈ gw := tbt (tb2 (List.mem_of_getElem? (i := 106) rfl)) rfl
theorem ci_X2_init : CIi yX2_init cX2_init 3 2 := ⟨qc_X2_init, qi_yX2_init, qz_X2, rfl, by decide +kernel⟩
theorem qm_X11_67 : Cond.methodLink RX11 67 yX2_init ∈ gw := tbt (tb2 (List.mem_of_getElem? (i := 105) rfl)) rfl
theorem ql_X11_74 : Cond.classLink RX11 74 RX1 ∈ gw := tbt (tb2 (List.mem_of_getElem? (i := 132) rfl)) rfl
theorem qy_X1 : Cond.instantiable RX1 11 ∈ gw := tbt (tb2 (List.mem_of_getElem? (i := 133) rfl)) rfl
theorem qc_X1_init : Cond.code yX1_init cX1_init 4 none ∈ gw := tbt (tb2 (List.mem_of_getElem? (i := 136) rfl)) rfl
theorem qi_yX1_init : Cond.instanceMethod yX1_init ∈ gw := tbt (tb2 (List.mem_of_getElem? (i := 135) rfl)) rfl
theorem ci_X1_init : CIi yX1_init cX1_init 4 3 := ⟨qc_X1_init, qi_yX1_init, qz_X1, rfl, by decide +kernel⟩
theorem qm_X11_76 : Cond.methodLink RX11 76 yX1_init ∈ gw := tbt (tb2 (List.mem_of_getElem? (i := 134) rfl)) rfl
theorem qy_X7 : Cond.instantiable RX7 3 ∈ gw := tbt (tb2 (List.mem_of_getElem? (i := 178) rfl)) rfl
theorem qc_X7_init : Cond.code yX7_init cX7_init 1 none ∈ gw := tbt (tb2 (List.mem_of_getElem? (i := 181) rfl)) rfl
theorem qi_yX7_init : Cond.instanceMethod yX7_init ∈ gw := tbt (tb2 (List.mem_of_getElem? (i := 180) rfl)) rfl
theorem ci_X7_init : CIi yX7_init cX7_init 1 0 := ⟨qc_X7_init, qi_yX7_init, qz_X7, rfl, by decide +kernel⟩
theorem qm_X12_1 : Cond.methodLink RX12 1 objectInit ∈ gw := tbt (tb6 (List.mem_of_getElem? (i := 39) rfl)) rfl
def fb_X11_init_0 : List UInt8 := [0x2a, 0xb7, 0x00, 0x01, 0x2a, 0x07, 0xbd, 0x00, 0x09, 0xb5, 0x00, 0x0b, 0x2a, 0xbb, 0x00, 0x0f, 0x59, 0xb7, 0x00, 0x11, 0xb5, 0x00, 0x12, 0x2a, 0xbb, 0x00, 0x0f, 0x59, 0xb7, 0x00, 0x11, 0xb5, 0x00, 0x16, 0x2a, 0x06, 0xbd, 0x00, 0x0f, 0xb5, 0x00, 0x19, 0x2a, 0xbb, 0x00, 0x1d, 0x59, 0xb7, 0x00, 0x1f, 0xb5, 0x00, 0x20, 0x2a, 0xbb, 0x00, 0x24, 0x59, 0x2a, 0xb4, 0x00, 0x20, 0xb7, 0x00]
theorem fl_X11_init_0 {p j : Nat} {b : UInt8} (e : p = 0 + j) (h : fb_X11_init_0[j]? = some b) : cX11_init.data.toList[p]? = some b := fq_l (n := 64) (show (cX11_init.data.toList.drop 0).take 64 = fb_X11_init_0 by decide +kernel) e h
theorem dX11_init_0 : decode cX11_init 0 = .ok (.aload_n 0, 1) := fq1_42 (fl_X11_init_0 (j := 0) rfl rfl)
theorem dX11_init_1 : decode cX11_init 1 = .ok (.invokespecial 1, 3) := fq3_183 (fl_X11_init_0 (j := 1) rfl rfl) (fl_X11_init_0 (j := 2) rfl rfl) (fl_X11_init_0 (j := 3) rfl rfl) (by decide)
theorem dX11_init_4 : decode cX11_init 4 = .ok (.aload_n 0, 1) := fq1_42 (fl_X11_init_0 (j := 4) rfl rfl)
theorem dX11_init_5 : decode cX11_init 5 = .ok (.iconst 4, 1) := fq1_7 (fl_X11_init_0 (j := 5) rfl rfl)
theorem dX11_init_6 : decode cX11_init 6 = .ok (.anewarray 9, 3) := fq3_189 (fl_X11_init_0 (j := 6) rfl rfl) (fl_X11_init_0 (j := 7) rfl rfl) (fl_X11_init_0 (j := 8) rfl rfl) (by decide)
theorem dX11_init_9 : decode cX11_init 9 = .ok (.putfield 11, 3) := fq3_181 (fl_X11_init_0 (j := 9) rfl rfl) (fl_X11_init_0 (j := 10) rfl rfl) (fl_X11_init_0 (j := 11) rfl rfl) (by decide)
theorem dX11_init_12 : decode cX11_init 12 = .ok (.aload_n 0, 1) := fq1_42 (fl_X11_init_0 (j := 12) rfl rfl)
theorem dX11_init_13 : decode cX11_init 13 = .ok (.new 15, 3) := fq3_187 (fl_X11_init_0 (j := 13) rfl rfl) (fl_X11_init_0 (j := 14) rfl rfl) (fl_X11_init_0 (j := 15) rfl rfl) (by decide)
theorem dX11_init_16 : decode cX11_init 16 = .ok (.dup, 1) := fq1_89 (fl_X11_init_0 (j := 16) rfl rfl)
theorem dX11_init_17 : decode cX11_init 17 = .ok (.invokespecial 17, 3) := fq3_183 (fl_X11_init_0 (j := 17) rfl rfl) (fl_X11_init_0 (j := 18) rfl rfl) (fl_X11_init_0 (j := 19) rfl rfl) (by decide)
theorem dX11_init_20 : decode cX11_init 20 = .ok (.putfield 18, 3) := fq3_181 (fl_X11_init_0 (j := 20) rfl rfl) (fl_X11_init_0 (j := 21) rfl rfl) (fl_X11_init_0 (j := 22) rfl rfl) (by decide)
theorem dX11_init_23 : decode cX11_init 23 = .ok (.aload_n 0, 1) := fq1_42 (fl_X11_init_0 (j := 23) rfl rfl)
theorem dX11_init_24 : decode cX11_init 24 = .ok (.new 15, 3) := fq3_187 (fl_X11_init_0 (j := 24) rfl rfl) (fl_X11_init_0 (j := 25) rfl rfl) (fl_X11_init_0 (j := 26) rfl rfl) (by decide)
theorem dX11_init_27 : decode cX11_init 27 = .ok (.dup, 1) := fq1_89 (fl_X11_init_0 (j := 27) rfl rfl)
theorem dX11_init_28 : decode cX11_init 28 = .ok (.invokespecial 17, 3) := fq3_183 (fl_X11_init_0 (j := 28) rfl rfl) (fl_X11_init_0 (j := 29) rfl rfl) (fl_X11_init_0 (j := 30) rfl rfl) (by decide)
theorem dX11_init_31 : decode cX11_init 31 = .ok (.putfield 22, 3) := fq3_181 (fl_X11_init_0 (j := 31) rfl rfl) (fl_X11_init_0 (j := 32) rfl rfl) (fl_X11_init_0 (j := 33) rfl rfl) (by decide)
theorem dX11_init_34 : decode cX11_init 34 = .ok (.aload_n 0, 1) := fq1_42 (fl_X11_init_0 (j := 34) rfl rfl)
theorem dX11_init_35 : decode cX11_init 35 = .ok (.iconst 3, 1) := fq1_6 (fl_X11_init_0 (j := 35) rfl rfl)
theorem dX11_init_36 : decode cX11_init 36 = .ok (.anewarray 15, 3) := fq3_189 (fl_X11_init_0 (j := 36) rfl rfl) (fl_X11_init_0 (j := 37) rfl rfl) (fl_X11_init_0 (j := 38) rfl rfl) (by decide)
theorem dX11_init_39 : decode cX11_init 39 = .ok (.putfield 25, 3) := fq3_181 (fl_X11_init_0 (j := 39) rfl rfl) (fl_X11_init_0 (j := 40) rfl rfl) (fl_X11_init_0 (j := 41) rfl rfl) (by decide)
theorem dX11_init_42 : decode cX11_init 42 = .ok (.aload_n 0, 1) := fq1_42 (fl_X11_init_0 (j := 42) rfl rfl)
theorem dX11_init_43 : decode cX11_init 43 = .ok (.new 29, 3) := fq3_187 (fl_X11_init_0 (j := 43) rfl rfl) (fl_X11_init_0 (j := 44) rfl rfl) (fl_X11_init_0 (j := 45) rfl rfl) (by decide)
theorem dX11_init_46 : decode cX11_init 46 = .ok (.dup, 1) := fq1_89 (fl_X11_init_0 (j := 46) rfl rfl)
theorem dX11_init_47 : decode cX11_init 47 = .ok (.invokespecial 31, 3) := fq3_183 (fl_X11_init_0 (j := 47) rfl rfl) (fl_X11_init_0 (j := 48) rfl rfl) (fl_X11_init_0 (j := 49) rfl rfl) (by decide)
theorem dX11_init_50 : decode cX11_init 50 = .ok (.putfield 32, 3) := fq3_181 (fl_X11_init_0 (j := 50) rfl rfl) (fl_X11_init_0 (j := 51) rfl rfl) (fl_X11_init_0 (j := 52) rfl rfl) (by decide)
theorem dX11_init_53 : decode cX11_init 53 = .ok (.aload_n 0, 1) := fq1_42 (fl_X11_init_0 (j := 53) rfl rfl)
theorem dX11_init_54 : decode cX11_init 54 = .ok (.new 36, 3) := fq3_187 (fl_X11_init_0 (j := 54) rfl rfl) (fl_X11_init_0 (j := 55) rfl rfl) (fl_X11_init_0 (j := 56) rfl rfl) (by decide)
theorem dX11_init_57 : decode cX11_init 57 = .ok (.dup, 1) := fq1_89 (fl_X11_init_0 (j := 57) rfl rfl)
theorem dX11_init_58 : decode cX11_init 58 = .ok (.aload_n 0, 1) := fq1_42 (fl_X11_init_0 (j := 58) rfl rfl)
theorem dX11_init_59 : decode cX11_init 59 = .ok (.getfield 32, 3) := fq3_180 (fl_X11_init_0 (j := 59) rfl rfl) (fl_X11_init_0 (j := 60) rfl rfl) (fl_X11_init_0 (j := 61) rfl rfl) (by decide)
def fb_X11_init_1 : List UInt8 := [0x26, 0xb5, 0x00, 0x29, 0x2a, 0xbb, 0x00, 0x2d, 0x59, 0x2a, 0xb4, 0x00, 0x20, 0xb7, 0x00, 0x2f, 0xb5, 0x00, 0x30, 0x2a, 0xbb, 0x00, 0x34, 0x59, 0x2a, 0xb4, 0x00, 0x12, 0xb4, 0x00, 0x36, 0xb7, 0x00, 0x3a, 0xb5, 0x00, 0x3d, 0x2a, 0xbb, 0x00, 0x41, 0x59, 0x2a, 0xb4, 0x00, 0x12, 0xb4, 0x00, 0x36, 0x2a, 0xb4, 0x00, 0x3d, 0xb7, 0x00, 0x43, 0xb5, 0x00, 0x46, 0x2a, 0xbb, 0x00, 0x4a, 0x59]
theorem fl_X11_init_1 {p j : Nat} {b : UInt8} (e : p = 64 + j) (h : fb_X11_init_1[j]? = some b) : cX11_init.data.toList[p]? = some b := fq_l (n := 64) (show (cX11_init.data.toList.drop 64).take 64 = fb_X11_init_1 by decide +kernel) e h
theorem dX11_init_62 : decode cX11_init 62 = .ok (.invokespecial 38, 3) := fq3_183 (fl_X11_init_0 (j := 62) rfl rfl) (fl_X11_init_0 (j := 63) rfl rfl) (fl_X11_init_1 (j := 0) rfl rfl) (by decide)
theorem dX11_init_65 : decode cX11_init 65 = .ok (.putfield 41, 3) := fq3_181 (fl_X11_init_1 (j := 1) rfl rfl) (fl_X11_init_1 (j := 2) rfl rfl) (fl_X11_init_1 (j := 3) rfl rfl) (by decide)
theorem dX11_init_68 : decode cX11_init 68 = .ok (.aload_n 0, 1) := fq1_42 (fl_X11_init_1 (j := 4) rfl rfl)
theorem dX11_init_69 : decode cX11_init 69 = .ok (.new 45, 3) := fq3_187 (fl_X11_init_1 (j := 5) rfl rfl) (fl_X11_init_1 (j := 6) rfl rfl) (fl_X11_init_1 (j := 7) rfl rfl) (by decide)
theorem dX11_init_72 : decode cX11_init 72 = .ok (.dup, 1) := fq1_89 (fl_X11_init_1 (j := 8) rfl rfl)
theorem dX11_init_73 : decode cX11_init 73 = .ok (.aload_n 0, 1) := fq1_42 (fl_X11_init_1 (j := 9) rfl rfl)
theorem dX11_init_74 : decode cX11_init 74 = .ok (.getfield 32, 3) := fq3_180 (fl_X11_init_1 (j := 10) rfl rfl) (fl_X11_init_1 (j := 11) rfl rfl) (fl_X11_init_1 (j := 12) rfl rfl) (by decide)
theorem dX11_init_77 : decode cX11_init 77 = .ok (.invokespecial 47, 3) := fq3_183 (fl_X11_init_1 (j := 13) rfl rfl) (fl_X11_init_1 (j := 14) rfl rfl) (fl_X11_init_1 (j := 15) rfl rfl) (by decide)
theorem dX11_init_80 : decode cX11_init 80 = .ok (.putfield 48, 3) := fq3_181 (fl_X11_init_1 (j := 16) rfl rfl) (fl_X11_init_1 (j := 17) rfl rfl) (fl_X11_init_1 (j := 18) rfl rfl) (by decide)
theorem dX11_init_83 : decode cX11_init 83 = .ok (.aload_n 0, 1) := fq1_42 (fl_X11_init_1 (j := 19) rfl rfl)
theorem dX11_init_84 : decode cX11_init 84 = .ok (.new 52, 3) := fq3_187 (fl_X11_init_1 (j := 20) rfl rfl) (fl_X11_init_1 (j := 21) rfl rfl) (fl_X11_init_1 (j := 22) rfl rfl) (by decide)
theorem dX11_init_87 : decode cX11_init 87 = .ok (.dup, 1) := fq1_89 (fl_X11_init_1 (j := 23) rfl rfl)
theorem dX11_init_88 : decode cX11_init 88 = .ok (.aload_n 0, 1) := fq1_42 (fl_X11_init_1 (j := 24) rfl rfl)
theorem dX11_init_89 : decode cX11_init 89 = .ok (.getfield 18, 3) := fq3_180 (fl_X11_init_1 (j := 25) rfl rfl) (fl_X11_init_1 (j := 26) rfl rfl) (fl_X11_init_1 (j := 27) rfl rfl) (by decide)
theorem dX11_init_92 : decode cX11_init 92 = .ok (.getfield 54, 3) := fq3_180 (fl_X11_init_1 (j := 28) rfl rfl) (fl_X11_init_1 (j := 29) rfl rfl) (fl_X11_init_1 (j := 30) rfl rfl) (by decide)
theorem dX11_init_95 : decode cX11_init 95 = .ok (.invokespecial 58, 3) := fq3_183 (fl_X11_init_1 (j := 31) rfl rfl) (fl_X11_init_1 (j := 32) rfl rfl) (fl_X11_init_1 (j := 33) rfl rfl) (by decide)
theorem dX11_init_98 : decode cX11_init 98 = .ok (.putfield 61, 3) := fq3_181 (fl_X11_init_1 (j := 34) rfl rfl) (fl_X11_init_1 (j := 35) rfl rfl) (fl_X11_init_1 (j := 36) rfl rfl) (by decide)
theorem dX11_init_101 : decode cX11_init 101 = .ok (.aload_n 0, 1) := fq1_42 (fl_X11_init_1 (j := 37) rfl rfl)
theorem dX11_init_102 : decode cX11_init 102 = .ok (.new 65, 3) := fq3_187 (fl_X11_init_1 (j := 38) rfl rfl) (fl_X11_init_1 (j := 39) rfl rfl) (fl_X11_init_1 (j := 40) rfl rfl) (by decide)
theorem dX11_init_105 : decode cX11_init 105 = .ok (.dup, 1) := fq1_89 (fl_X11_init_1 (j := 41) rfl rfl)
theorem dX11_init_106 : decode cX11_init 106 = .ok (.aload_n 0, 1) := fq1_42 (fl_X11_init_1 (j := 42) rfl rfl)
theorem dX11_init_107 : decode cX11_init 107 = .ok (.getfield 18, 3) := fq3_180 (fl_X11_init_1 (j := 43) rfl rfl) (fl_X11_init_1 (j := 44) rfl rfl) (fl_X11_init_1 (j := 45) rfl rfl) (by decide)
theorem dX11_init_110 : decode cX11_init 110 = .ok (.getfield 54, 3) := fq3_180 (fl_X11_init_1 (j := 46) rfl rfl) (fl_X11_init_1 (j := 47) rfl rfl) (fl_X11_init_1 (j := 48) rfl rfl) (by decide)
theorem dX11_init_113 : decode cX11_init 113 = .ok (.aload_n 0, 1) := fq1_42 (fl_X11_init_1 (j := 49) rfl rfl)
theorem dX11_init_114 : decode cX11_init 114 = .ok (.getfield 61, 3) := fq3_180 (fl_X11_init_1 (j := 50) rfl rfl) (fl_X11_init_1 (j := 51) rfl rfl) (fl_X11_init_1 (j := 52) rfl rfl) (by decide)
theorem dX11_init_117 : decode cX11_init 117 = .ok (.invokespecial 67, 3) := fq3_183 (fl_X11_init_1 (j := 53) rfl rfl) (fl_X11_init_1 (j := 54) rfl rfl) (fl_X11_init_1 (j := 55) rfl rfl) (by decide)
theorem dX11_init_120 : decode cX11_init 120 = .ok (.putfield 70, 3) := fq3_181 (fl_X11_init_1 (j := 56) rfl rfl) (fl_X11_init_1 (j := 57) rfl rfl) (fl_X11_init_1 (j := 58) rfl rfl) (by decide)
theorem dX11_init_123 : decode cX11_init 123 = .ok (.aload_n 0, 1) := fq1_42 (fl_X11_init_1 (j := 59) rfl rfl)
theorem dX11_init_124 : decode cX11_init 124 = .ok (.new 74, 3) := fq3_187 (fl_X11_init_1 (j := 60) rfl rfl) (fl_X11_init_1 (j := 61) rfl rfl) (fl_X11_init_1 (j := 62) rfl rfl) (by decide)
theorem dX11_init_127 : decode cX11_init 127 = .ok (.dup, 1) := fq1_89 (fl_X11_init_1 (j := 63) rfl rfl)
def fb_X11_init_2 : List UInt8 := [0x2a, 0xb4, 0x00, 0x12, 0x2a, 0xb4, 0x00, 0x3d, 0x2a, 0xb4, 0x00, 0x46, 0xb7, 0x00, 0x4c, 0xb5, 0x00, 0x4f, 0x2a, 0x08, 0xbc, 0x0a, 0xb5, 0x00, 0x53, 0x2a, 0x03, 0xb5, 0x00, 0x57, 0x2a, 0x09, 0xb5, 0x00, 0x5b, 0x2a, 0x0a, 0xb5, 0x00, 0x5f, 0x03, 0x3c, 0x1b, 0x07, 0xa2, 0x00, 0x16, 0x2a, 0xb4, 0x00, 0x0b, 0x1b, 0xbb, 0x00, 0x09, 0x59, 0xb7, 0x00, 0x62, 0x53, 0x84, 0x01, 0x01, 0xa7]
theorem fl_X11_init_2 {p j : Nat} {b : UInt8} (e : p = 128 + j) (h : fb_X11_init_2[j]? = some b) : cX11_init.data.toList[p]? = some b := fq_l (n := 64) (show (cX11_init.data.toList.drop 128).take 64 = fb_X11_init_2 by decide +kernel) e h
theorem dX11_init_128 : decode cX11_init 128 = .ok (.aload_n 0, 1) := fq1_42 (fl_X11_init_2 (j := 0) rfl rfl)
theorem dX11_init_129 : decode cX11_init 129 = .ok (.getfield 18, 3) := fq3_180 (fl_X11_init_2 (j := 1) rfl rfl) (fl_X11_init_2 (j := 2) rfl rfl) (fl_X11_init_2 (j := 3) rfl rfl) (by decide)
theorem dX11_init_132 : decode cX11_init 132 = .ok (.aload_n 0, 1) := fq1_42 (fl_X11_init_2 (j := 4) rfl rfl)
theorem dX11_init_133 : decode cX11_init 133 = .ok (.getfield 61, 3) := fq3_180 (fl_X11_init_2 (j := 5) rfl rfl) (fl_X11_init_2 (j := 6) rfl rfl) (fl_X11_init_2 (j := 7) rfl rfl) (by decide)
theorem dX11_init_136 : decode cX11_init 136 = .ok (.aload_n 0, 1) := fq1_42 (fl_X11_init_2 (j := 8) rfl rfl)
theorem dX11_init_137 : decode cX11_init 137 = .ok (.getfield 70, 3) := fq3_180 (fl_X11_init_2 (j := 9) rfl rfl) (fl_X11_init_2 (j := 10) rfl rfl) (fl_X11_init_2 (j := 11) rfl rfl) (by decide)
theorem dX11_init_140 : decode cX11_init 140 = .ok (.invokespecial 76, 3) := fq3_183 (fl_X11_init_2 (j := 12) rfl rfl) (fl_X11_init_2 (j := 13) rfl rfl) (fl_X11_init_2 (j := 14) rfl rfl) (by decide)
theorem dX11_init_143 : decode cX11_init 143 = .ok (.putfield 79, 3) := fq3_181 (fl_X11_init_2 (j := 15) rfl rfl) (fl_X11_init_2 (j := 16) rfl rfl) (fl_X11_init_2 (j := 17) rfl rfl) (by decide)
theorem dX11_init_146 : decode cX11_init 146 = .ok (.aload_n 0, 1) := fq1_42 (fl_X11_init_2 (j := 18) rfl rfl)
theorem dX11_init_147 : decode cX11_init 147 = .ok (.iconst 5, 1) := fq1_8 (fl_X11_init_2 (j := 19) rfl rfl)
theorem dX11_init_148 : decode cX11_init 148 = .ok (.newarray .int, 2) := by decide +kernel
theorem dX11_init_150 : decode cX11_init 150 = .ok (.putfield 83, 3) := fq3_181 (fl_X11_init_2 (j := 22) rfl rfl) (fl_X11_init_2 (j := 23) rfl rfl) (fl_X11_init_2 (j := 24) rfl rfl) (by decide)
theorem dX11_init_153 : decode cX11_init 153 = .ok (.aload_n 0, 1) := fq1_42 (fl_X11_init_2 (j := 25) rfl rfl)
theorem dX11_init_154 : decode cX11_init 154 = .ok (.iconst 0, 1) := fq1_3 (fl_X11_init_2 (j := 26) rfl rfl)
theorem dX11_init_155 : decode cX11_init 155 = .ok (.putfield 87, 3) := fq3_181 (fl_X11_init_2 (j := 27) rfl rfl) (fl_X11_init_2 (j := 28) rfl rfl) (fl_X11_init_2 (j := 29) rfl rfl) (by decide)
theorem dX11_init_158 : decode cX11_init 158 = .ok (.aload_n 0, 1) := fq1_42 (fl_X11_init_2 (j := 30) rfl rfl)
theorem dX11_init_159 : decode cX11_init 159 = .ok (.lconst 0, 1) := fq1_9 (fl_X11_init_2 (j := 31) rfl rfl)
theorem dX11_init_160 : decode cX11_init 160 = .ok (.putfield 91, 3) := fq3_181 (fl_X11_init_2 (j := 32) rfl rfl) (fl_X11_init_2 (j := 33) rfl rfl) (fl_X11_init_2 (j := 34) rfl rfl) (by decide)
theorem dX11_init_163 : decode cX11_init 163 = .ok (.aload_n 0, 1) := fq1_42 (fl_X11_init_2 (j := 35) rfl rfl)
theorem dX11_init_164 : decode cX11_init 164 = .ok (.lconst 1, 1) := fq1_10 (fl_X11_init_2 (j := 36) rfl rfl)
theorem dX11_init_165 : decode cX11_init 165 = .ok (.putfield 95, 3) := fq3_181 (fl_X11_init_2 (j := 37) rfl rfl) (fl_X11_init_2 (j := 38) rfl rfl) (fl_X11_init_2 (j := 39) rfl rfl) (by decide)
theorem dX11_init_168 : decode cX11_init 168 = .ok (.iconst 0, 1) := fq1_3 (fl_X11_init_2 (j := 40) rfl rfl)
theorem dX11_init_169 : decode cX11_init 169 = .ok (.istore_n 1, 1) := fq1_60 (fl_X11_init_2 (j := 41) rfl rfl)
theorem dX11_init_170 : decode cX11_init 170 = .ok (.iload_n 1, 1) := fq1_27 (fl_X11_init_2 (j := 42) rfl rfl)
theorem dX11_init_171 : decode cX11_init 171 = .ok (.iconst 4, 1) := fq1_7 (fl_X11_init_2 (j := 43) rfl rfl)
theorem dX11_init_172 : decode cX11_init 172 = .ok (.if_icmp .ge 22, 3) := fq3_162 (fl_X11_init_2 (j := 44) rfl rfl) (fl_X11_init_2 (j := 45) rfl rfl) (fl_X11_init_2 (j := 46) rfl rfl) (by decide)
theorem dX11_init_175 : decode cX11_init 175 = .ok (.aload_n 0, 1) := fq1_42 (fl_X11_init_2 (j := 47) rfl rfl)
theorem dX11_init_176 : decode cX11_init 176 = .ok (.getfield 11, 3) := fq3_180 (fl_X11_init_2 (j := 48) rfl rfl) (fl_X11_init_2 (j := 49) rfl rfl) (fl_X11_init_2 (j := 50) rfl rfl) (by decide)
theorem dX11_init_179 : decode cX11_init 179 = .ok (.iload_n 1, 1) := fq1_27 (fl_X11_init_2 (j := 51) rfl rfl)
theorem dX11_init_180 : decode cX11_init 180 = .ok (.new 9, 3) := fq3_187 (fl_X11_init_2 (j := 52) rfl rfl) (fl_X11_init_2 (j := 53) rfl rfl) (fl_X11_init_2 (j := 54) rfl rfl) (by decide)
theorem dX11_init_183 : decode cX11_init 183 = .ok (.dup, 1) := fq1_89 (fl_X11_init_2 (j := 55) rfl rfl)
theorem dX11_init_184 : decode cX11_init 184 = .ok (.invokespecial 98, 3) := fq3_183 (fl_X11_init_2 (j := 56) rfl rfl) (fl_X11_init_2 (j := 57) rfl rfl) (fl_X11_init_2 (j := 58) rfl rfl) (by decide)
theorem dX11_init_187 : decode cX11_init 187 = .ok (.aastore, 1) := fq1_83 (fl_X11_init_2 (j := 59) rfl rfl)
theorem dX11_init_188 : decode cX11_init 188 = .ok (.iinc 1 1, 3) := fq3_132 (fl_X11_init_2 (j := 60) rfl rfl) (fl_X11_init_2 (j := 61) rfl rfl) (fl_X11_init_2 (j := 62) rfl rfl) (by decide) (by decide)
def fb_X11_init_3 : List UInt8 := [0xff, 0xeb, 0x03, 0x3c, 0x1b, 0x06, 0xa2, 0x00, 0x16, 0x2a, 0xb4, 0x00, 0x19, 0x1b, 0xbb, 0x00, 0x0f, 0x59, 0xb7, 0x00, 0x11, 0x53, 0x84, 0x01, 0x01, 0xa7, 0xff, 0xeb, 0xb1]
theorem fl_X11_init_3 {p j : Nat} {b : UInt8} (e : p = 192 + j) (h : fb_X11_init_3[j]? = some b) : cX11_init.data.toList[p]? = some b := fq_l (n := 64) (show (cX11_init.data.toList.drop 192).take 64 = fb_X11_init_3 by decide +kernel) e h
theorem dX11_init_191 : decode cX11_init 191 = .ok (.goto (-21), 3) := fq3_167 (fl_X11_init_2 (j := 63) rfl rfl) (fl_X11_init_3 (j := 0) rfl rfl) (fl_X11_init_3 (j := 1) rfl rfl) (by decide)
theorem dX11_init_194 : decode cX11_init 194 = .ok (.iconst 0, 1) := fq1_3 (fl_X11_init_3 (j := 2) rfl rfl)
theorem dX11_init_195 : decode cX11_init 195 = .ok (.istore_n 1, 1) := fq1_60 (fl_X11_init_3 (j := 3) rfl rfl)
theorem dX11_init_196 : decode cX11_init 196 = .ok (.iload_n 1, 1) := fq1_27 (fl_X11_init_3 (j := 4) rfl rfl)
theorem dX11_init_197 : decode cX11_init 197 = .ok (.iconst 3, 1) := fq1_6 (fl_X11_init_3 (j := 5) rfl rfl)
theorem dX11_init_198 : decode cX11_init 198 = .ok (.if_icmp .ge 22, 3) := fq3_162 (fl_X11_init_3 (j := 6) rfl rfl) (fl_X11_init_3 (j := 7) rfl rfl) (fl_X11_init_3 (j := 8) rfl rfl) (by decide)
theorem dX11_init_201 : decode cX11_init 201 = .ok (.aload_n 0, 1) := fq1_42 (fl_X11_init_3 (j := 9) rfl rfl)
theorem dX11_init_202 : decode cX11_init 202 = .ok (.getfield 25, 3) := fq3_180 (fl_X11_init_3 (j := 10) rfl rfl) (fl_X11_init_3 (j := 11) rfl rfl) (fl_X11_init_3 (j := 12) rfl rfl) (by decide)
theorem dX11_init_205 : decode cX11_init 205 = .ok (.iload_n 1, 1) := fq1_27 (fl_X11_init_3 (j := 13) rfl rfl)
theorem dX11_init_206 : decode cX11_init 206 = .ok (.new 15, 3) := fq3_187 (fl_X11_init_3 (j := 14) rfl rfl) (fl_X11_init_3 (j := 15) rfl rfl) (fl_X11_init_3 (j := 16) rfl rfl) (by decide)
theorem dX11_init_209 : decode cX11_init 209 = .ok (.dup, 1) := fq1_89 (fl_X11_init_3 (j := 17) rfl rfl)
theorem dX11_init_210 : decode cX11_init 210 = .ok (.invokespecial 17, 3) := fq3_183 (fl_X11_init_3 (j := 18) rfl rfl) (fl_X11_init_3 (j := 19) rfl rfl) (fl_X11_init_3 (j := 20) rfl rfl) (by decide)
theorem dX11_init_213 : decode cX11_init 213 = .ok (.aastore, 1) := fq1_83 (fl_X11_init_3 (j := 21) rfl rfl)
theorem dX11_init_214 : decode cX11_init 214 = .ok (.iinc 1 1, 3) := fq3_132 (fl_X11_init_3 (j := 22) rfl rfl) (fl_X11_init_3 (j := 23) rfl rfl) (fl_X11_init_3 (j := 24) rfl rfl) (by decide) (by decide)
theorem dX11_init_217 : decode cX11_init 217 = .ok (.goto (-21), 3) := fq3_167 (fl_X11_init_3 (j := 25) rfl rfl) (fl_X11_init_3 (j := 26) rfl rfl) (fl_X11_init_3 (j := 27) rfl rfl) (by decide)
theorem dX11_init_220 : decode cX11_init 220 = .ok (.return_, 1) := fq1_177 (fl_X11_init_3 (j := 28) rfl rfl)
def fb_X12_init_0 : List UInt8 := [0x2a, 0xb7, 0x00, 0x01, 0x2a, 0x11, 0x14, 0xdc, 0xbc, 0x0a, 0xb5, 0x00, 0x07, 0x2a, 0x10, 0x24, 0xbc, 0x0b, 0xb5, 0x00, 0x0d, 0x2a, 0x0a, 0xb5, 0x00, 0x11, 0x2a, 0x07, 0xbc, 0x0a, 0xb5, 0x00, 0x15, 0x2a, 0x07, 0xbc, 0x0a, 0x59, 0x03, 0x02, 0x4f, 0x59, 0x04, 0x02, 0x4f, 0x59, 0x05, 0x02, 0x4f, 0x59, 0x06, 0x02, 0x4f, 0xb5, 0x00, 0x18, 0x2a, 0x11, 0x00, 0xf0, 0xbc, 0x0b, 0xb5, 0x00]
theorem fl_X12_init_0 {p j : Nat} {b : UInt8} (e : p = 0 + j) (h : fb_X12_init_0[j]? = some b) : cX12_init.data.toList[p]? = some b := fq_l (n := 64) (show (cX12_init.data.toList.drop 0).take 64 = fb_X12_init_0 by decide +kernel) e h
theorem dX12_init_0 : decode cX12_init 0 = .ok (.aload_n 0, 1) := fq1_42 (fl_X12_init_0 (j := 0) rfl rfl)
theorem dX12_init_1 : decode cX12_init 1 = .ok (.invokespecial 1, 3) := fq3_183 (fl_X12_init_0 (j := 1) rfl rfl) (fl_X12_init_0 (j := 2) rfl rfl) (fl_X12_init_0 (j := 3) rfl rfl) (by decide)
theorem dX12_init_4 : decode cX12_init 4 = .ok (.aload_n 0, 1) := fq1_42 (fl_X12_init_0 (j := 4) rfl rfl)
theorem dX12_init_5 : decode cX12_init 5 = .ok (.sipush 5340, 3) := fq3_17 (fl_X12_init_0 (j := 5) rfl rfl) (fl_X12_init_0 (j := 6) rfl rfl) (fl_X12_init_0 (j := 7) rfl rfl) (by decide)
theorem dX12_init_8 : decode cX12_init 8 = .ok (.newarray .int, 2) := by decide +kernel
theorem dX12_init_10 : decode cX12_init 10 = .ok (.putfield 7, 3) := fq3_181 (fl_X12_init_0 (j := 10) rfl rfl) (fl_X12_init_0 (j := 11) rfl rfl) (fl_X12_init_0 (j := 12) rfl rfl) (by decide)
theorem dX12_init_13 : decode cX12_init 13 = .ok (.aload_n 0, 1) := fq1_42 (fl_X12_init_0 (j := 13) rfl rfl)
theorem dX12_init_14 : decode cX12_init 14 = .ok (.bipush 36, 2) := fq2_16 (fl_X12_init_0 (j := 14) rfl rfl) (fl_X12_init_0 (j := 15) rfl rfl) (by decide)
theorem dX12_init_16 : decode cX12_init 16 = .ok (.newarray .long, 2) := by decide +kernel
theorem dX12_init_18 : decode cX12_init 18 = .ok (.putfield 13, 3) := fq3_181 (fl_X12_init_0 (j := 18) rfl rfl) (fl_X12_init_0 (j := 19) rfl rfl) (fl_X12_init_0 (j := 20) rfl rfl) (by decide)
theorem dX12_init_21 : decode cX12_init 21 = .ok (.aload_n 0, 1) := fq1_42 (fl_X12_init_0 (j := 21) rfl rfl)
theorem dX12_init_22 : decode cX12_init 22 = .ok (.lconst 1, 1) := fq1_10 (fl_X12_init_0 (j := 22) rfl rfl)
theorem dX12_init_23 : decode cX12_init 23 = .ok (.putfield 17, 3) := fq3_181 (fl_X12_init_0 (j := 23) rfl rfl) (fl_X12_init_0 (j := 24) rfl rfl) (fl_X12_init_0 (j := 25) rfl rfl) (by decide)
theorem dX12_init_26 : decode cX12_init 26 = .ok (.aload_n 0, 1) := fq1_42 (fl_X12_init_0 (j := 26) rfl rfl)
theorem dX12_init_27 : decode cX12_init 27 = .ok (.iconst 4, 1) := fq1_7 (fl_X12_init_0 (j := 27) rfl rfl)
theorem dX12_init_28 : decode cX12_init 28 = .ok (.newarray .int, 2) := by decide +kernel
theorem dX12_init_30 : decode cX12_init 30 = .ok (.putfield 21, 3) := fq3_181 (fl_X12_init_0 (j := 30) rfl rfl) (fl_X12_init_0 (j := 31) rfl rfl) (fl_X12_init_0 (j := 32) rfl rfl) (by decide)
theorem dX12_init_33 : decode cX12_init 33 = .ok (.aload_n 0, 1) := fq1_42 (fl_X12_init_0 (j := 33) rfl rfl)
theorem dX12_init_34 : decode cX12_init 34 = .ok (.iconst 4, 1) := fq1_7 (fl_X12_init_0 (j := 34) rfl rfl)
theorem dX12_init_35 : decode cX12_init 35 = .ok (.newarray .int, 2) := by decide +kernel
theorem dX12_init_37 : decode cX12_init 37 = .ok (.dup, 1) := fq1_89 (fl_X12_init_0 (j := 37) rfl rfl)
theorem dX12_init_38 : decode cX12_init 38 = .ok (.iconst 0, 1) := fq1_3 (fl_X12_init_0 (j := 38) rfl rfl)
theorem dX12_init_39 : decode cX12_init 39 = .ok (.iconst (-1), 1) := fq1_2 (fl_X12_init_0 (j := 39) rfl rfl)
theorem dX12_init_40 : decode cX12_init 40 = .ok (.iastore, 1) := fq1_79 (fl_X12_init_0 (j := 40) rfl rfl)
theorem dX12_init_41 : decode cX12_init 41 = .ok (.dup, 1) := fq1_89 (fl_X12_init_0 (j := 41) rfl rfl)
theorem dX12_init_42 : decode cX12_init 42 = .ok (.iconst 1, 1) := fq1_4 (fl_X12_init_0 (j := 42) rfl rfl)
theorem dX12_init_43 : decode cX12_init 43 = .ok (.iconst (-1), 1) := fq1_2 (fl_X12_init_0 (j := 43) rfl rfl)
theorem dX12_init_44 : decode cX12_init 44 = .ok (.iastore, 1) := fq1_79 (fl_X12_init_0 (j := 44) rfl rfl)
theorem dX12_init_45 : decode cX12_init 45 = .ok (.dup, 1) := fq1_89 (fl_X12_init_0 (j := 45) rfl rfl)
theorem dX12_init_46 : decode cX12_init 46 = .ok (.iconst 2, 1) := fq1_5 (fl_X12_init_0 (j := 46) rfl rfl)
theorem dX12_init_47 : decode cX12_init 47 = .ok (.iconst (-1), 1) := fq1_2 (fl_X12_init_0 (j := 47) rfl rfl)
theorem dX12_init_48 : decode cX12_init 48 = .ok (.iastore, 1) := fq1_79 (fl_X12_init_0 (j := 48) rfl rfl)
theorem dX12_init_49 : decode cX12_init 49 = .ok (.dup, 1) := fq1_89 (fl_X12_init_0 (j := 49) rfl rfl)
theorem dX12_init_50 : decode cX12_init 50 = .ok (.iconst 3, 1) := fq1_6 (fl_X12_init_0 (j := 50) rfl rfl)
theorem dX12_init_51 : decode cX12_init 51 = .ok (.iconst (-1), 1) := fq1_2 (fl_X12_init_0 (j := 51) rfl rfl)
theorem dX12_init_52 : decode cX12_init 52 = .ok (.iastore, 1) := fq1_79 (fl_X12_init_0 (j := 52) rfl rfl)
theorem dX12_init_53 : decode cX12_init 53 = .ok (.putfield 24, 3) := fq3_181 (fl_X12_init_0 (j := 53) rfl rfl) (fl_X12_init_0 (j := 54) rfl rfl) (fl_X12_init_0 (j := 55) rfl rfl) (by decide)
theorem dX12_init_56 : decode cX12_init 56 = .ok (.aload_n 0, 1) := fq1_42 (fl_X12_init_0 (j := 56) rfl rfl)
theorem dX12_init_57 : decode cX12_init 57 = .ok (.sipush 240, 3) := fq3_17 (fl_X12_init_0 (j := 57) rfl rfl) (fl_X12_init_0 (j := 58) rfl rfl) (fl_X12_init_0 (j := 59) rfl rfl) (by decide)
theorem dX12_init_60 : decode cX12_init 60 = .ok (.newarray .long, 2) := by decide +kernel
def fb_X12_init_1 : List UInt8 := [0x1b, 0x2a, 0x11, 0x03, 0x84, 0xbc, 0x08, 0xb5, 0x00, 0x1e, 0x2a, 0x11, 0x03, 0x84, 0xbc, 0x08, 0xb5, 0x00, 0x22, 0x2a, 0x02, 0xb5, 0x00, 0x25, 0x2a, 0x02, 0xb5, 0x00, 0x29, 0x2a, 0x06, 0xbc, 0x0a, 0xb5, 0x00, 0x2c, 0x2a, 0x10, 0x06, 0xbc, 0x0a, 0xb5, 0x00, 0x2f, 0x2a, 0x10, 0x06, 0xbc, 0x0a, 0xb5, 0x00, 0x32, 0x2a, 0x10, 0x06, 0xbc, 0x0a, 0xb5, 0x00, 0x35, 0x2a, 0x10, 0x78, 0xbc]
theorem fl_X12_init_1 {p j : Nat} {b : UInt8} (e : p = 64 + j) (h : fb_X12_init_1[j]? = some b) : cX12_init.data.toList[p]? = some b := fq_l (n := 64) (show (cX12_init.data.toList.drop 64).take 64 = fb_X12_init_1 by decide +kernel) e h
theorem dX12_init_62 : decode cX12_init 62 = .ok (.putfield 27, 3) := fq3_181 (fl_X12_init_0 (j := 62) rfl rfl) (fl_X12_init_0 (j := 63) rfl rfl) (fl_X12_init_1 (j := 0) rfl rfl) (by decide)
theorem dX12_init_65 : decode cX12_init 65 = .ok (.aload_n 0, 1) := fq1_42 (fl_X12_init_1 (j := 1) rfl rfl)
theorem dX12_init_66 : decode cX12_init 66 = .ok (.sipush 900, 3) := fq3_17 (fl_X12_init_1 (j := 2) rfl rfl) (fl_X12_init_1 (j := 3) rfl rfl) (fl_X12_init_1 (j := 4) rfl rfl) (by decide)
theorem dX12_init_69 : decode cX12_init 69 = .ok (.newarray .byte, 2) := by decide +kernel
theorem dX12_init_71 : decode cX12_init 71 = .ok (.putfield 30, 3) := fq3_181 (fl_X12_init_1 (j := 7) rfl rfl) (fl_X12_init_1 (j := 8) rfl rfl) (fl_X12_init_1 (j := 9) rfl rfl) (by decide)
theorem dX12_init_74 : decode cX12_init 74 = .ok (.aload_n 0, 1) := fq1_42 (fl_X12_init_1 (j := 10) rfl rfl)
theorem dX12_init_75 : decode cX12_init 75 = .ok (.sipush 900, 3) := fq3_17 (fl_X12_init_1 (j := 11) rfl rfl) (fl_X12_init_1 (j := 12) rfl rfl) (fl_X12_init_1 (j := 13) rfl rfl) (by decide)
theorem dX12_init_78 : decode cX12_init 78 = .ok (.newarray .byte, 2) := by decide +kernel
theorem dX12_init_80 : decode cX12_init 80 = .ok (.putfield 34, 3) := fq3_181 (fl_X12_init_1 (j := 16) rfl rfl) (fl_X12_init_1 (j := 17) rfl rfl) (fl_X12_init_1 (j := 18) rfl rfl) (by decide)
theorem dX12_init_83 : decode cX12_init 83 = .ok (.aload_n 0, 1) := fq1_42 (fl_X12_init_1 (j := 19) rfl rfl)
theorem dX12_init_84 : decode cX12_init 84 = .ok (.iconst (-1), 1) := fq1_2 (fl_X12_init_1 (j := 20) rfl rfl)
theorem dX12_init_85 : decode cX12_init 85 = .ok (.putfield 37, 3) := fq3_181 (fl_X12_init_1 (j := 21) rfl rfl) (fl_X12_init_1 (j := 22) rfl rfl) (fl_X12_init_1 (j := 23) rfl rfl) (by decide)
theorem dX12_init_88 : decode cX12_init 88 = .ok (.aload_n 0, 1) := fq1_42 (fl_X12_init_1 (j := 24) rfl rfl)
theorem dX12_init_89 : decode cX12_init 89 = .ok (.iconst (-1), 1) := fq1_2 (fl_X12_init_1 (j := 25) rfl rfl)
theorem dX12_init_90 : decode cX12_init 90 = .ok (.putfield 41, 3) := fq3_181 (fl_X12_init_1 (j := 26) rfl rfl) (fl_X12_init_1 (j := 27) rfl rfl) (fl_X12_init_1 (j := 28) rfl rfl) (by decide)
theorem dX12_init_93 : decode cX12_init 93 = .ok (.aload_n 0, 1) := fq1_42 (fl_X12_init_1 (j := 29) rfl rfl)
theorem dX12_init_94 : decode cX12_init 94 = .ok (.iconst 3, 1) := fq1_6 (fl_X12_init_1 (j := 30) rfl rfl)
theorem dX12_init_95 : decode cX12_init 95 = .ok (.newarray .int, 2) := by decide +kernel
theorem dX12_init_97 : decode cX12_init 97 = .ok (.putfield 44, 3) := fq3_181 (fl_X12_init_1 (j := 33) rfl rfl) (fl_X12_init_1 (j := 34) rfl rfl) (fl_X12_init_1 (j := 35) rfl rfl) (by decide)
theorem dX12_init_100 : decode cX12_init 100 = .ok (.aload_n 0, 1) := fq1_42 (fl_X12_init_1 (j := 36) rfl rfl)
theorem dX12_init_101 : decode cX12_init 101 = .ok (.bipush 6, 2) := fq2_16 (fl_X12_init_1 (j := 37) rfl rfl) (fl_X12_init_1 (j := 38) rfl rfl) (by decide)
theorem dX12_init_103 : decode cX12_init 103 = .ok (.newarray .int, 2) := by decide +kernel
theorem dX12_init_105 : decode cX12_init 105 = .ok (.putfield 47, 3) := fq3_181 (fl_X12_init_1 (j := 41) rfl rfl) (fl_X12_init_1 (j := 42) rfl rfl) (fl_X12_init_1 (j := 43) rfl rfl) (by decide)
theorem dX12_init_108 : decode cX12_init 108 = .ok (.aload_n 0, 1) := fq1_42 (fl_X12_init_1 (j := 44) rfl rfl)
theorem dX12_init_109 : decode cX12_init 109 = .ok (.bipush 6, 2) := fq2_16 (fl_X12_init_1 (j := 45) rfl rfl) (fl_X12_init_1 (j := 46) rfl rfl) (by decide)
theorem dX12_init_111 : decode cX12_init 111 = .ok (.newarray .int, 2) := by decide +kernel
theorem dX12_init_113 : decode cX12_init 113 = .ok (.putfield 50, 3) := fq3_181 (fl_X12_init_1 (j := 49) rfl rfl) (fl_X12_init_1 (j := 50) rfl rfl) (fl_X12_init_1 (j := 51) rfl rfl) (by decide)
theorem dX12_init_116 : decode cX12_init 116 = .ok (.aload_n 0, 1) := fq1_42 (fl_X12_init_1 (j := 52) rfl rfl)
theorem dX12_init_117 : decode cX12_init 117 = .ok (.bipush 6, 2) := fq2_16 (fl_X12_init_1 (j := 53) rfl rfl) (fl_X12_init_1 (j := 54) rfl rfl) (by decide)
theorem dX12_init_119 : decode cX12_init 119 = .ok (.newarray .int, 2) := by decide +kernel
theorem dX12_init_121 : decode cX12_init 121 = .ok (.putfield 53, 3) := fq3_181 (fl_X12_init_1 (j := 57) rfl rfl) (fl_X12_init_1 (j := 58) rfl rfl) (fl_X12_init_1 (j := 59) rfl rfl) (by decide)
theorem dX12_init_124 : decode cX12_init 124 = .ok (.aload_n 0, 1) := fq1_42 (fl_X12_init_1 (j := 60) rfl rfl)
theorem dX12_init_125 : decode cX12_init 125 = .ok (.bipush 120, 2) := fq2_16 (fl_X12_init_1 (j := 61) rfl rfl) (fl_X12_init_1 (j := 62) rfl rfl) (by decide)
theorem dX12_init_127 : decode cX12_init 127 = .ok (.newarray .int, 2) := by decide +kernel
def fb_X12_init_2 : List UInt8 := [0x0a, 0xb5, 0x00, 0x38, 0x2a, 0x11, 0x0a, 0xce, 0xbc, 0x0a, 0xb5, 0x00, 0x3b, 0x2a, 0x10, 0x50, 0xbc, 0x0a, 0xb5, 0x00, 0x3e, 0x2a, 0x08, 0xbc, 0x0a, 0xb5, 0x00, 0x41, 0x2a, 0x08, 0xbc, 0x0a, 0xb5, 0x00, 0x44, 0x2a, 0x03, 0xb6, 0x00, 0x47, 0xb1]
theorem fl_X12_init_2 {p j : Nat} {b : UInt8} (e : p = 128 + j) (h : fb_X12_init_2[j]? = some b) : cX12_init.data.toList[p]? = some b := fq_l (n := 64) (show (cX12_init.data.toList.drop 128).take 64 = fb_X12_init_2 by decide +kernel) e h
theorem dX12_init_129 : decode cX12_init 129 = .ok (.putfield 56, 3) := fq3_181 (fl_X12_init_2 (j := 1) rfl rfl) (fl_X12_init_2 (j := 2) rfl rfl) (fl_X12_init_2 (j := 3) rfl rfl) (by decide)
theorem dX12_init_132 : decode cX12_init 132 = .ok (.aload_n 0, 1) := fq1_42 (fl_X12_init_2 (j := 4) rfl rfl)
theorem dX12_init_133 : decode cX12_init 133 = .ok (.sipush 2766, 3) := fq3_17 (fl_X12_init_2 (j := 5) rfl rfl) (fl_X12_init_2 (j := 6) rfl rfl) (fl_X12_init_2 (j := 7) rfl rfl) (by decide)
theorem dX12_init_136 : decode cX12_init 136 = .ok (.newarray .int, 2) := by decide +kernel
theorem dX12_init_138 : decode cX12_init 138 = .ok (.putfield 59, 3) := fq3_181 (fl_X12_init_2 (j := 10) rfl rfl) (fl_X12_init_2 (j := 11) rfl rfl) (fl_X12_init_2 (j := 12) rfl rfl) (by decide)
theorem dX12_init_141 : decode cX12_init 141 = .ok (.aload_n 0, 1) := fq1_42 (fl_X12_init_2 (j := 13) rfl rfl)
theorem dX12_init_142 : decode cX12_init 142 = .ok (.bipush 80, 2) := fq2_16 (fl_X12_init_2 (j := 14) rfl rfl) (fl_X12_init_2 (j := 15) rfl rfl) (by decide)
theorem dX12_init_144 : decode cX12_init 144 = .ok (.newarray .int, 2) := by decide +kernel
theorem dX12_init_146 : decode cX12_init 146 = .ok (.putfield 62, 3) := fq3_181 (fl_X12_init_2 (j := 18) rfl rfl) (fl_X12_init_2 (j := 19) rfl rfl) (fl_X12_init_2 (j := 20) rfl rfl) (by decide)
theorem dX12_init_149 : decode cX12_init 149 = .ok (.aload_n 0, 1) := fq1_42 (fl_X12_init_2 (j := 21) rfl rfl)
theorem dX12_init_150 : decode cX12_init 150 = .ok (.iconst 5, 1) := fq1_8 (fl_X12_init_2 (j := 22) rfl rfl)
theorem dX12_init_151 : decode cX12_init 151 = .ok (.newarray .int, 2) := by decide +kernel
theorem dX12_init_153 : decode cX12_init 153 = .ok (.putfield 65, 3) := fq3_181 (fl_X12_init_2 (j := 25) rfl rfl) (fl_X12_init_2 (j := 26) rfl rfl) (fl_X12_init_2 (j := 27) rfl rfl) (by decide)
theorem dX12_init_156 : decode cX12_init 156 = .ok (.aload_n 0, 1) := fq1_42 (fl_X12_init_2 (j := 28) rfl rfl)
theorem dX12_init_157 : decode cX12_init 157 = .ok (.iconst 5, 1) := fq1_8 (fl_X12_init_2 (j := 29) rfl rfl)
theorem dX12_init_158 : decode cX12_init 158 = .ok (.newarray .int, 2) := by decide +kernel
theorem dX12_init_160 : decode cX12_init 160 = .ok (.putfield 68, 3) := fq3_181 (fl_X12_init_2 (j := 32) rfl rfl) (fl_X12_init_2 (j := 33) rfl rfl) (fl_X12_init_2 (j := 34) rfl rfl) (by decide)
theorem dX12_init_163 : decode cX12_init 163 = .ok (.aload_n 0, 1) := fq1_42 (fl_X12_init_2 (j := 35) rfl rfl)
theorem dX12_init_164 : decode cX12_init 164 = .ok (.iconst 0, 1) := fq1_3 (fl_X12_init_2 (j := 36) rfl rfl)
theorem dX12_init_165 : decode cX12_init 165 = .ok (.invokevirtual 71, 3) := fq3_182 (fl_X12_init_2 (j := 37) rfl rfl) (fl_X12_init_2 (j := 38) rfl rfl) (fl_X12_init_2 (j := 39) rfl rfl) (by decide)
theorem dX12_init_168 : decode cX12_init 168 = .ok (.return_, 1) := fq1_177 (fl_X12_init_2 (j := 40) rfl rfl)
