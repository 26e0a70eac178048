theorem qm_X5_3 : Cond.methodLink RX5 3 objectInit ∈ gw := tbt (tb1 (List.mem_of_getElem? (i := 43) rfl)) rfl
theorem qi_objectInit : Cond.instanceMethod objectInit ∈ gw := tbt (tb1 (List.mem_of_getElem? (i := 28) rfl)) rfl
theorem qc_objectInit : Cond.code objectInit ⟨#[0xb1]⟩ 1 none ∈ gw := tbt (tb1 (List.mem_of_getElem? (i := 29) rfl)) rfl
theorem qa_long : Cond.arrayClass .long ∈ gw := tbt (tb1 (List.mem_of_getElem? (i := 82) rfl)) rfl
theorem qm_X0_3 : Cond.methodLink RX0 3 objectInit ∈ gw := tbt (tb1 (List.mem_of_getElem? (i := 89) rfl)) rfl
theorem qm_X9_3 : Cond.methodLink RX9 3 objectInit ∈ gw := tbt (tb1 (List.mem_of_getElem? (i := 128) rfl)) rfl
theorem qm_X7_3 : Cond.methodLink RX7 3 objectInit ∈ gw := tbt (tb2 (List.mem_of_getElem? (i := 182) rfl)) rfl
theorem qm_X8_3 : Cond.methodLink RX8 3 objectInit ∈ gw := tbt (tb1 (List.mem_of_getElem? (i := 37) rfl)) rfl
theorem ql_X8_9 : Cond.classLink RX8 9 RX5 ∈ gw := tbt (tb1 (List.mem_of_getElem? (i := 38) rfl)) rfl
theorem qy_X5 : Cond.instantiable RX5 7 ∈ gw := tbt (tb1 (List.mem_of_getElem? (i := 39) rfl)) rfl
theorem qc_X5_init : Cond.code yX5_init cX5_init 1 none ∈ gw := tbt (tb1 (List.mem_of_getElem? (i := 42) rfl)) rfl
theorem qi_yX5_init : Cond.instanceMethod yX5_init ∈ gw := tbt (tb1 (List.mem_of_getElem? (i := 41) rfl)) rfl
theorem ci_X5_init : CIi yX5_init cX5_init 1 0 := ⟨qc_X5_init, qi_yX5_init, qz_X5, rfl, by decide +kernel⟩
theorem ql_X8_18 : Cond.classLink RX8 18 RX0 ∈ gw := tbt (tb1 (List.mem_of_getElem? (i := 84) rfl)) rfl
theorem qy_X0 : Cond.instantiable RX0 6 ∈ gw := tbt (tb1 (List.mem_of_getElem? (i := 85) rfl)) rfl
theorem qc_X0_init : Cond.code yX0_init cX0_init 1 none ∈ gw := tbt (tb1 (List.mem_of_getElem? (i := 88) rfl)) rfl
theorem qi_yX0_init : Cond.instanceMethod yX0_init ∈ gw := tbt (tb1 (List.mem_of_getElem? (i := 87) rfl)) rfl
theorem ci_X0_init : CIi yX0_init cX0_init 1 0 := ⟨qc_X0_init, qi_yX0_init, qz_X0, rfl, by decide +kernel⟩
theorem ql_X8_25 : Cond.classLink RX8 25 RX9 ∈ gw := tbt (tb1 (List.mem_of_getElem? (i := 123) rfl)) rfl
theorem qy_X9 : Cond.instantiable RX9 8 ∈ gw := tbt (tb1 (List.mem_of_getElem? (i := 124) rfl)) rfl
theorem qc_X9_init : Cond.code yX9_init cX9_init 1 none ∈ gw := tbt (tb1 (List.mem_of_getElem? (i := 127) rfl)) rfl
theorem qi_yX9_init : Cond.instanceMethod yX9_init ∈ gw := tbt (tb1 (List.mem_of_getElem? (i := 126) rfl)) rfl
theorem ci_X9_init : CIi yX9_init cX9_init 1 0 := ⟨qc_X9_init, qi_yX9_init, qz_X9, rfl, by decide +kernel⟩
theorem qm_X6_3 : Cond.methodLink RX6 3 objectInit ∈ gw := tbt (tb2 (List.mem_of_getElem? (i := 51) rfl)) rfl
theorem qm_X10_3 : Cond.methodLink RX10 3 objectInit ∈ gw := tbt (tb2 (List.mem_of_getElem? (i := 67) rfl)) rfl
theorem qm_X3_5 : Cond.methodLink RX3 5 objectInit ∈ gw := tbt (tb2 (List.mem_of_getElem? (i := 89) rfl)) rfl
theorem qm_X2_3 : Cond.methodLink RX2 3 objectInit ∈ gw := tbt (tb2 (List.mem_of_getElem? (i := 108) rfl)) rfl
theorem qm_X1_3 : Cond.methodLink RX1 3 objectInit ∈ gw := tbt (tb2 (List.mem_of_getElem? (i := 137) rfl)) rfl
theorem qm_X4_3 : Cond.methodLink RX4 3 objectInit ∈ gw := tbt (tb1 (List.mem_of_getElem? (i := 190) rfl)) rfl
theorem qa_byte : Cond.arrayClass .byte ∈ gw := tbt (tb2 (List.mem_of_getElem? (i := 45) rfl)) rfl
theorem qm_X4_28 : Cond.methodLink RX4 28 yJ0_length_8abf5 ∈ gw := tbt (tb1 (List.mem_of_getElem? (i := 192) rfl)) rfl
theorem qm_X4_34 : Cond.methodLink RX4 34 yJ0_charAt_5068e ∈ gw := tbt (tb1 (List.mem_of_getElem? (i := 202) rfl)) rfl
def fb_X0_init_0 : List UInt8 := [0x2a, 0xb7, 0x00, 0x03, 0x2a, 0x11, 0x01, 0x91, 0xbc, 0x0a, 0xb5, 0x00, 0x09, 0x2a, 0x10, 0x14, 0xbc, 0x0a, 0xb5, 0x00, 0x0f, 0x2a, 0x10, 0x14, 0xbc, 0x0a, 0xb5, 0x00, 0x12, 0x2a, 0x10, 0x78, 0xbc, 0x0a, 0xb5, 0x00, 0x15, 0xb1]
theorem fl_X0_init_0 {p j : Nat} {b : UInt8} (e : p = 0 + j) (h : fb_X0_init_0[j]? = some b) : cX0_init.data.toList[p]? = some b := fq_l (n := 64) (show (cX0_init.data.toList.drop 0).take 64 = fb_X0_init_0 by decide +kernel) e h
theorem dX0_init_0 : decode cX0_init 0 = .ok (.aload_n 0, 1) := fq1_42 (fl_X0_init_0 (j := 0) rfl rfl)
theorem dX0_init_1 : decode cX0_init 1 = .ok (.invokespecial 3, 3) := fq3_183 (fl_X0_init_0 (j := 1) rfl rfl) (fl_X0_init_0 (j := 2) rfl rfl) (fl_X0_init_0 (j := 3) rfl rfl) (by decide)
theorem dX0_init_4 : decode cX0_init 4 = .ok (.aload_n 0, 1) := fq1_42 (fl_X0_init_0 (j := 4) rfl rfl)
theorem dX0_init_5 : decode cX0_init 5 = .ok (.sipush 401, 3) := fq3_17 (fl_X0_init_0 (j := 5) rfl rfl) (fl_X0_init_0 (j := 6) rfl rfl) (fl_X0_init_0 (j := 7) rfl rfl) (by decide)
theorem dX0_init_8 : decode cX0_init 8 = .ok (.newarray .int, 2) := by decide +kernel
theorem dX0_init_10 : decode cX0_init 10 = .ok (.putfield 9, 3) := fq3_181 (fl_X0_init_0 (j := 10) rfl rfl) (fl_X0_init_0 (j := 11) rfl rfl) (fl_X0_init_0 (j := 12) rfl rfl) (by decide)
theorem dX0_init_13 : decode cX0_init 13 = .ok (.aload_n 0, 1) := fq1_42 (fl_X0_init_0 (j := 13) rfl rfl)
theorem dX0_init_14 : decode cX0_init 14 = .ok (.bipush 20, 2) := fq2_16 (fl_X0_init_0 (j := 14) rfl rfl) (fl_X0_init_0 (j := 15) rfl rfl) (by decide)
theorem dX0_init_16 : decode cX0_init 16 = .ok (.newarray .int, 2) := by decide +kernel
theorem dX0_init_18 : decode cX0_init 18 = .ok (.putfield 15, 3) := fq3_181 (fl_X0_init_0 (j := 18) rfl rfl) (fl_X0_init_0 (j := 19) rfl rfl) (fl_X0_init_0 (j := 20) rfl rfl) (by decide)
theorem dX0_init_21 : decode cX0_init 21 = .ok (.aload_n 0, 1) := fq1_42 (fl_X0_init_0 (j := 21) rfl rfl)
theorem dX0_init_22 : decode cX0_init 22 = .ok (.bipush 20, 2) := fq2_16 (fl_X0_init_0 (j := 22) rfl rfl) (fl_X0_init_0 (j := 23) rfl rfl) (by decide)
theorem dX0_init_24 : decode cX0_init 24 = .ok (.newarray .int, 2) := by decide +kernel
theorem dX0_init_26 : decode cX0_init 26 = .ok (.putfield 18, 3) := fq3_181 (fl_X0_init_0 (j := 26) rfl rfl) (fl_X0_init_0 (j := 27) rfl rfl) (fl_X0_init_0 (j := 28) rfl rfl) (by decide)
theorem dX0_init_29 : decode cX0_init 29 = .ok (.aload_n 0, 1) := fq1_42 (fl_X0_init_0 (j := 29) rfl rfl)
theorem dX0_init_30 : decode cX0_init 30 = .ok (.bipush 120, 2) := fq2_16 (fl_X0_init_0 (j := 30) rfl rfl) (fl_X0_init_0 (j := 31) rfl rfl) (by decide)
theorem dX0_init_32 : decode cX0_init 32 = .ok (.newarray .int, 2) := by decide +kernel
theorem dX0_init_34 : decode cX0_init 34 = .ok (.putfield 21, 3) := fq3_181 (fl_X0_init_0 (j := 34) rfl rfl) (fl_X0_init_0 (j := 35) rfl rfl) (fl_X0_init_0 (j := 36) rfl rfl) (by decide)
theorem dX0_init_37 : decode cX0_init 37 = .ok (.return_, 1) := fq1_177 (fl_X0_init_0 (j := 37) rfl rfl)
def fb_X10_init_0 : List UInt8 := [0x2a, 0xb7, 0x00, 0x03, 0x2a, 0x06, 0xbc, 0x0a, 0xb5, 0x00, 0x09, 0x2a, 0x2b, 0xb5, 0x00, 0x0f, 0xb1]
theorem fl_X10_init_0 {p j : Nat} {b : UInt8} (e : p = 0 + j) (h : fb_X10_init_0[j]? = some b) : cX10_init.data.toList[p]? = some b := fq_l (n := 64) (show (cX10_init.data.toList.drop 0).take 64 = fb_X10_init_0 by decide +kernel) e h
theorem dX10_init_0 : decode cX10_init 0 = .ok (.aload_n 0, 1) := fq1_42 (fl_X10_init_0 (j := 0) rfl rfl)
theorem dX10_init_1 : decode cX10_init 1 = .ok (.invokespecial 3, 3) := fq3_183 (fl_X10_init_0 (j := 1) rfl rfl) (fl_X10_init_0 (j := 2) rfl rfl) (fl_X10_init_0 (j := 3) rfl rfl) (by decide)
theorem dX10_init_4 : decode cX10_init 4 = .ok (.aload_n 0, 1) := fq1_42 (fl_X10_init_0 (j := 4) rfl rfl)
theorem dX10_init_5 : decode cX10_init 5 = .ok (.iconst 3, 1) := fq1_6 (fl_X10_init_0 (j := 5) rfl rfl)
theorem dX10_init_6 : decode cX10_init 6 = .ok (.newarray .int, 2) := by decide +kernel
theorem dX10_init_8 : decode cX10_init 8 = .ok (.putfield 9, 3) := fq3_181 (fl_X10_init_0 (j := 8) rfl rfl) (fl_X10_init_0 (j := 9) rfl rfl) (fl_X10_init_0 (j := 10) rfl rfl) (by decide)
theorem dX10_init_11 : decode cX10_init 11 = .ok (.aload_n 0, 1) := fq1_42 (fl_X10_init_0 (j := 11) rfl rfl)
theorem dX10_init_12 : decode cX10_init 12 = .ok (.aload_n 1, 1) := fq1_43 (fl_X10_init_0 (j := 12) rfl rfl)
theorem dX10_init_13 : decode cX10_init 13 = .ok (.putfield 15, 3) := fq3_181 (fl_X10_init_0 (j := 13) rfl rfl) (fl_X10_init_0 (j := 14) rfl rfl) (fl_X10_init_0 (j := 15) rfl rfl) (by decide)
theorem dX10_init_16 : decode cX10_init 16 = .ok (.return_, 1) := fq1_177 (fl_X10_init_0 (j := 16) rfl rfl)
def fb_X1_init_0 : List UInt8 := [0x2a, 0xb7, 0x00, 0x03, 0x2a, 0x10, 0x3c, 0xbc, 0x0a, 0xb5, 0x00, 0x0b, 0x2a, 0x2b, 0xb5, 0x00, 0x11, 0x2a, 0x2c, 0xb5, 0x00, 0x15, 0x2a, 0x2d, 0xb5, 0x00, 0x19, 0xb1]
theorem fl_X1_init_0 {p j : Nat} {b : UInt8} (e : p = 0 + j) (h : fb_X1_init_0[j]? = some b) : cX1_init.data.toList[p]? = some b := fq_l (n := 64) (show (cX1_init.data.toList.drop 0).take 64 = fb_X1_init_0 by decide +kernel) e h
theorem dX1_init_0 : decode cX1_init 0 = .ok (.aload_n 0, 1) := fq1_42 (fl_X1_init_0 (j := 0) rfl rfl)
theorem dX1_init_1 : decode cX1_init 1 = .ok (.invokespecial 3, 3) := fq3_183 (fl_X1_init_0 (j := 1) rfl rfl) (fl_X1_init_0 (j := 2) rfl rfl) (fl_X1_init_0 (j := 3) rfl rfl) (by decide)
theorem dX1_init_4 : decode cX1_init 4 = .ok (.aload_n 0, 1) := fq1_42 (fl_X1_init_0 (j := 4) rfl rfl)
theorem dX1_init_5 : decode cX1_init 5 = .ok (.bipush 60, 2) := fq2_16 (fl_X1_init_0 (j := 5) rfl rfl) (fl_X1_init_0 (j := 6) rfl rfl) (by decide)
theorem dX1_init_7 : decode cX1_init 7 = .ok (.newarray .int, 2) := by decide +kernel
theorem dX1_init_9 : decode cX1_init 9 = .ok (.putfield 11, 3) := fq3_181 (fl_X1_init_0 (j := 9) rfl rfl) (fl_X1_init_0 (j := 10) rfl rfl) (fl_X1_init_0 (j := 11) rfl rfl) (by decide)
theorem dX1_init_12 : decode cX1_init 12 = .ok (.aload_n 0, 1) := fq1_42 (fl_X1_init_0 (j := 12) rfl rfl)
theorem dX1_init_13 : decode cX1_init 13 = .ok (.aload_n 1, 1) := fq1_43 (fl_X1_init_0 (j := 13) rfl rfl)
theorem dX1_init_14 : decode cX1_init 14 = .ok (.putfield 17, 3) := fq3_181 (fl_X1_init_0 (j := 14) rfl rfl) (fl_X1_init_0 (j := 15) rfl rfl) (fl_X1_init_0 (j := 16) rfl rfl) (by decide)
theorem dX1_init_17 : decode cX1_init 17 = .ok (.aload_n 0, 1) := fq1_42 (fl_X1_init_0 (j := 17) rfl rfl)
theorem dX1_init_18 : decode cX1_init 18 = .ok (.aload_n 2, 1) := fq1_44 (fl_X1_init_0 (j := 18) rfl rfl)
theorem dX1_init_19 : decode cX1_init 19 = .ok (.putfield 21, 3) := fq3_181 (fl_X1_init_0 (j := 19) rfl rfl) (fl_X1_init_0 (j := 20) rfl rfl) (fl_X1_init_0 (j := 21) rfl rfl) (by decide)
theorem dX1_init_22 : decode cX1_init 22 = .ok (.aload_n 0, 1) := fq1_42 (fl_X1_init_0 (j := 22) rfl rfl)
theorem dX1_init_23 : decode cX1_init 23 = .ok (.aload_n 3, 1) := fq1_45 (fl_X1_init_0 (j := 23) rfl rfl)
theorem dX1_init_24 : decode cX1_init 24 = .ok (.putfield 25, 3) := fq3_181 (fl_X1_init_0 (j := 24) rfl rfl) (fl_X1_init_0 (j := 25) rfl rfl) (fl_X1_init_0 (j := 26) rfl rfl) (by decide)
theorem dX1_init_27 : decode cX1_init 27 = .ok (.return_, 1) := fq1_177 (fl_X1_init_0 (j := 27) rfl rfl)
def fb_X2_init_0 : List UInt8 := [0x2a, 0xb7, 0x00, 0x03, 0x2a, 0x10, 0x06, 0xbc, 0x0a, 0xb5, 0x00, 0x09, 0x2a, 0x10, 0x06, 0xbc, 0x0a, 0xb5, 0x00, 0x0f, 0x2a, 0x10, 0x06, 0xbc, 0x0a, 0xb5, 0x00, 0x12, 0x2a, 0x10, 0x7e, 0xbc, 0x0a, 0xb5, 0x00, 0x15, 0x2a, 0x2b, 0xb5, 0x00, 0x18, 0x2a, 0x2c, 0xb5, 0x00, 0x1c, 0xb1]
theorem fl_X2_init_0 {p j : Nat} {b : UInt8} (e : p = 0 + j) (h : fb_X2_init_0[j]? = some b) : cX2_init.data.toList[p]? = some b := fq_l (n := 64) (show (cX2_init.data.toList.drop 0).take 64 = fb_X2_init_0 by decide +kernel) e h
theorem dX2_init_0 : decode cX2_init 0 = .ok (.aload_n 0, 1) := fq1_42 (fl_X2_init_0 (j := 0) rfl rfl)
theorem dX2_init_1 : decode cX2_init 1 = .ok (.invokespecial 3, 3) := fq3_183 (fl_X2_init_0 (j := 1) rfl rfl) (fl_X2_init_0 (j := 2) rfl rfl) (fl_X2_init_0 (j := 3) rfl rfl) (by decide)
theorem dX2_init_4 : decode cX2_init 4 = .ok (.aload_n 0, 1) := fq1_42 (fl_X2_init_0 (j := 4) rfl rfl)
theorem dX2_init_5 : decode cX2_init 5 = .ok (.bipush 6, 2) := fq2_16 (fl_X2_init_0 (j := 5) rfl rfl) (fl_X2_init_0 (j := 6) rfl rfl) (by decide)
theorem dX2_init_7 : decode cX2_init 7 = .ok (.newarray .int, 2) := by decide +kernel
theorem dX2_init_9 : decode cX2_init 9 = .ok (.putfield 9, 3) := fq3_181 (fl_X2_init_0 (j := 9) rfl rfl) (fl_X2_init_0 (j := 10) rfl rfl) (fl_X2_init_0 (j := 11) rfl rfl) (by decide)
theorem dX2_init_12 : decode cX2_init 12 = .ok (.aload_n 0, 1) := fq1_42 (fl_X2_init_0 (j := 12) rfl rfl)
theorem dX2_init_13 : decode cX2_init 13 = .ok (.bipush 6, 2) := fq2_16 (fl_X2_init_0 (j := 13) rfl rfl) (fl_X2_init_0 (j := 14) rfl rfl) (by decide)
theorem dX2_init_15 : decode cX2_init 15 = .ok (.newarray .int, 2) := by decide +kernel
theorem dX2_init_17 : decode cX2_init 17 = .ok (.putfield 15, 3) := fq3_181 (fl_X2_init_0 (j := 17) rfl rfl) (fl_X2_init_0 (j := 18) rfl rfl) (fl_X2_init_0 (j := 19) rfl rfl) (by decide)
theorem dX2_init_20 : decode cX2_init 20 = .ok (.aload_n 0, 1) := fq1_42 (fl_X2_init_0 (j := 20) rfl rfl)
theorem dX2_init_21 : decode cX2_init 21 = .ok (.bipush 6, 2) := fq2_16 (fl_X2_init_0 (j := 21) rfl rfl) (fl_X2_init_0 (j := 22) rfl rfl) (by decide)
theorem dX2_init_23 : decode cX2_init 23 = .ok (.newarray .int, 2) := by decide +kernel
theorem dX2_init_25 : decode cX2_init 25 = .ok (.putfield 18, 3) := fq3_181 (fl_X2_init_0 (j := 25) rfl rfl) (fl_X2_init_0 (j := 26) rfl rfl) (fl_X2_init_0 (j := 27) rfl rfl) (by decide)
theorem dX2_init_28 : decode cX2_init 28 = .ok (.aload_n 0, 1) := fq1_42 (fl_X2_init_0 (j := 28) rfl rfl)
theorem dX2_init_29 : decode cX2_init 29 = .ok (.bipush 126, 2) := fq2_16 (fl_X2_init_0 (j := 29) rfl rfl) (fl_X2_init_0 (j := 30) rfl rfl) (by decide)
theorem dX2_init_31 : decode cX2_init 31 = .ok (.newarray .int, 2) := by decide +kernel
theorem dX2_init_33 : decode cX2_init 33 = .ok (.putfield 21, 3) := fq3_181 (fl_X2_init_0 (j := 33) rfl rfl) (fl_X2_init_0 (j := 34) rfl rfl) (fl_X2_init_0 (j := 35) rfl rfl) (by decide)
theorem dX2_init_36 : decode cX2_init 36 = .ok (.aload_n 0, 1) := fq1_42 (fl_X2_init_0 (j := 36) rfl rfl)
theorem dX2_init_37 : decode cX2_init 37 = .ok (.aload_n 1, 1) := fq1_43 (fl_X2_init_0 (j := 37) rfl rfl)
theorem dX2_init_38 : decode cX2_init 38 = .ok (.putfield 24, 3) := fq3_181 (fl_X2_init_0 (j := 38) rfl rfl) (fl_X2_init_0 (j := 39) rfl rfl) (fl_X2_init_0 (j := 40) rfl rfl) (by decide)
theorem dX2_init_41 : decode cX2_init 41 = .ok (.aload_n 0, 1) := fq1_42 (fl_X2_init_0 (j := 41) rfl rfl)
theorem dX2_init_42 : decode cX2_init 42 = .ok (.aload_n 2, 1) := fq1_44 (fl_X2_init_0 (j := 42) rfl rfl)
theorem dX2_init_43 : decode cX2_init 43 = .ok (.putfield 28, 3) := fq3_181 (fl_X2_init_0 (j := 43) rfl rfl) (fl_X2_init_0 (j := 44) rfl rfl) (fl_X2_init_0 (j := 45) rfl rfl) (by decide)
theorem dX2_init_46 : decode cX2_init 46 = .ok (.return_, 1) := fq1_177 (fl_X2_init_0 (j := 46) rfl rfl)
def fb_X3_init_0 : List UInt8 := [0x2a, 0xb7, 0x00, 0x05, 0x2a, 0x2b, 0xb5, 0x00, 0x0b, 0xb1]
theorem fl_X3_init_0 {p j : Nat} {b : UInt8} (e : p = 0 + j) (h : fb_X3_init_0[j]? = some b) : cX3_init.data.toList[p]? = some b := fq_l (n := 64) (show (cX3_init.data.toList.drop 0).take 64 = fb_X3_init_0 by decide +kernel) e h
theorem dX3_init_0 : decode cX3_init 0 = .ok (.aload_n 0, 1) := fq1_42 (fl_X3_init_0 (j := 0) rfl rfl)
theorem dX3_init_1 : decode cX3_init 1 = .ok (.invokespecial 5, 3) := fq3_183 (fl_X3_init_0 (j := 1) rfl rfl) (fl_X3_init_0 (j := 2) rfl rfl) (fl_X3_init_0 (j := 3) rfl rfl) (by decide)
theorem dX3_init_4 : decode cX3_init 4 = .ok (.aload_n 0, 1) := fq1_42 (fl_X3_init_0 (j := 4) rfl rfl)
theorem dX3_init_5 : decode cX3_init 5 = .ok (.aload_n 1, 1) := fq1_43 (fl_X3_init_0 (j := 5) rfl rfl)
theorem dX3_init_6 : decode cX3_init 6 = .ok (.putfield 11, 3) := fq3_181 (fl_X3_init_0 (j := 6) rfl rfl) (fl_X3_init_0 (j := 7) rfl rfl) (fl_X3_init_0 (j := 8) rfl rfl) (by decide)
theorem dX3_init_9 : decode cX3_init 9 = .ok (.return_, 1) := fq1_177 (fl_X3_init_0 (j := 9) rfl rfl)
def fb_X4_init_0 : List UInt8 := [0x2a, 0xb7, 0x00, 0x03, 0x2a, 0x11, 0x03, 0x84, 0xbc, 0x08, 0xb5, 0x00, 0x09, 0x2a, 0x10, 0x19, 0xbc, 0x0b, 0xb5, 0x00, 0x0f, 0x2a, 0x02, 0xb5, 0x00, 0x13, 0x2a, 0x02, 0xb5, 0x00, 0x17, 0x09, 0x40, 0x03, 0x3e, 0x03, 0x36, 0x04, 0x15, 0x04, 0x12, 0x1a, 0xb6, 0x00, 0x1c, 0xa2, 0x00, 0x3f, 0x1d, 0x10, 0x19, 0xa2, 0x00, 0x39, 0x12, 0x1a, 0x15, 0x04, 0xb6, 0x00, 0x22, 0x10, 0x20, 0xa0]
theorem fl_X4_init_0 {p j : Nat} {b : UInt8} (e : p = 0 + j) (h : fb_X4_init_0[j]? = some b) : cX4_init.data.toList[p]? = some b := fq_l (n := 64) (show (cX4_init.data.toList.drop 0).take 64 = fb_X4_init_0 by decide +kernel) e h
theorem dX4_init_0 : decode cX4_init 0 = .ok (.aload_n 0, 1) := fq1_42 (fl_X4_init_0 (j := 0) rfl rfl)
theorem dX4_init_1 : decode cX4_init 1 = .ok (.invokespecial 3, 3) := fq3_183 (fl_X4_init_0 (j := 1) rfl rfl) (fl_X4_init_0 (j := 2) rfl rfl) (fl_X4_init_0 (j := 3) rfl rfl) (by decide)
theorem dX4_init_4 : decode cX4_init 4 = .ok (.aload_n 0, 1) := fq1_42 (fl_X4_init_0 (j := 4) rfl rfl)
theorem dX4_init_5 : decode cX4_init 5 = .ok (.sipush 900, 3) := fq3_17 (fl_X4_init_0 (j := 5) rfl rfl) (fl_X4_init_0 (j := 6) rfl rfl) (fl_X4_init_0 (j := 7) rfl rfl) (by decide)
theorem dX4_init_8 : decode cX4_init 8 = .ok (.newarray .byte, 2) := by decide +kernel
theorem dX4_init_10 : decode cX4_init 10 = .ok (.putfield 9, 3) := fq3_181 (fl_X4_init_0 (j := 10) rfl rfl) (fl_X4_init_0 (j := 11) rfl rfl) (fl_X4_init_0 (j := 12) rfl rfl) (by decide)
theorem dX4_init_13 : decode cX4_init 13 = .ok (.aload_n 0, 1) := fq1_42 (fl_X4_init_0 (j := 13) rfl rfl)
theorem dX4_init_14 : decode cX4_init 14 = .ok (.bipush 25, 2) := fq2_16 (fl_X4_init_0 (j := 14) rfl rfl) (fl_X4_init_0 (j := 15) rfl rfl) (by decide)
theorem dX4_init_16 : decode cX4_init 16 = .ok (.newarray .long, 2) := by decide +kernel
theorem dX4_init_18 : decode cX4_init 18 = .ok (.putfield 15, 3) := fq3_181 (fl_X4_init_0 (j := 18) rfl rfl) (fl_X4_init_0 (j := 19) rfl rfl) (fl_X4_init_0 (j := 20) rfl rfl) (by decide)
theorem dX4_init_21 : decode cX4_init 21 = .ok (.aload_n 0, 1) := fq1_42 (fl_X4_init_0 (j := 21) rfl rfl)
theorem dX4_init_22 : decode cX4_init 22 = .ok (.iconst (-1), 1) := fq1_2 (fl_X4_init_0 (j := 22) rfl rfl)
theorem dX4_init_23 : decode cX4_init 23 = .ok (.putfield 19, 3) := fq3_181 (fl_X4_init_0 (j := 23) rfl rfl) (fl_X4_init_0 (j := 24) rfl rfl) (fl_X4_init_0 (j := 25) rfl rfl) (by decide)
theorem dX4_init_26 : decode cX4_init 26 = .ok (.aload_n 0, 1) := fq1_42 (fl_X4_init_0 (j := 26) rfl rfl)
theorem dX4_init_27 : decode cX4_init 27 = .ok (.iconst (-1), 1) := fq1_2 (fl_X4_init_0 (j := 27) rfl rfl)
theorem dX4_init_28 : decode cX4_init 28 = .ok (.putfield 23, 3) := fq3_181 (fl_X4_init_0 (j := 28) rfl rfl) (fl_X4_init_0 (j := 29) rfl rfl) (fl_X4_init_0 (j := 30) rfl rfl) (by decide)
theorem dX4_init_31 : decode cX4_init 31 = .ok (.lconst 0, 1) := fq1_9 (fl_X4_init_0 (j := 31) rfl rfl)
theorem dX4_init_32 : decode cX4_init 32 = .ok (.lstore_n 1, 1) := fq1_64 (fl_X4_init_0 (j := 32) rfl rfl)
theorem dX4_init_33 : decode cX4_init 33 = .ok (.iconst 0, 1) := fq1_3 (fl_X4_init_0 (j := 33) rfl rfl)
theorem dX4_init_34 : decode cX4_init 34 = .ok (.istore_n 3, 1) := fq1_62 (fl_X4_init_0 (j := 34) rfl rfl)
theorem dX4_init_35 : decode cX4_init 35 = .ok (.iconst 0, 1) := fq1_3 (fl_X4_init_0 (j := 35) rfl rfl)
theorem dX4_init_36 : decode cX4_init 36 = .ok (.istore 4, 2) := fq2_54 (fl_X4_init_0 (j := 36) rfl rfl) (fl_X4_init_0 (j := 37) rfl rfl) (by decide)
theorem dX4_init_38 : decode cX4_init 38 = .ok (.iload 4, 2) := fq2_21 (fl_X4_init_0 (j := 38) rfl rfl) (fl_X4_init_0 (j := 39) rfl rfl) (by decide)
theorem dX4_init_40 : decode cX4_init 40 = .ok (.ldc 26, 2) := fq2_18 (fl_X4_init_0 (j := 40) rfl rfl) (fl_X4_init_0 (j := 41) rfl rfl) (by decide)
theorem dX4_init_42 : decode cX4_init 42 = .ok (.invokevirtual 28, 3) := fq3_182 (fl_X4_init_0 (j := 42) rfl rfl) (fl_X4_init_0 (j := 43) rfl rfl) (fl_X4_init_0 (j := 44) rfl rfl) (by decide)
theorem dX4_init_45 : decode cX4_init 45 = .ok (.if_icmp .ge 63, 3) := fq3_162 (fl_X4_init_0 (j := 45) rfl rfl) (fl_X4_init_0 (j := 46) rfl rfl) (fl_X4_init_0 (j := 47) rfl rfl) (by decide)
theorem dX4_init_48 : decode cX4_init 48 = .ok (.iload_n 3, 1) := fq1_29 (fl_X4_init_0 (j := 48) rfl rfl)
theorem dX4_init_49 : decode cX4_init 49 = .ok (.bipush 25, 2) := fq2_16 (fl_X4_init_0 (j := 49) rfl rfl) (fl_X4_init_0 (j := 50) rfl rfl) (by decide)
theorem dX4_init_51 : decode cX4_init 51 = .ok (.if_icmp .ge 57, 3) := fq3_162 (fl_X4_init_0 (j := 51) rfl rfl) (fl_X4_init_0 (j := 52) rfl rfl) (fl_X4_init_0 (j := 53) rfl rfl) (by decide)
theorem dX4_init_54 : decode cX4_init 54 = .ok (.ldc 26, 2) := fq2_18 (fl_X4_init_0 (j := 54) rfl rfl) (fl_X4_init_0 (j := 55) rfl rfl) (by decide)
theorem dX4_init_56 : decode cX4_init 56 = .ok (.iload 4, 2) := fq2_21 (fl_X4_init_0 (j := 56) rfl rfl) (fl_X4_init_0 (j := 57) rfl rfl) (by decide)
theorem dX4_init_58 : decode cX4_init 58 = .ok (.invokevirtual 34, 3) := fq3_182 (fl_X4_init_0 (j := 58) rfl rfl) (fl_X4_init_0 (j := 59) rfl rfl) (fl_X4_init_0 (j := 60) rfl rfl) (by decide)
theorem dX4_init_61 : decode cX4_init 61 = .ok (.bipush 32, 2) := fq2_16 (fl_X4_init_0 (j := 61) rfl rfl) (fl_X4_init_0 (j := 62) rfl rfl) (by decide)
def fb_X4_init_1 : List UInt8 := [0x00, 0x12, 0x2a, 0xb4, 0x00, 0x0f, 0x1d, 0x1f, 0x50, 0x84, 0x03, 0x01, 0x09, 0x40, 0xa7, 0x00, 0x18, 0x1f, 0x14, 0x00, 0x26, 0x69, 0x12, 0x1a, 0x15, 0x04, 0xb6, 0x00, 0x22, 0x85, 0x61, 0x14, 0x00, 0x28, 0x65, 0x0a, 0x61, 0x40, 0x84, 0x04, 0x01, 0xa7, 0xff, 0xbd, 0xb1]
theorem fl_X4_init_1 {p j : Nat} {b : UInt8} (e : p = 64 + j) (h : fb_X4_init_1[j]? = some b) : cX4_init.data.toList[p]? = some b := fq_l (n := 64) (show (cX4_init.data.toList.drop 64).take 64 = fb_X4_init_1 by decide +kernel) e h
theorem dX4_init_63 : decode cX4_init 63 = .ok (.if_icmp .ne 18, 3) := fq3_160 (fl_X4_init_0 (j := 63) rfl rfl) (fl_X4_init_1 (j := 0) rfl rfl) (fl_X4_init_1 (j := 1) rfl rfl) (by decide)
theorem dX4_init_66 : decode cX4_init 66 = .ok (.aload_n 0, 1) := fq1_42 (fl_X4_init_1 (j := 2) rfl rfl)
theorem dX4_init_67 : decode cX4_init 67 = .ok (.getfield 15, 3) := fq3_180 (fl_X4_init_1 (j := 3) rfl rfl) (fl_X4_init_1 (j := 4) rfl rfl) (fl_X4_init_1 (j := 5) rfl rfl) (by decide)
theorem dX4_init_70 : decode cX4_init 70 = .ok (.iload_n 3, 1) := fq1_29 (fl_X4_init_1 (j := 6) rfl rfl)
theorem dX4_init_71 : decode cX4_init 71 = .ok (.lload_n 1, 1) := fq1_31 (fl_X4_init_1 (j := 7) rfl rfl)
theorem dX4_init_72 : decode cX4_init 72 = .ok (.lastore, 1) := fq1_80 (fl_X4_init_1 (j := 8) rfl rfl)
theorem dX4_init_73 : decode cX4_init 73 = .ok (.iinc 3 1, 3) := fq3_132 (fl_X4_init_1 (j := 9) rfl rfl) (fl_X4_init_1 (j := 10) rfl rfl) (fl_X4_init_1 (j := 11) rfl rfl) (by decide) (by decide)
theorem dX4_init_76 : decode cX4_init 76 = .ok (.lconst 0, 1) := fq1_9 (fl_X4_init_1 (j := 12) rfl rfl)
theorem dX4_init_77 : decode cX4_init 77 = .ok (.lstore_n 1, 1) := fq1_64 (fl_X4_init_1 (j := 13) rfl rfl)
theorem dX4_init_78 : decode cX4_init 78 = .ok (.goto 24, 3) := fq3_167 (fl_X4_init_1 (j := 14) rfl rfl) (fl_X4_init_1 (j := 15) rfl rfl) (fl_X4_init_1 (j := 16) rfl rfl) (by decide)
theorem dX4_init_81 : decode cX4_init 81 = .ok (.lload_n 1, 1) := fq1_31 (fl_X4_init_1 (j := 17) rfl rfl)
theorem dX4_init_82 : decode cX4_init 82 = .ok (.ldc2_w 38, 3) := fq3_20 (fl_X4_init_1 (j := 18) rfl rfl) (fl_X4_init_1 (j := 19) rfl rfl) (fl_X4_init_1 (j := 20) rfl rfl) (by decide)
theorem dX4_init_85 : decode cX4_init 85 = .ok (.lmul, 1) := fq1_105 (fl_X4_init_1 (j := 21) rfl rfl)
theorem dX4_init_86 : decode cX4_init 86 = .ok (.ldc 26, 2) := fq2_18 (fl_X4_init_1 (j := 22) rfl rfl) (fl_X4_init_1 (j := 23) rfl rfl) (by decide)
theorem dX4_init_88 : decode cX4_init 88 = .ok (.iload 4, 2) := fq2_21 (fl_X4_init_1 (j := 24) rfl rfl) (fl_X4_init_1 (j := 25) rfl rfl) (by decide)
theorem dX4_init_90 : decode cX4_init 90 = .ok (.invokevirtual 34, 3) := fq3_182 (fl_X4_init_1 (j := 26) rfl rfl) (fl_X4_init_1 (j := 27) rfl rfl) (fl_X4_init_1 (j := 28) rfl rfl) (by decide)
theorem dX4_init_93 : decode cX4_init 93 = .ok (.i2l, 1) := fq1_133 (fl_X4_init_1 (j := 29) rfl rfl)
theorem dX4_init_94 : decode cX4_init 94 = .ok (.ladd, 1) := fq1_97 (fl_X4_init_1 (j := 30) rfl rfl)
theorem dX4_init_95 : decode cX4_init 95 = .ok (.ldc2_w 40, 3) := fq3_20 (fl_X4_init_1 (j := 31) rfl rfl) (fl_X4_init_1 (j := 32) rfl rfl) (fl_X4_init_1 (j := 33) rfl rfl) (by decide)
theorem dX4_init_98 : decode cX4_init 98 = .ok (.lsub, 1) := fq1_101 (fl_X4_init_1 (j := 34) rfl rfl)
theorem dX4_init_99 : decode cX4_init 99 = .ok (.lconst 1, 1) := fq1_10 (fl_X4_init_1 (j := 35) rfl rfl)
theorem dX4_init_100 : decode cX4_init 100 = .ok (.ladd, 1) := fq1_97 (fl_X4_init_1 (j := 36) rfl rfl)
theorem dX4_init_101 : decode cX4_init 101 = .ok (.lstore_n 1, 1) := fq1_64 (fl_X4_init_1 (j := 37) rfl rfl)
theorem dX4_init_102 : decode cX4_init 102 = .ok (.iinc 4 1, 3) := fq3_132 (fl_X4_init_1 (j := 38) rfl rfl) (fl_X4_init_1 (j := 39) rfl rfl) (fl_X4_init_1 (j := 40) rfl rfl) (by decide) (by decide)
theorem dX4_init_105 : decode cX4_init 105 = .ok (.goto (-67), 3) := fq3_167 (fl_X4_init_1 (j := 41) rfl rfl) (fl_X4_init_1 (j := 42) rfl rfl) (fl_X4_init_1 (j := 43) rfl rfl) (by decide)
theorem dX4_init_108 : decode cX4_init 108 = .ok (.return_, 1) := fq1_177 (fl_X4_init_1 (j := 44) rfl rfl)
def fb_X5_init_0 : List UInt8 := [0x2a, 0xb7, 0x00, 0x03, 0x2a, 0x10, 0x06, 0xbc, 0x0b, 0xb5, 0x00, 0x09, 0x2a, 0x10, 0x24, 0xbc, 0x0a, 0xb5, 0x00, 0x0f, 0x2a, 0x10, 0x20, 0xbc, 0x0a, 0xb5, 0x00, 0x13, 0xb1]
theorem fl_X5_init_0 {p j : Nat} {b : UInt8} (e : p = 0 + j) (h : fb_X5_init_0[j]? = some b) : cX5_init.data.toList[p]? = some b := fq_l (n := 64) (show (cX5_init.data.toList.drop 0).take 64 = fb_X5_init_0 by decide +kernel) e h
theorem dX5_init_0 : decode cX5_init 0 = .ok (.aload_n 0, 1) := fq1_42 (fl_X5_init_0 (j := 0) rfl rfl)
theorem dX5_init_1 : decode cX5_init 1 = .ok (.invokespecial 3, 3) := fq3_183 (fl_X5_init_0 (j := 1) rfl rfl) (fl_X5_init_0 (j := 2) rfl rfl) (fl_X5_init_0 (j := 3) rfl rfl) (by decide)
theorem dX5_init_4 : decode cX5_init 4 = .ok (.aload_n 0, 1) := fq1_42 (fl_X5_init_0 (j := 4) rfl rfl)
theorem dX5_init_5 : decode cX5_init 5 = .ok (.bipush 6, 2) := fq2_16 (fl_X5_init_0 (j := 5) rfl rfl) (fl_X5_init_0 (j := 6) rfl rfl) (by decide)
theorem dX5_init_7 : decode cX5_init 7 = .ok (.newarray .long, 2) := by decide +kernel
theorem dX5_init_9 : decode cX5_init 9 = .ok (.putfield 9, 3) := fq3_181 (fl_X5_init_0 (j := 9) rfl rfl) (fl_X5_init_0 (j := 10) rfl rfl) (fl_X5_init_0 (j := 11) rfl rfl) (by decide)
theorem dX5_init_12 : decode cX5_init 12 = .ok (.aload_n 0, 1) := fq1_42 (fl_X5_init_0 (j := 12) rfl rfl)
theorem dX5_init_13 : decode cX5_init 13 = .ok (.bipush 36, 2) := fq2_16 (fl_X5_init_0 (j := 13) rfl rfl) (fl_X5_init_0 (j := 14) rfl rfl) (by decide)
theorem dX5_init_15 : decode cX5_init 15 = .ok (.newarray .int, 2) := by decide +kernel
theorem dX5_init_17 : decode cX5_init 17 = .ok (.putfield 15, 3) := fq3_181 (fl_X5_init_0 (j := 17) rfl rfl) (fl_X5_init_0 (j := 18) rfl rfl) (fl_X5_init_0 (j := 19) rfl rfl) (by decide)
theorem dX5_init_20 : decode cX5_init 20 = .ok (.aload_n 0, 1) := fq1_42 (fl_X5_init_0 (j := 20) rfl rfl)
theorem dX5_init_21 : decode cX5_init 21 = .ok (.bipush 32, 2) := fq2_16 (fl_X5_init_0 (j := 21) rfl rfl) (fl_X5_init_0 (j := 22) rfl rfl) (by decide)
theorem dX5_init_23 : decode cX5_init 23 = .ok (.newarray .int, 2) := by decide +kernel
theorem dX5_init_25 : decode cX5_init 25 = .ok (.putfield 19, 3) := fq3_181 (fl_X5_init_0 (j := 25) rfl rfl) (fl_X5_init_0 (j := 26) rfl rfl) (fl_X5_init_0 (j := 27) rfl rfl) (by decide)
theorem dX5_init_28 : decode cX5_init 28 = .ok (.return_, 1) := fq1_177 (fl_X5_init_0 (j := 28) rfl rfl)
def fb_X6_init_0 : List UInt8 := [0x2a, 0xb7, 0x00, 0x03, 0x2a, 0x2b, 0xb5, 0x00, 0x09, 0xb1]
theorem fl_X6_init_0 {p j : Nat} {b : UInt8} (e : p = 0 + j) (h : fb_X6_init_0[j]? = some b) : cX6_init.data.toList[p]? = some b := fq_l (n := 64) (show (cX6_init.data.toList.drop 0).take 64 = fb_X6_init_0 by decide +kernel) e h
theorem dX6_init_0 : decode cX6_init 0 = .ok (.aload_n 0, 1) := fq1_42 (fl_X6_init_0 (j := 0) rfl rfl)
theorem dX6_init_1 : decode cX6_init 1 = .ok (.invokespecial 3, 3) := fq3_183 (fl_X6_init_0 (j := 1) rfl rfl) (fl_X6_init_0 (j := 2) rfl rfl) (fl_X6_init_0 (j := 3) rfl rfl) (by decide)
theorem dX6_init_4 : decode cX6_init 4 = .ok (.aload_n 0, 1) := fq1_42 (fl_X6_init_0 (j := 4) rfl rfl)
theorem dX6_init_5 : decode cX6_init 5 = .ok (.aload_n 1, 1) := fq1_43 (fl_X6_init_0 (j := 5) rfl rfl)
theorem dX6_init_6 : decode cX6_init 6 = .ok (.putfield 9, 3) := fq3_181 (fl_X6_init_0 (j := 6) rfl rfl) (fl_X6_init_0 (j := 7) rfl rfl) (fl_X6_init_0 (j := 8) rfl rfl) (by decide)
theorem dX6_init_9 : decode cX6_init 9 = .ok (.return_, 1) := fq1_177 (fl_X6_init_0 (j := 9) rfl rfl)
def fb_X7_init_0 : List UInt8 := [0x2a, 0xb7, 0x00, 0x03, 0x2a, 0x10, 0x3c, 0xbc, 0x0b, 0xb5, 0x00, 0x09, 0x2a, 0x02, 0xb5, 0x00, 0x0f, 0xb1]
theorem fl_X7_init_0 {p j : Nat} {b : UInt8} (e : p = 0 + j) (h : fb_X7_init_0[j]? = some b) : cX7_init.data.toList[p]? = some b := fq_l (n := 64) (show (cX7_init.data.toList.drop 0).take 64 = fb_X7_init_0 by decide +kernel) e h
theorem dX7_init_0 : decode cX7_init 0 = .ok (.aload_n 0, 1) := fq1_42 (fl_X7_init_0 (j := 0) rfl rfl)
theorem dX7_init_1 : decode cX7_init 1 = .ok (.invokespecial 3, 3) := fq3_183 (fl_X7_init_0 (j := 1) rfl rfl) (fl_X7_init_0 (j := 2) rfl rfl) (fl_X7_init_0 (j := 3) rfl rfl) (by decide)
theorem dX7_init_4 : decode cX7_init 4 = .ok (.aload_n 0, 1) := fq1_42 (fl_X7_init_0 (j := 4) rfl rfl)
theorem dX7_init_5 : decode cX7_init 5 = .ok (.bipush 60, 2) := fq2_16 (fl_X7_init_0 (j := 5) rfl rfl) (fl_X7_init_0 (j := 6) rfl rfl) (by decide)
theorem dX7_init_7 : decode cX7_init 7 = .ok (.newarray .long, 2) := by decide +kernel
theorem dX7_init_9 : decode cX7_init 9 = .ok (.putfield 9, 3) := fq3_181 (fl_X7_init_0 (j := 9) rfl rfl) (fl_X7_init_0 (j := 10) rfl rfl) (fl_X7_init_0 (j := 11) rfl rfl) (by decide)
theorem dX7_init_12 : decode cX7_init 12 = .ok (.aload_n 0, 1) := fq1_42 (fl_X7_init_0 (j := 12) rfl rfl)
theorem dX7_init_13 : decode cX7_init 13 = .ok (.iconst (-1), 1) := fq1_2 (fl_X7_init_0 (j := 13) rfl rfl)
theorem dX7_init_14 : decode cX7_init 14 = .ok (.putfield 15, 3) := fq3_181 (fl_X7_init_0 (j := 14) rfl rfl) (fl_X7_init_0 (j := 15) rfl rfl) (fl_X7_init_0 (j := 16) rfl rfl) (by decide)
theorem dX7_init_17 : decode cX7_init 17 = .ok (.return_, 1) := fq1_177 (fl_X7_init_0 (j := 17) rfl rfl)
def fb_X8_init_0 : List UInt8 := [0x2a, 0xb7, 0x00, 0x03, 0x2a, 0xbb, 0x00, 0x09, 0x59, 0xb7, 0x00, 0x0b, 0xb5, 0x00, 0x0c, 0x2a, 0xbb, 0x00, 0x12, 0x59, 0xb7, 0x00, 0x14, 0xb5, 0x00, 0x15, 0x2a, 0xbb, 0x00, 0x19, 0x59, 0xb7, 0x00, 0x1b, 0xb5, 0x00, 0x1c, 0xb1]
theorem fl_X8_init_0 {p j : Nat} {b : UInt8} (e : p = 0 + j) (h : fb_X8_init_0[j]? = some b) : cX8_init.data.toList[p]? = some b := fq_l (n := 64) (show (cX8_init.data.toList.drop 0).take 64 = fb_X8_init_0 by decide +kernel) e h
theorem dX8_init_0 : decode cX8_init 0 = .ok (.aload_n 0, 1) := fq1_42 (fl_X8_init_0 (j := 0) rfl rfl)
theorem dX8_init_1 : decode cX8_init 1 = .ok (.invokespecial 3, 3) := fq3_183 (fl_X8_init_0 (j := 1) rfl rfl) (fl_X8_init_0 (j := 2) rfl rfl) (fl_X8_init_0 (j := 3) rfl rfl) (by decide)
theorem dX8_init_4 : decode cX8_init 4 = .ok (.aload_n 0, 1) := fq1_42 (fl_X8_init_0 (j := 4) rfl rfl)
theorem dX8_init_5 : decode cX8_init 5 = .ok (.new 9, 3) := fq3_187 (fl_X8_init_0 (j := 5) rfl rfl) (fl_X8_init_0 (j := 6) rfl rfl) (fl_X8_init_0 (j := 7) rfl rfl) (by decide)
theorem dX8_init_8 : decode cX8_init 8 = .ok (.dup, 1) := fq1_89 (fl_X8_init_0 (j := 8) rfl rfl)
theorem dX8_init_9 : decode cX8_init 9 = .ok (.invokespecial 11, 3) := fq3_183 (fl_X8_init_0 (j := 9) rfl rfl) (fl_X8_init_0 (j := 10) rfl rfl) (fl_X8_init_0 (j := 11) rfl rfl) (by decide)
theorem dX8_init_12 : decode cX8_init 12 = .ok (.putfield 12, 3) := fq3_181 (fl_X8_init_0 (j := 12) rfl rfl) (fl_X8_init_0 (j := 13) rfl rfl) (fl_X8_init_0 (j := 14) rfl rfl) (by decide)
theorem dX8_init_15 : decode cX8_init 15 = .ok (.aload_n 0, 1) := fq1_42 (fl_X8_init_0 (j := 15) rfl rfl)
theorem dX8_init_16 : decode cX8_init 16 = .ok (.new 18, 3) := fq3_187 (fl_X8_init_0 (j := 16) rfl rfl) (fl_X8_init_0 (j := 17) rfl rfl) (fl_X8_init_0 (j := 18) rfl rfl) (by decide)
theorem dX8_init_19 : decode cX8_init 19 = .ok (.dup, 1) := fq1_89 (fl_X8_init_0 (j := 19) rfl rfl)
theorem dX8_init_20 : decode cX8_init 20 = .ok (.invokespecial 20, 3) := fq3_183 (fl_X8_init_0 (j := 20) rfl rfl) (fl_X8_init_0 (j := 21) rfl rfl) (fl_X8_init_0 (j := 22) rfl rfl) (by decide)
theorem dX8_init_23 : decode cX8_init 23 = .ok (.putfield 21, 3) := fq3_181 (fl_X8_init_0 (j := 23) rfl rfl) (fl_X8_init_0 (j := 24) rfl rfl) (fl_X8_init_0 (j := 25) rfl rfl) (by decide)
theorem dX8_init_26 : decode cX8_init 26 = .ok (.aload_n 0, 1) := fq1_42 (fl_X8_init_0 (j := 26) rfl rfl)
theorem dX8_init_27 : decode cX8_init 27 = .ok (.new 25, 3) := fq3_187 (fl_X8_init_0 (j := 27) rfl rfl) (fl_X8_init_0 (j := 28) rfl rfl) (fl_X8_init_0 (j := 29) rfl rfl) (by decide)
theorem dX8_init_30 : decode cX8_init 30 = .ok (.dup, 1) := fq1_89 (fl_X8_init_0 (j := 30) rfl rfl)
theorem dX8_init_31 : decode cX8_init 31 = .ok (.invokespecial 27, 3) := fq3_183 (fl_X8_init_0 (j := 31) rfl rfl) (fl_X8_init_0 (j := 32) rfl rfl) (fl_X8_init_0 (j := 33) rfl rfl) (by decide)
theorem dX8_init_34 : decode cX8_init 34 = .ok (.putfield 28, 3) := fq3_181 (fl_X8_init_0 (j := 34) rfl rfl) (fl_X8_init_0 (j := 35) rfl rfl) (fl_X8_init_0 (j := 36) rfl rfl) (by decide)
theorem dX8_init_37 : decode cX8_init 37 = .ok (.return_, 1) := fq1_177 (fl_X8_init_0 (j := 37) rfl rfl)
def fb_X9_init_0 : List UInt8 := [0x2a, 0xb7, 0x00, 0x03, 0x2a, 0x10, 0x3c, 0xbc, 0x0a, 0xb5, 0x00, 0x0b, 0x2a, 0x10, 0x3c, 0xbc, 0x0a, 0xb5, 0x00, 0x0f, 0x2a, 0x10, 0x3c, 0xbc, 0x0a, 0xb5, 0x00, 0x12, 0x2a, 0x10, 0x3c, 0xbc, 0x0a, 0xb5, 0x00, 0x15, 0x2a, 0x10, 0x3c, 0xbc, 0x0a, 0xb5, 0x00, 0x18, 0xb1]
theorem fl_X9_init_0 {p j : Nat} {b : UInt8} (e : p = 0 + j) (h : fb_X9_init_0[j]? = some b) : cX9_init.data.toList[p]? = some b := fq_l (n := 64) (show (cX9_init.data.toList.drop 0).take 64 = fb_X9_init_0 by decide +kernel) e h
theorem dX9_init_0 : decode cX9_init 0 = .ok (.aload_n 0, 1) := fq1_42 (fl_X9_init_0 (j := 0) rfl rfl)
theorem dX9_init_1 : decode cX9_init 1 = .ok (.invokespecial 3, 3) := fq3_183 (fl_X9_init_0 (j := 1) rfl rfl) (fl_X9_init_0 (j := 2) rfl rfl) (fl_X9_init_0 (j := 3) rfl rfl) (by decide)
theorem dX9_init_4 : decode cX9_init 4 = .ok (.aload_n 0, 1) := fq1_42 (fl_X9_init_0 (j := 4) rfl rfl)
theorem dX9_init_5 : decode cX9_init 5 = .ok (.bipush 60, 2) := fq2_16 (fl_X9_init_0 (j := 5) rfl rfl) (fl_X9_init_0 (j := 6) rfl rfl) (by decide)
theorem dX9_init_7 : decode cX9_init 7 = .ok (.newarray .int, 2) := by decide +kernel
theorem dX9_init_9 : decode cX9_init 9 = .ok (.putfield 11, 3) := fq3_181 (fl_X9_init_0 (j := 9) rfl rfl) (fl_X9_init_0 (j := 10) rfl rfl) (fl_X9_init_0 (j := 11) rfl rfl) (by decide)
theorem dX9_init_12 : decode cX9_init 12 = .ok (.aload_n 0, 1) := fq1_42 (fl_X9_init_0 (j := 12) rfl rfl)
theorem dX9_init_13 : decode cX9_init 13 = .ok (.bipush 60, 2) := fq2_16 (fl_X9_init_0 (j := 13) rfl rfl) (fl_X9_init_0 (j := 14) rfl rfl) (by decide)
theorem dX9_init_15 : decode cX9_init 15 = .ok (.newarray .int, 2) := by decide +kernel
theorem dX9_init_17 : decode cX9_init 17 = .ok (.putfield 15, 3) := fq3_181 (fl_X9_init_0 (j := 17) rfl rfl) (fl_X9_init_0 (j := 18) rfl rfl) (fl_X9_init_0 (j := 19) rfl rfl) (by decide)
theorem dX9_init_20 : decode cX9_init 20 = .ok (.aload_n 0, 1) := fq1_42 (fl_X9_init_0 (j := 20) rfl rfl)
theorem dX9_init_21 : decode cX9_init 21 = .ok (.bipush 60, 2) := fq2_16 (fl_X9_init_0 (j := 21) rfl rfl) (fl_X9_init_0 (j := 22) rfl rfl) (by decide)
theorem dX9_init_23 : decode cX9_init 23 = .ok (.newarray .int, 2) := by decide +kernel
theorem dX9_init_25 : decode cX9_init 25 = .ok (.putfield 18, 3) := fq3_181 (fl_X9_init_0 (j := 25) rfl rfl) (fl_X9_init_0 (j := 26) rfl rfl) (fl_X9_init_0 (j := 27) rfl rfl) (by decide)
theorem dX9_init_28 : decode cX9_init 28 = .ok (.aload_n 0, 1) := fq1_42 (fl_X9_init_0 (j := 28) rfl rfl)
theorem dX9_init_29 : decode cX9_init 29 = .ok (.bipush 60, 2) := fq2_16 (fl_X9_init_0 (j := 29) rfl rfl) (fl_X9_init_0 (j := 30) rfl rfl) (by decide)
theorem dX9_init_31 : decode cX9_init 31 = .ok (.newarray .int, 2) := by decide +kernel
theorem dX9_init_33 : decode cX9_init 33 = .ok (.putfield 21, 3) := fq3_181 (fl_X9_init_0 (j := 33) rfl rfl) (fl_X9_init_0 (j := 34) rfl rfl) (fl_X9_init_0 (j := 35) rfl rfl) (by decide)
theorem dX9_init_36 : decode cX9_init 36 = .ok (.aload_n 0, 1) := fq1_42 (fl_X9_init_0 (j := 36) rfl rfl)
theorem dX9_init_37 : decode cX9_init 37 = .ok (.bipush 60, 2) := fq2_16 (fl_X9_init_0 (j := 37) rfl rfl) (fl_X9_init_0 (j := 38) rfl rfl) (by decide)
theorem dX9_init_39 : decode cX9_init 39 = .ok (.newarray .int, 2) := by decide +kernel
theorem dX9_init_41 : decode cX9_init 41 = .ok (.putfield 24, 3) := fq3_181 (fl_X9_init_0 (j := 41) rfl rfl) (fl_X9_init_0 (j := 42) rfl rfl) (fl_X9_init_0 (j := 43) rfl rfl) (by decide)
theorem dX9_init_44 : decode cX9_init 44 = .ok (.return_, 1) := fq1_177 (fl_X9_init_0 (j := 44) rfl rfl)
