theorem qc_X12_isNews : Cond.code yX12_isNews cX12_isNews 3 (some .boolean) ∈ gw := tbt (tb7 (List.mem_of_getElem? (i := 216) rfl)) rfl
theorem qi_yX12_isNews : Cond.instanceMethod yX12_isNews ∈ gw := tbt (tb7 (List.mem_of_getElem? (i := 215) rfl)) rfl
theorem qs_X12_isNews : Cond.selects (yX12_isNews).cls yX12_isNews yX12_isNews ∈ gw := tb0 (List.mem_of_getElem? (i := 76) rfl) rfl
theorem ci_X12_isNews : CIv yX12_isNews cX12_isNews 3 (some .boolean) 2 := ⟨qc_X12_isNews, qi_yX12_isNews, qs_X12_isNews, qz_X12, by decide +kernel⟩
theorem qm_X12_299 : Cond.methodLink RX12 299 yX12_isNews ∈ gw := tbt (tb7 (List.mem_of_getElem? (i := 213) rfl)) rfl
theorem qc_X12_lays : Cond.code yX12_lays cX12_lays 7 none ∈ gw := tbt (tb7 (List.mem_of_getElem? (i := 220) rfl)) rfl
theorem qi_yX12_lays : Cond.instanceMethod yX12_lays ∈ gw := tbt (tb7 (List.mem_of_getElem? (i := 219) rfl)) rfl
theorem qs_X12_lays : Cond.selects (yX12_lays).cls yX12_lays yX12_lays ∈ gw := tb0 (List.mem_of_getElem? (i := 77) rfl) rfl
theorem ci_X12_lays : CIv yX12_lays cX12_lays 7 none 2 := ⟨qc_X12_lays, qi_yX12_lays, qs_X12_lays, qz_X12, by decide +kernel⟩
theorem qm_X12_302 : Cond.methodLink RX12 302 yX12_lays ∈ gw := tbt (tb7 (List.mem_of_getElem? (i := 217) rfl)) rfl
theorem qc_X12_setBy : Cond.code yX12_setBy cX12_setBy 4 (some .int) ∈ gw := tbt (tb7 (List.mem_of_getElem? (i := 236) rfl)) rfl
theorem qi_yX12_setBy : Cond.instanceMethod yX12_setBy ∈ gw := tbt (tb7 (List.mem_of_getElem? (i := 235) rfl)) rfl
theorem qs_X12_setBy : Cond.selects (yX12_setBy).cls yX12_setBy yX12_setBy ∈ gw := tb0 (List.mem_of_getElem? (i := 78) rfl) rfl
theorem ci_X12_setBy : CIv yX12_setBy cX12_setBy 4 (some .int) 1 := ⟨qc_X12_setBy, qi_yX12_setBy, qs_X12_setBy, qz_X12, by decide +kernel⟩
theorem qm_X12_306 : Cond.methodLink RX12 306 yX12_setBy ∈ gw := tbt (tb7 (List.mem_of_getElem? (i := 233) rfl)) rfl
theorem qc_X12_lastOne : Cond.code yX12_lastOne cX12_lastOne 3 (some .int) ∈ gw := tbt (tb8 (List.mem_of_getElem? (i := 13) rfl)) rfl
theorem qi_yX12_lastOne : Cond.instanceMethod yX12_lastOne ∈ gw := tbt (tb8 (List.mem_of_getElem? (i := 12) rfl)) rfl
theorem qs_X12_lastOne : Cond.selects (yX12_lastOne).cls yX12_lastOne yX12_lastOne ∈ gw := tb0 (List.mem_of_getElem? (i := 79) rfl) rfl
theorem ci_X12_lastOne : CIv yX12_lastOne cX12_lastOne 3 (some .int) 0 := ⟨qc_X12_lastOne, qi_yX12_lastOne, qs_X12_lastOne, qz_X12, by decide +kernel⟩
theorem qm_X12_311 : Cond.methodLink RX12 311 yX12_lastOne ∈ gw := tbt (tb8 (List.mem_of_getElem? (i := 10) rfl)) rfl
theorem qk_X12_314 : Cond.constant RX12 314 (999999) ∈ gw := tbt (tb8 (List.mem_of_getElem? (i := 22) rfl)) rfl
theorem qk_X12_136 : Cond.constant RX12 136 (100000) ∈ gw := tbt (tb6 (List.mem_of_getElem? (i := 230) rfl)) rfl
def fb_X12_centre_0 : List UInt8 := [0x1b, 0xb8, 0x01, 0x0c, 0x9a, 0x00, 0x09, 0x2a, 0x04, 0xb6, 0x00, 0x51, 0xac, 0x02, 0x3d, 0x12, 0x58, 0x3e, 0x03, 0x36, 0x04, 0x15, 0x04, 0x2a, 0xb4, 0x00, 0x07, 0x03, 0x2e, 0xa2, 0x00, 0x2d, 0x2a, 0x15, 0x04, 0x1b, 0xb6, 0x01, 0x2e, 0x2a, 0xb4, 0x00, 0x2f, 0x2a, 0xb6, 0x01, 0x37, 0x2e, 0x1d, 0xa1, 0x00, 0x06, 0xa7, 0x00, 0x10, 0x2a, 0xb4, 0x00, 0x2f, 0x2a, 0xb6, 0x01, 0x37, 0x2e]
theorem fl_X12_centre_0 {p j : Nat} {b : UInt8} (e : p = 0 + j) (h : fb_X12_centre_0[j]? = some b) : cX12_centre.data.toList[p]? = some b := fq_l (n := 64) (show (cX12_centre.data.toList.drop 0).take 64 = fb_X12_centre_0 by decide +kernel) e h
theorem dX12_centre_0 : decode cX12_centre 0 = .ok (.iload_n 1, 1) := fq1_27 (fl_X12_centre_0 (j := 0) rfl rfl)
theorem dX12_centre_1 : decode cX12_centre 1 = .ok (.invokestatic 268, 3) := fq3_184 (fl_X12_centre_0 (j := 1) rfl rfl) (fl_X12_centre_0 (j := 2) rfl rfl) (fl_X12_centre_0 (j := 3) rfl rfl) rfl
theorem dX12_centre_4 : decode cX12_centre 4 = .ok (.ifCond .ne 9, 3) := fq3_154 (fl_X12_centre_0 (j := 4) rfl rfl) (fl_X12_centre_0 (j := 5) rfl rfl) (fl_X12_centre_0 (j := 6) rfl rfl) (s2p rfl (bl rfl))
theorem dX12_centre_7 : decode cX12_centre 7 = .ok (.aload_n 0, 1) := fq1_42 (fl_X12_centre_0 (j := 7) rfl rfl)
theorem dX12_centre_8 : decode cX12_centre 8 = .ok (.iconst 1, 1) := fq1_4 (fl_X12_centre_0 (j := 8) rfl rfl)
theorem dX12_centre_9 : decode cX12_centre 9 = .ok (.invokevirtual 81, 3) := fq3_182 (fl_X12_centre_0 (j := 9) rfl rfl) (fl_X12_centre_0 (j := 10) rfl rfl) (fl_X12_centre_0 (j := 11) rfl rfl) rfl
theorem dX12_centre_12 : decode cX12_centre 12 = .ok (.ireturn, 1) := fq1_172 (fl_X12_centre_0 (j := 12) rfl rfl)
theorem dX12_centre_13 : decode cX12_centre 13 = .ok (.iconst (-1), 1) := fq1_2 (fl_X12_centre_0 (j := 13) rfl rfl)
theorem dX12_centre_14 : decode cX12_centre 14 = .ok (.istore_n 2, 1) := fq1_61 (fl_X12_centre_0 (j := 14) rfl rfl)
theorem dX12_centre_15 : decode cX12_centre 15 = .ok (.ldc 88, 2) := fq2_18 (fl_X12_centre_0 (j := 15) rfl rfl) (fl_X12_centre_0 (j := 16) rfl rfl) rfl
theorem dX12_centre_17 : decode cX12_centre 17 = .ok (.istore_n 3, 1) := fq1_62 (fl_X12_centre_0 (j := 17) rfl rfl)
theorem dX12_centre_18 : decode cX12_centre 18 = .ok (.iconst 0, 1) := fq1_3 (fl_X12_centre_0 (j := 18) rfl rfl)
theorem dX12_centre_19 : decode cX12_centre 19 = .ok (.istore 4, 2) := fq2_54 (fl_X12_centre_0 (j := 19) rfl rfl) (fl_X12_centre_0 (j := 20) rfl rfl) rfl
theorem dX12_centre_21 : decode cX12_centre 21 = .ok (.iload 4, 2) := fq2_21 (fl_X12_centre_0 (j := 21) rfl rfl) (fl_X12_centre_0 (j := 22) rfl rfl) rfl
theorem dX12_centre_23 : decode cX12_centre 23 = .ok (.aload_n 0, 1) := fq1_42 (fl_X12_centre_0 (j := 23) rfl rfl)
theorem dX12_centre_24 : decode cX12_centre 24 = .ok (.getfield 7, 3) := fq3_180 (fl_X12_centre_0 (j := 24) rfl rfl) (fl_X12_centre_0 (j := 25) rfl rfl) (fl_X12_centre_0 (j := 26) rfl rfl) rfl
theorem dX12_centre_27 : decode cX12_centre 27 = .ok (.iconst 0, 1) := fq1_3 (fl_X12_centre_0 (j := 27) rfl rfl)
theorem dX12_centre_28 : decode cX12_centre 28 = .ok (.iaload, 1) := fq1_46 (fl_X12_centre_0 (j := 28) rfl rfl)
theorem dX12_centre_29 : decode cX12_centre 29 = .ok (.if_icmp .ge 45, 3) := fq3_162 (fl_X12_centre_0 (j := 29) rfl rfl) (fl_X12_centre_0 (j := 30) rfl rfl) (fl_X12_centre_0 (j := 31) rfl rfl) (s2p rfl (bl rfl))
theorem dX12_centre_32 : decode cX12_centre 32 = .ok (.aload_n 0, 1) := fq1_42 (fl_X12_centre_0 (j := 32) rfl rfl)
theorem dX12_centre_33 : decode cX12_centre 33 = .ok (.iload 4, 2) := fq2_21 (fl_X12_centre_0 (j := 33) rfl rfl) (fl_X12_centre_0 (j := 34) rfl rfl) rfl
theorem dX12_centre_35 : decode cX12_centre 35 = .ok (.iload_n 1, 1) := fq1_27 (fl_X12_centre_0 (j := 35) rfl rfl)
theorem dX12_centre_36 : decode cX12_centre 36 = .ok (.invokevirtual 302, 3) := fq3_182 (fl_X12_centre_0 (j := 36) rfl rfl) (fl_X12_centre_0 (j := 37) rfl rfl) (fl_X12_centre_0 (j := 38) rfl rfl) rfl
theorem dX12_centre_39 : decode cX12_centre 39 = .ok (.aload_n 0, 1) := fq1_42 (fl_X12_centre_0 (j := 39) rfl rfl)
theorem dX12_centre_40 : decode cX12_centre 40 = .ok (.getfield 47, 3) := fq3_180 (fl_X12_centre_0 (j := 40) rfl rfl) (fl_X12_centre_0 (j := 41) rfl rfl) (fl_X12_centre_0 (j := 42) rfl rfl) rfl
theorem dX12_centre_43 : decode cX12_centre 43 = .ok (.aload_n 0, 1) := fq1_42 (fl_X12_centre_0 (j := 43) rfl rfl)
theorem dX12_centre_44 : decode cX12_centre 44 = .ok (.invokevirtual 311, 3) := fq3_182 (fl_X12_centre_0 (j := 44) rfl rfl) (fl_X12_centre_0 (j := 45) rfl rfl) (fl_X12_centre_0 (j := 46) rfl rfl) rfl
theorem dX12_centre_47 : decode cX12_centre 47 = .ok (.iaload, 1) := fq1_46 (fl_X12_centre_0 (j := 47) rfl rfl)
theorem dX12_centre_48 : decode cX12_centre 48 = .ok (.iload_n 3, 1) := fq1_29 (fl_X12_centre_0 (j := 48) rfl rfl)
theorem dX12_centre_49 : decode cX12_centre 49 = .ok (.if_icmp .lt 6, 3) := fq3_161 (fl_X12_centre_0 (j := 49) rfl rfl) (fl_X12_centre_0 (j := 50) rfl rfl) (fl_X12_centre_0 (j := 51) rfl rfl) (s2p rfl (bl rfl))
theorem dX12_centre_52 : decode cX12_centre 52 = .ok (.goto 16, 3) := fq3_167 (fl_X12_centre_0 (j := 52) rfl rfl) (fl_X12_centre_0 (j := 53) rfl rfl) (fl_X12_centre_0 (j := 54) rfl rfl) (s2p rfl (bl rfl))
theorem dX12_centre_55 : decode cX12_centre 55 = .ok (.aload_n 0, 1) := fq1_42 (fl_X12_centre_0 (j := 55) rfl rfl)
theorem dX12_centre_56 : decode cX12_centre 56 = .ok (.getfield 47, 3) := fq3_180 (fl_X12_centre_0 (j := 56) rfl rfl) (fl_X12_centre_0 (j := 57) rfl rfl) (fl_X12_centre_0 (j := 58) rfl rfl) rfl
theorem dX12_centre_59 : decode cX12_centre 59 = .ok (.aload_n 0, 1) := fq1_42 (fl_X12_centre_0 (j := 59) rfl rfl)
theorem dX12_centre_60 : decode cX12_centre 60 = .ok (.invokevirtual 311, 3) := fq3_182 (fl_X12_centre_0 (j := 60) rfl rfl) (fl_X12_centre_0 (j := 61) rfl rfl) (fl_X12_centre_0 (j := 62) rfl rfl) rfl
theorem dX12_centre_63 : decode cX12_centre 63 = .ok (.iaload, 1) := fq1_46 (fl_X12_centre_0 (j := 63) rfl rfl)
def fb_X12_centre_1 : List UInt8 := [0x3e, 0x15, 0x04, 0x3d, 0x84, 0x04, 0x01, 0xa7, 0xff, 0xce, 0x2a, 0x1c, 0xb6, 0x01, 0x22, 0xac]
theorem fl_X12_centre_1 {p j : Nat} {b : UInt8} (e : p = 64 + j) (h : fb_X12_centre_1[j]? = some b) : cX12_centre.data.toList[p]? = some b := fq_l (n := 64) (show (cX12_centre.data.toList.drop 64).take 64 = fb_X12_centre_1 by decide +kernel) e h
theorem dX12_centre_64 : decode cX12_centre 64 = .ok (.istore_n 3, 1) := fq1_62 (fl_X12_centre_1 (j := 0) rfl rfl)
theorem dX12_centre_65 : decode cX12_centre 65 = .ok (.iload 4, 2) := fq2_21 (fl_X12_centre_1 (j := 1) rfl rfl) (fl_X12_centre_1 (j := 2) rfl rfl) rfl
theorem dX12_centre_67 : decode cX12_centre 67 = .ok (.istore_n 2, 1) := fq1_61 (fl_X12_centre_1 (j := 3) rfl rfl)
theorem dX12_centre_68 : decode cX12_centre 68 = .ok (.iinc 4 1, 3) := fq3_132 (fl_X12_centre_1 (j := 4) rfl rfl) (fl_X12_centre_1 (j := 5) rfl rfl) (fl_X12_centre_1 (j := 6) rfl rfl) rfl (s1p rfl (bl rfl))
theorem dX12_centre_71 : decode cX12_centre 71 = .ok (.goto (-50), 3) := fq3_167 (fl_X12_centre_1 (j := 7) rfl rfl) (fl_X12_centre_1 (j := 8) rfl rfl) (fl_X12_centre_1 (j := 9) rfl rfl) (by decide)
theorem dX12_centre_74 : decode cX12_centre 74 = .ok (.aload_n 0, 1) := fq1_42 (fl_X12_centre_1 (j := 10) rfl rfl)
theorem dX12_centre_75 : decode cX12_centre 75 = .ok (.iload_n 2, 1) := fq1_28 (fl_X12_centre_1 (j := 11) rfl rfl)
theorem dX12_centre_76 : decode cX12_centre 76 = .ok (.invokevirtual 290, 3) := fq3_182 (fl_X12_centre_1 (j := 12) rfl rfl) (fl_X12_centre_1 (j := 13) rfl rfl) (fl_X12_centre_1 (j := 14) rfl rfl) rfl
theorem dX12_centre_79 : decode cX12_centre 79 = .ok (.ireturn, 1) := fq1_172 (fl_X12_centre_1 (j := 15) rfl rfl)
def fb_X12_cutOff_0 : List UInt8 := [0x2a, 0x1b, 0x1c, 0xb6, 0x01, 0x2b, 0x9a, 0x00, 0x09, 0x2a, 0x04, 0xb6, 0x00, 0x51, 0xac, 0x2a, 0x1b, 0x1c, 0xb6, 0x01, 0x2e, 0x2a, 0x04, 0x2a, 0xb4, 0x00, 0x07, 0x03, 0x2e, 0x78, 0x04, 0x64, 0x2a, 0x13, 0x01, 0x3a, 0xb6, 0x01, 0x32, 0x02, 0x82, 0x7e, 0xb6, 0x00, 0x55, 0xac]
theorem fl_X12_cutOff_0 {p j : Nat} {b : UInt8} (e : p = 0 + j) (h : fb_X12_cutOff_0[j]? = some b) : cX12_cutOff.data.toList[p]? = some b := fq_l (n := 64) (show (cX12_cutOff.data.toList.drop 0).take 64 = fb_X12_cutOff_0 by decide +kernel) e h
theorem dX12_cutOff_0 : decode cX12_cutOff 0 = .ok (.aload_n 0, 1) := fq1_42 (fl_X12_cutOff_0 (j := 0) rfl rfl)
theorem dX12_cutOff_1 : decode cX12_cutOff 1 = .ok (.iload_n 1, 1) := fq1_27 (fl_X12_cutOff_0 (j := 1) rfl rfl)
theorem dX12_cutOff_2 : decode cX12_cutOff 2 = .ok (.iload_n 2, 1) := fq1_28 (fl_X12_cutOff_0 (j := 2) rfl rfl)
theorem dX12_cutOff_3 : decode cX12_cutOff 3 = .ok (.invokevirtual 299, 3) := fq3_182 (fl_X12_cutOff_0 (j := 3) rfl rfl) (fl_X12_cutOff_0 (j := 4) rfl rfl) (fl_X12_cutOff_0 (j := 5) rfl rfl) rfl
theorem dX12_cutOff_6 : decode cX12_cutOff 6 = .ok (.ifCond .ne 9, 3) := fq3_154 (fl_X12_cutOff_0 (j := 6) rfl rfl) (fl_X12_cutOff_0 (j := 7) rfl rfl) (fl_X12_cutOff_0 (j := 8) rfl rfl) (s2p rfl (bl rfl))
theorem dX12_cutOff_9 : decode cX12_cutOff 9 = .ok (.aload_n 0, 1) := fq1_42 (fl_X12_cutOff_0 (j := 9) rfl rfl)
theorem dX12_cutOff_10 : decode cX12_cutOff 10 = .ok (.iconst 1, 1) := fq1_4 (fl_X12_cutOff_0 (j := 10) rfl rfl)
theorem dX12_cutOff_11 : decode cX12_cutOff 11 = .ok (.invokevirtual 81, 3) := fq3_182 (fl_X12_cutOff_0 (j := 11) rfl rfl) (fl_X12_cutOff_0 (j := 12) rfl rfl) (fl_X12_cutOff_0 (j := 13) rfl rfl) rfl
theorem dX12_cutOff_14 : decode cX12_cutOff 14 = .ok (.ireturn, 1) := fq1_172 (fl_X12_cutOff_0 (j := 14) rfl rfl)
theorem dX12_cutOff_15 : decode cX12_cutOff 15 = .ok (.aload_n 0, 1) := fq1_42 (fl_X12_cutOff_0 (j := 15) rfl rfl)
theorem dX12_cutOff_16 : decode cX12_cutOff 16 = .ok (.iload_n 1, 1) := fq1_27 (fl_X12_cutOff_0 (j := 16) rfl rfl)
theorem dX12_cutOff_17 : decode cX12_cutOff 17 = .ok (.iload_n 2, 1) := fq1_28 (fl_X12_cutOff_0 (j := 17) rfl rfl)
theorem dX12_cutOff_18 : decode cX12_cutOff 18 = .ok (.invokevirtual 302, 3) := fq3_182 (fl_X12_cutOff_0 (j := 18) rfl rfl) (fl_X12_cutOff_0 (j := 19) rfl rfl) (fl_X12_cutOff_0 (j := 20) rfl rfl) rfl
theorem dX12_cutOff_21 : decode cX12_cutOff 21 = .ok (.aload_n 0, 1) := fq1_42 (fl_X12_cutOff_0 (j := 21) rfl rfl)
theorem dX12_cutOff_22 : decode cX12_cutOff 22 = .ok (.iconst 1, 1) := fq1_4 (fl_X12_cutOff_0 (j := 22) rfl rfl)
theorem dX12_cutOff_23 : decode cX12_cutOff 23 = .ok (.aload_n 0, 1) := fq1_42 (fl_X12_cutOff_0 (j := 23) rfl rfl)
theorem dX12_cutOff_24 : decode cX12_cutOff 24 = .ok (.getfield 7, 3) := fq3_180 (fl_X12_cutOff_0 (j := 24) rfl rfl) (fl_X12_cutOff_0 (j := 25) rfl rfl) (fl_X12_cutOff_0 (j := 26) rfl rfl) rfl
theorem dX12_cutOff_27 : decode cX12_cutOff 27 = .ok (.iconst 0, 1) := fq1_3 (fl_X12_cutOff_0 (j := 27) rfl rfl)
theorem dX12_cutOff_28 : decode cX12_cutOff 28 = .ok (.iaload, 1) := fq1_46 (fl_X12_cutOff_0 (j := 28) rfl rfl)
theorem dX12_cutOff_29 : decode cX12_cutOff 29 = .ok (.ishl, 1) := fq1_120 (fl_X12_cutOff_0 (j := 29) rfl rfl)
theorem dX12_cutOff_30 : decode cX12_cutOff 30 = .ok (.iconst 1, 1) := fq1_4 (fl_X12_cutOff_0 (j := 30) rfl rfl)
theorem dX12_cutOff_31 : decode cX12_cutOff 31 = .ok (.isub, 1) := fq1_100 (fl_X12_cutOff_0 (j := 31) rfl rfl)
theorem dX12_cutOff_32 : decode cX12_cutOff 32 = .ok (.aload_n 0, 1) := fq1_42 (fl_X12_cutOff_0 (j := 32) rfl rfl)
theorem dX12_cutOff_33 : decode cX12_cutOff 33 = .ok (.ldc_w 314, 3) := fq3_19 (fl_X12_cutOff_0 (j := 33) rfl rfl) (fl_X12_cutOff_0 (j := 34) rfl rfl) (fl_X12_cutOff_0 (j := 35) rfl rfl) rfl
theorem dX12_cutOff_36 : decode cX12_cutOff 36 = .ok (.invokevirtual 306, 3) := fq3_182 (fl_X12_cutOff_0 (j := 36) rfl rfl) (fl_X12_cutOff_0 (j := 37) rfl rfl) (fl_X12_cutOff_0 (j := 38) rfl rfl) rfl
theorem dX12_cutOff_39 : decode cX12_cutOff 39 = .ok (.iconst (-1), 1) := fq1_2 (fl_X12_cutOff_0 (j := 39) rfl rfl)
theorem dX12_cutOff_40 : decode cX12_cutOff 40 = .ok (.ixor, 1) := fq1_130 (fl_X12_cutOff_0 (j := 40) rfl rfl)
theorem dX12_cutOff_41 : decode cX12_cutOff 41 = .ok (.iand, 1) := fq1_126 (fl_X12_cutOff_0 (j := 41) rfl rfl)
theorem dX12_cutOff_42 : decode cX12_cutOff 42 = .ok (.invokevirtual 85, 3) := fq3_182 (fl_X12_cutOff_0 (j := 42) rfl rfl) (fl_X12_cutOff_0 (j := 43) rfl rfl) (fl_X12_cutOff_0 (j := 44) rfl rfl) rfl
theorem dX12_cutOff_45 : decode cX12_cutOff 45 = .ok (.ireturn, 1) := fq1_172 (fl_X12_cutOff_0 (j := 45) rfl rfl)
def fb_X12_hearsBack_0 : List UInt8 := [0x2a, 0x1b, 0x1c, 0xb6, 0x01, 0x2b, 0x9a, 0x00, 0x09, 0x2a, 0x04, 0xb6, 0x00, 0x51, 0xac, 0x2a, 0x1b, 0x1c, 0xb6, 0x01, 0x2e, 0x12, 0x58, 0x3e, 0x03, 0x36, 0x04, 0x15, 0x04, 0x2a, 0xb4, 0x00, 0x07, 0x03, 0x2e, 0xa2, 0x00, 0x22, 0x15, 0x04, 0x1b, 0x9f, 0x00, 0x16, 0x1d, 0x2a, 0x15, 0x04, 0x2a, 0xb4, 0x00, 0x2f, 0x15, 0x04, 0x2e, 0x1b, 0xb6, 0x01, 0x18, 0xb8, 0x00, 0x89, 0x3e, 0x84]
theorem fl_X12_hearsBack_0 {p j : Nat} {b : UInt8} (e : p = 0 + j) (h : fb_X12_hearsBack_0[j]? = some b) : cX12_hearsBack.data.toList[p]? = some b := fq_l (n := 64) (show (cX12_hearsBack.data.toList.drop 0).take 64 = fb_X12_hearsBack_0 by decide +kernel) e h
theorem dX12_hearsBack_0 : decode cX12_hearsBack 0 = .ok (.aload_n 0, 1) := fq1_42 (fl_X12_hearsBack_0 (j := 0) rfl rfl)
theorem dX12_hearsBack_1 : decode cX12_hearsBack 1 = .ok (.iload_n 1, 1) := fq1_27 (fl_X12_hearsBack_0 (j := 1) rfl rfl)
theorem dX12_hearsBack_2 : decode cX12_hearsBack 2 = .ok (.iload_n 2, 1) := fq1_28 (fl_X12_hearsBack_0 (j := 2) rfl rfl)
theorem dX12_hearsBack_3 : decode cX12_hearsBack 3 = .ok (.invokevirtual 299, 3) := fq3_182 (fl_X12_hearsBack_0 (j := 3) rfl rfl) (fl_X12_hearsBack_0 (j := 4) rfl rfl) (fl_X12_hearsBack_0 (j := 5) rfl rfl) rfl
theorem dX12_hearsBack_6 : decode cX12_hearsBack 6 = .ok (.ifCond .ne 9, 3) := fq3_154 (fl_X12_hearsBack_0 (j := 6) rfl rfl) (fl_X12_hearsBack_0 (j := 7) rfl rfl) (fl_X12_hearsBack_0 (j := 8) rfl rfl) (s2p rfl (bl rfl))
theorem dX12_hearsBack_9 : decode cX12_hearsBack 9 = .ok (.aload_n 0, 1) := fq1_42 (fl_X12_hearsBack_0 (j := 9) rfl rfl)
theorem dX12_hearsBack_10 : decode cX12_hearsBack 10 = .ok (.iconst 1, 1) := fq1_4 (fl_X12_hearsBack_0 (j := 10) rfl rfl)
theorem dX12_hearsBack_11 : decode cX12_hearsBack 11 = .ok (.invokevirtual 81, 3) := fq3_182 (fl_X12_hearsBack_0 (j := 11) rfl rfl) (fl_X12_hearsBack_0 (j := 12) rfl rfl) (fl_X12_hearsBack_0 (j := 13) rfl rfl) rfl
theorem dX12_hearsBack_14 : decode cX12_hearsBack 14 = .ok (.ireturn, 1) := fq1_172 (fl_X12_hearsBack_0 (j := 14) rfl rfl)
theorem dX12_hearsBack_15 : decode cX12_hearsBack 15 = .ok (.aload_n 0, 1) := fq1_42 (fl_X12_hearsBack_0 (j := 15) rfl rfl)
theorem dX12_hearsBack_16 : decode cX12_hearsBack 16 = .ok (.iload_n 1, 1) := fq1_27 (fl_X12_hearsBack_0 (j := 16) rfl rfl)
theorem dX12_hearsBack_17 : decode cX12_hearsBack 17 = .ok (.iload_n 2, 1) := fq1_28 (fl_X12_hearsBack_0 (j := 17) rfl rfl)
theorem dX12_hearsBack_18 : decode cX12_hearsBack 18 = .ok (.invokevirtual 302, 3) := fq3_182 (fl_X12_hearsBack_0 (j := 18) rfl rfl) (fl_X12_hearsBack_0 (j := 19) rfl rfl) (fl_X12_hearsBack_0 (j := 20) rfl rfl) rfl
theorem dX12_hearsBack_21 : decode cX12_hearsBack 21 = .ok (.ldc 88, 2) := fq2_18 (fl_X12_hearsBack_0 (j := 21) rfl rfl) (fl_X12_hearsBack_0 (j := 22) rfl rfl) rfl
theorem dX12_hearsBack_23 : decode cX12_hearsBack 23 = .ok (.istore_n 3, 1) := fq1_62 (fl_X12_hearsBack_0 (j := 23) rfl rfl)
theorem dX12_hearsBack_24 : decode cX12_hearsBack 24 = .ok (.iconst 0, 1) := fq1_3 (fl_X12_hearsBack_0 (j := 24) rfl rfl)
theorem dX12_hearsBack_25 : decode cX12_hearsBack 25 = .ok (.istore 4, 2) := fq2_54 (fl_X12_hearsBack_0 (j := 25) rfl rfl) (fl_X12_hearsBack_0 (j := 26) rfl rfl) rfl
theorem dX12_hearsBack_27 : decode cX12_hearsBack 27 = .ok (.iload 4, 2) := fq2_21 (fl_X12_hearsBack_0 (j := 27) rfl rfl) (fl_X12_hearsBack_0 (j := 28) rfl rfl) rfl
theorem dX12_hearsBack_29 : decode cX12_hearsBack 29 = .ok (.aload_n 0, 1) := fq1_42 (fl_X12_hearsBack_0 (j := 29) rfl rfl)
theorem dX12_hearsBack_30 : decode cX12_hearsBack 30 = .ok (.getfield 7, 3) := fq3_180 (fl_X12_hearsBack_0 (j := 30) rfl rfl) (fl_X12_hearsBack_0 (j := 31) rfl rfl) (fl_X12_hearsBack_0 (j := 32) rfl rfl) rfl
theorem dX12_hearsBack_33 : decode cX12_hearsBack 33 = .ok (.iconst 0, 1) := fq1_3 (fl_X12_hearsBack_0 (j := 33) rfl rfl)
theorem dX12_hearsBack_34 : decode cX12_hearsBack 34 = .ok (.iaload, 1) := fq1_46 (fl_X12_hearsBack_0 (j := 34) rfl rfl)
theorem dX12_hearsBack_35 : decode cX12_hearsBack 35 = .ok (.if_icmp .ge 34, 3) := fq3_162 (fl_X12_hearsBack_0 (j := 35) rfl rfl) (fl_X12_hearsBack_0 (j := 36) rfl rfl) (fl_X12_hearsBack_0 (j := 37) rfl rfl) (s2p rfl (bl rfl))
theorem dX12_hearsBack_38 : decode cX12_hearsBack 38 = .ok (.iload 4, 2) := fq2_21 (fl_X12_hearsBack_0 (j := 38) rfl rfl) (fl_X12_hearsBack_0 (j := 39) rfl rfl) rfl
theorem dX12_hearsBack_40 : decode cX12_hearsBack 40 = .ok (.iload_n 1, 1) := fq1_27 (fl_X12_hearsBack_0 (j := 40) rfl rfl)
theorem dX12_hearsBack_41 : decode cX12_hearsBack 41 = .ok (.if_icmp .eq 22, 3) := fq3_159 (fl_X12_hearsBack_0 (j := 41) rfl rfl) (fl_X12_hearsBack_0 (j := 42) rfl rfl) (fl_X12_hearsBack_0 (j := 43) rfl rfl) (s2p rfl (bl rfl))
theorem dX12_hearsBack_44 : decode cX12_hearsBack 44 = .ok (.iload_n 3, 1) := fq1_29 (fl_X12_hearsBack_0 (j := 44) rfl rfl)
theorem dX12_hearsBack_45 : decode cX12_hearsBack 45 = .ok (.aload_n 0, 1) := fq1_42 (fl_X12_hearsBack_0 (j := 45) rfl rfl)
theorem dX12_hearsBack_46 : decode cX12_hearsBack 46 = .ok (.iload 4, 2) := fq2_21 (fl_X12_hearsBack_0 (j := 46) rfl rfl) (fl_X12_hearsBack_0 (j := 47) rfl rfl) rfl
theorem dX12_hearsBack_48 : decode cX12_hearsBack 48 = .ok (.aload_n 0, 1) := fq1_42 (fl_X12_hearsBack_0 (j := 48) rfl rfl)
theorem dX12_hearsBack_49 : decode cX12_hearsBack 49 = .ok (.getfield 47, 3) := fq3_180 (fl_X12_hearsBack_0 (j := 49) rfl rfl) (fl_X12_hearsBack_0 (j := 50) rfl rfl) (fl_X12_hearsBack_0 (j := 51) rfl rfl) rfl
theorem dX12_hearsBack_52 : decode cX12_hearsBack 52 = .ok (.iload 4, 2) := fq2_21 (fl_X12_hearsBack_0 (j := 52) rfl rfl) (fl_X12_hearsBack_0 (j := 53) rfl rfl) rfl
theorem dX12_hearsBack_54 : decode cX12_hearsBack 54 = .ok (.iaload, 1) := fq1_46 (fl_X12_hearsBack_0 (j := 54) rfl rfl)
theorem dX12_hearsBack_55 : decode cX12_hearsBack 55 = .ok (.iload_n 1, 1) := fq1_27 (fl_X12_hearsBack_0 (j := 55) rfl rfl)
theorem dX12_hearsBack_56 : decode cX12_hearsBack 56 = .ok (.invokevirtual 280, 3) := fq3_182 (fl_X12_hearsBack_0 (j := 56) rfl rfl) (fl_X12_hearsBack_0 (j := 57) rfl rfl) (fl_X12_hearsBack_0 (j := 58) rfl rfl) rfl
theorem dX12_hearsBack_59 : decode cX12_hearsBack 59 = .ok (.invokestatic 137, 3) := fq3_184 (fl_X12_hearsBack_0 (j := 59) rfl rfl) (fl_X12_hearsBack_0 (j := 60) rfl rfl) (fl_X12_hearsBack_0 (j := 61) rfl rfl) rfl
theorem dX12_hearsBack_62 : decode cX12_hearsBack 62 = .ok (.istore_n 3, 1) := fq1_62 (fl_X12_hearsBack_0 (j := 62) rfl rfl)
def fb_X12_hearsBack_1 : List UInt8 := [0x04, 0x01, 0xa7, 0xff, 0xd9, 0x2a, 0x1d, 0xb6, 0x01, 0x1c, 0xac]
theorem fl_X12_hearsBack_1 {p j : Nat} {b : UInt8} (e : p = 64 + j) (h : fb_X12_hearsBack_1[j]? = some b) : cX12_hearsBack.data.toList[p]? = some b := fq_l (n := 64) (show (cX12_hearsBack.data.toList.drop 64).take 64 = fb_X12_hearsBack_1 by decide +kernel) e h
theorem dX12_hearsBack_63 : decode cX12_hearsBack 63 = .ok (.iinc 4 1, 3) := fq3_132 (fl_X12_hearsBack_0 (j := 63) rfl rfl) (fl_X12_hearsBack_1 (j := 0) rfl rfl) (fl_X12_hearsBack_1 (j := 1) rfl rfl) rfl (s1p rfl (bl rfl))
theorem dX12_hearsBack_66 : decode cX12_hearsBack 66 = .ok (.goto (-39), 3) := fq3_167 (fl_X12_hearsBack_1 (j := 2) rfl rfl) (fl_X12_hearsBack_1 (j := 3) rfl rfl) (fl_X12_hearsBack_1 (j := 4) rfl rfl) (by decide)
theorem dX12_hearsBack_69 : decode cX12_hearsBack 69 = .ok (.aload_n 0, 1) := fq1_42 (fl_X12_hearsBack_1 (j := 5) rfl rfl)
theorem dX12_hearsBack_70 : decode cX12_hearsBack 70 = .ok (.iload_n 3, 1) := fq1_29 (fl_X12_hearsBack_1 (j := 6) rfl rfl)
theorem dX12_hearsBack_71 : decode cX12_hearsBack 71 = .ok (.invokevirtual 284, 3) := fq3_182 (fl_X12_hearsBack_1 (j := 7) rfl rfl) (fl_X12_hearsBack_1 (j := 8) rfl rfl) (fl_X12_hearsBack_1 (j := 9) rfl rfl) rfl
theorem dX12_hearsBack_74 : decode cX12_hearsBack 74 = .ok (.ireturn, 1) := fq1_172 (fl_X12_hearsBack_1 (j := 10) rfl rfl)
def fb_X12_knowing_0 : List UInt8 := [0x2a, 0x1b, 0x1c, 0xb6, 0x01, 0x2b, 0x99, 0x00, 0x0a, 0x1d, 0xb8, 0x01, 0x02, 0x9a, 0x00, 0x09, 0x2a, 0x04, 0xb6, 0x00, 0x51, 0xac, 0x2a, 0x1b, 0x1c, 0xb6, 0x01, 0x2e, 0x2a, 0x2a, 0x1d, 0xb6, 0x01, 0x32, 0xb6, 0x00, 0x55, 0xac]
theorem fl_X12_knowing_0 {p j : Nat} {b : UInt8} (e : p = 0 + j) (h : fb_X12_knowing_0[j]? = some b) : cX12_knowing.data.toList[p]? = some b := fq_l (n := 64) (show (cX12_knowing.data.toList.drop 0).take 64 = fb_X12_knowing_0 by decide +kernel) e h
theorem dX12_knowing_0 : decode cX12_knowing 0 = .ok (.aload_n 0, 1) := fq1_42 (fl_X12_knowing_0 (j := 0) rfl rfl)
theorem dX12_knowing_1 : decode cX12_knowing 1 = .ok (.iload_n 1, 1) := fq1_27 (fl_X12_knowing_0 (j := 1) rfl rfl)
theorem dX12_knowing_2 : decode cX12_knowing 2 = .ok (.iload_n 2, 1) := fq1_28 (fl_X12_knowing_0 (j := 2) rfl rfl)
theorem dX12_knowing_3 : decode cX12_knowing 3 = .ok (.invokevirtual 299, 3) := fq3_182 (fl_X12_knowing_0 (j := 3) rfl rfl) (fl_X12_knowing_0 (j := 4) rfl rfl) (fl_X12_knowing_0 (j := 5) rfl rfl) rfl
theorem dX12_knowing_6 : decode cX12_knowing 6 = .ok (.ifCond .eq 10, 3) := fq3_153 (fl_X12_knowing_0 (j := 6) rfl rfl) (fl_X12_knowing_0 (j := 7) rfl rfl) (fl_X12_knowing_0 (j := 8) rfl rfl) (s2p rfl (bl rfl))
theorem dX12_knowing_9 : decode cX12_knowing 9 = .ok (.iload_n 3, 1) := fq1_29 (fl_X12_knowing_0 (j := 9) rfl rfl)
theorem dX12_knowing_10 : decode cX12_knowing 10 = .ok (.invokestatic 258, 3) := fq3_184 (fl_X12_knowing_0 (j := 10) rfl rfl) (fl_X12_knowing_0 (j := 11) rfl rfl) (fl_X12_knowing_0 (j := 12) rfl rfl) rfl
theorem dX12_knowing_13 : decode cX12_knowing 13 = .ok (.ifCond .ne 9, 3) := fq3_154 (fl_X12_knowing_0 (j := 13) rfl rfl) (fl_X12_knowing_0 (j := 14) rfl rfl) (fl_X12_knowing_0 (j := 15) rfl rfl) (s2p rfl (bl rfl))
theorem dX12_knowing_16 : decode cX12_knowing 16 = .ok (.aload_n 0, 1) := fq1_42 (fl_X12_knowing_0 (j := 16) rfl rfl)
theorem dX12_knowing_17 : decode cX12_knowing 17 = .ok (.iconst 1, 1) := fq1_4 (fl_X12_knowing_0 (j := 17) rfl rfl)
theorem dX12_knowing_18 : decode cX12_knowing 18 = .ok (.invokevirtual 81, 3) := fq3_182 (fl_X12_knowing_0 (j := 18) rfl rfl) (fl_X12_knowing_0 (j := 19) rfl rfl) (fl_X12_knowing_0 (j := 20) rfl rfl) rfl
theorem dX12_knowing_21 : decode cX12_knowing 21 = .ok (.ireturn, 1) := fq1_172 (fl_X12_knowing_0 (j := 21) rfl rfl)
theorem dX12_knowing_22 : decode cX12_knowing 22 = .ok (.aload_n 0, 1) := fq1_42 (fl_X12_knowing_0 (j := 22) rfl rfl)
theorem dX12_knowing_23 : decode cX12_knowing 23 = .ok (.iload_n 1, 1) := fq1_27 (fl_X12_knowing_0 (j := 23) rfl rfl)
theorem dX12_knowing_24 : decode cX12_knowing 24 = .ok (.iload_n 2, 1) := fq1_28 (fl_X12_knowing_0 (j := 24) rfl rfl)
theorem dX12_knowing_25 : decode cX12_knowing 25 = .ok (.invokevirtual 302, 3) := fq3_182 (fl_X12_knowing_0 (j := 25) rfl rfl) (fl_X12_knowing_0 (j := 26) rfl rfl) (fl_X12_knowing_0 (j := 27) rfl rfl) rfl
theorem dX12_knowing_28 : decode cX12_knowing 28 = .ok (.aload_n 0, 1) := fq1_42 (fl_X12_knowing_0 (j := 28) rfl rfl)
theorem dX12_knowing_29 : decode cX12_knowing 29 = .ok (.aload_n 0, 1) := fq1_42 (fl_X12_knowing_0 (j := 29) rfl rfl)
theorem dX12_knowing_30 : decode cX12_knowing 30 = .ok (.iload_n 3, 1) := fq1_29 (fl_X12_knowing_0 (j := 30) rfl rfl)
theorem dX12_knowing_31 : decode cX12_knowing 31 = .ok (.invokevirtual 306, 3) := fq3_182 (fl_X12_knowing_0 (j := 31) rfl rfl) (fl_X12_knowing_0 (j := 32) rfl rfl) (fl_X12_knowing_0 (j := 33) rfl rfl) rfl
theorem dX12_knowing_34 : decode cX12_knowing 34 = .ok (.invokevirtual 85, 3) := fq3_182 (fl_X12_knowing_0 (j := 34) rfl rfl) (fl_X12_knowing_0 (j := 35) rfl rfl) (fl_X12_knowing_0 (j := 36) rfl rfl) rfl
theorem dX12_knowing_37 : decode cX12_knowing 37 = .ok (.ireturn, 1) := fq1_172 (fl_X12_knowing_0 (j := 37) rfl rfl)
def fb_X12_lastOne_0 : List UInt8 := [0x03, 0x3c, 0x04, 0x3d, 0x1c, 0x2a, 0xb4, 0x00, 0x07, 0x03, 0x2e, 0xa2, 0x00, 0x1a, 0x2a, 0xb4, 0x00, 0x2f, 0x1c, 0x2e, 0x2a, 0xb4, 0x00, 0x2f, 0x1b, 0x2e, 0xa4, 0x00, 0x05, 0x1c, 0x3c, 0x84, 0x02, 0x01, 0xa7, 0xff, 0xe2, 0x1b, 0xac]
theorem fl_X12_lastOne_0 {p j : Nat} {b : UInt8} (e : p = 0 + j) (h : fb_X12_lastOne_0[j]? = some b) : cX12_lastOne.data.toList[p]? = some b := fq_l (n := 64) (show (cX12_lastOne.data.toList.drop 0).take 64 = fb_X12_lastOne_0 by decide +kernel) e h
theorem dX12_lastOne_0 : decode cX12_lastOne 0 = .ok (.iconst 0, 1) := fq1_3 (fl_X12_lastOne_0 (j := 0) rfl rfl)
theorem dX12_lastOne_1 : decode cX12_lastOne 1 = .ok (.istore_n 1, 1) := fq1_60 (fl_X12_lastOne_0 (j := 1) rfl rfl)
theorem dX12_lastOne_2 : decode cX12_lastOne 2 = .ok (.iconst 1, 1) := fq1_4 (fl_X12_lastOne_0 (j := 2) rfl rfl)
theorem dX12_lastOne_3 : decode cX12_lastOne 3 = .ok (.istore_n 2, 1) := fq1_61 (fl_X12_lastOne_0 (j := 3) rfl rfl)
theorem dX12_lastOne_4 : decode cX12_lastOne 4 = .ok (.iload_n 2, 1) := fq1_28 (fl_X12_lastOne_0 (j := 4) rfl rfl)
theorem dX12_lastOne_5 : decode cX12_lastOne 5 = .ok (.aload_n 0, 1) := fq1_42 (fl_X12_lastOne_0 (j := 5) rfl rfl)
theorem dX12_lastOne_6 : decode cX12_lastOne 6 = .ok (.getfield 7, 3) := fq3_180 (fl_X12_lastOne_0 (j := 6) rfl rfl) (fl_X12_lastOne_0 (j := 7) rfl rfl) (fl_X12_lastOne_0 (j := 8) rfl rfl) rfl
theorem dX12_lastOne_9 : decode cX12_lastOne 9 = .ok (.iconst 0, 1) := fq1_3 (fl_X12_lastOne_0 (j := 9) rfl rfl)
theorem dX12_lastOne_10 : decode cX12_lastOne 10 = .ok (.iaload, 1) := fq1_46 (fl_X12_lastOne_0 (j := 10) rfl rfl)
theorem dX12_lastOne_11 : decode cX12_lastOne 11 = .ok (.if_icmp .ge 26, 3) := fq3_162 (fl_X12_lastOne_0 (j := 11) rfl rfl) (fl_X12_lastOne_0 (j := 12) rfl rfl) (fl_X12_lastOne_0 (j := 13) rfl rfl) (s2p rfl (bl rfl))
theorem dX12_lastOne_14 : decode cX12_lastOne 14 = .ok (.aload_n 0, 1) := fq1_42 (fl_X12_lastOne_0 (j := 14) rfl rfl)
theorem dX12_lastOne_15 : decode cX12_lastOne 15 = .ok (.getfield 47, 3) := fq3_180 (fl_X12_lastOne_0 (j := 15) rfl rfl) (fl_X12_lastOne_0 (j := 16) rfl rfl) (fl_X12_lastOne_0 (j := 17) rfl rfl) rfl
theorem dX12_lastOne_18 : decode cX12_lastOne 18 = .ok (.iload_n 2, 1) := fq1_28 (fl_X12_lastOne_0 (j := 18) rfl rfl)
theorem dX12_lastOne_19 : decode cX12_lastOne 19 = .ok (.iaload, 1) := fq1_46 (fl_X12_lastOne_0 (j := 19) rfl rfl)
theorem dX12_lastOne_20 : decode cX12_lastOne 20 = .ok (.aload_n 0, 1) := fq1_42 (fl_X12_lastOne_0 (j := 20) rfl rfl)
theorem dX12_lastOne_21 : decode cX12_lastOne 21 = .ok (.getfield 47, 3) := fq3_180 (fl_X12_lastOne_0 (j := 21) rfl rfl) (fl_X12_lastOne_0 (j := 22) rfl rfl) (fl_X12_lastOne_0 (j := 23) rfl rfl) rfl
theorem dX12_lastOne_24 : decode cX12_lastOne 24 = .ok (.iload_n 1, 1) := fq1_27 (fl_X12_lastOne_0 (j := 24) rfl rfl)
theorem dX12_lastOne_25 : decode cX12_lastOne 25 = .ok (.iaload, 1) := fq1_46 (fl_X12_lastOne_0 (j := 25) rfl rfl)
theorem dX12_lastOne_26 : decode cX12_lastOne 26 = .ok (.if_icmp .le 5, 3) := fq3_164 (fl_X12_lastOne_0 (j := 26) rfl rfl) (fl_X12_lastOne_0 (j := 27) rfl rfl) (fl_X12_lastOne_0 (j := 28) rfl rfl) (s2p rfl (bl rfl))
theorem dX12_lastOne_29 : decode cX12_lastOne 29 = .ok (.iload_n 2, 1) := fq1_28 (fl_X12_lastOne_0 (j := 29) rfl rfl)
theorem dX12_lastOne_30 : decode cX12_lastOne 30 = .ok (.istore_n 1, 1) := fq1_60 (fl_X12_lastOne_0 (j := 30) rfl rfl)
theorem dX12_lastOne_31 : decode cX12_lastOne 31 = .ok (.iinc 2 1, 3) := fq3_132 (fl_X12_lastOne_0 (j := 31) rfl rfl) (fl_X12_lastOne_0 (j := 32) rfl rfl) (fl_X12_lastOne_0 (j := 33) rfl rfl) rfl (s1p rfl (bl rfl))
theorem dX12_lastOne_34 : decode cX12_lastOne 34 = .ok (.goto (-30), 3) := fq3_167 (fl_X12_lastOne_0 (j := 34) rfl rfl) (fl_X12_lastOne_0 (j := 35) rfl rfl) (fl_X12_lastOne_0 (j := 36) rfl rfl) (by decide)
theorem dX12_lastOne_37 : decode cX12_lastOne 37 = .ok (.iload_n 1, 1) := fq1_27 (fl_X12_lastOne_0 (j := 37) rfl rfl)
theorem dX12_lastOne_38 : decode cX12_lastOne 38 = .ok (.ireturn, 1) := fq1_172 (fl_X12_lastOne_0 (j := 38) rfl rfl)
def fb_X12_latest_0 : List UInt8 := [0x2a, 0x1b, 0x1c, 0xb6, 0x01, 0x2b, 0x9a, 0x00, 0x09, 0x2a, 0x04, 0xb6, 0x00, 0x51, 0xac, 0x2a, 0x1b, 0x1c, 0xb6, 0x01, 0x2e, 0x2a, 0xb4, 0x00, 0x2f, 0x2a, 0xb6, 0x01, 0x37, 0x2e, 0x12, 0x58, 0xa0, 0x00, 0x0c, 0x2a, 0x10, 0x06, 0xb6, 0x00, 0x51, 0xa7, 0x00, 0x0b, 0x2a, 0x2a, 0xb6, 0x01, 0x37, 0xb6, 0x00, 0x55, 0xac]
theorem fl_X12_latest_0 {p j : Nat} {b : UInt8} (e : p = 0 + j) (h : fb_X12_latest_0[j]? = some b) : cX12_latest.data.toList[p]? = some b := fq_l (n := 64) (show (cX12_latest.data.toList.drop 0).take 64 = fb_X12_latest_0 by decide +kernel) e h
theorem dX12_latest_0 : decode cX12_latest 0 = .ok (.aload_n 0, 1) := fq1_42 (fl_X12_latest_0 (j := 0) rfl rfl)
theorem dX12_latest_1 : decode cX12_latest 1 = .ok (.iload_n 1, 1) := fq1_27 (fl_X12_latest_0 (j := 1) rfl rfl)
theorem dX12_latest_2 : decode cX12_latest 2 = .ok (.iload_n 2, 1) := fq1_28 (fl_X12_latest_0 (j := 2) rfl rfl)
theorem dX12_latest_3 : decode cX12_latest 3 = .ok (.invokevirtual 299, 3) := fq3_182 (fl_X12_latest_0 (j := 3) rfl rfl) (fl_X12_latest_0 (j := 4) rfl rfl) (fl_X12_latest_0 (j := 5) rfl rfl) rfl
theorem dX12_latest_6 : decode cX12_latest 6 = .ok (.ifCond .ne 9, 3) := fq3_154 (fl_X12_latest_0 (j := 6) rfl rfl) (fl_X12_latest_0 (j := 7) rfl rfl) (fl_X12_latest_0 (j := 8) rfl rfl) (s2p rfl (bl rfl))
theorem dX12_latest_9 : decode cX12_latest 9 = .ok (.aload_n 0, 1) := fq1_42 (fl_X12_latest_0 (j := 9) rfl rfl)
theorem dX12_latest_10 : decode cX12_latest 10 = .ok (.iconst 1, 1) := fq1_4 (fl_X12_latest_0 (j := 10) rfl rfl)
theorem dX12_latest_11 : decode cX12_latest 11 = .ok (.invokevirtual 81, 3) := fq3_182 (fl_X12_latest_0 (j := 11) rfl rfl) (fl_X12_latest_0 (j := 12) rfl rfl) (fl_X12_latest_0 (j := 13) rfl rfl) rfl
theorem dX12_latest_14 : decode cX12_latest 14 = .ok (.ireturn, 1) := fq1_172 (fl_X12_latest_0 (j := 14) rfl rfl)
theorem dX12_latest_15 : decode cX12_latest 15 = .ok (.aload_n 0, 1) := fq1_42 (fl_X12_latest_0 (j := 15) rfl rfl)
theorem dX12_latest_16 : decode cX12_latest 16 = .ok (.iload_n 1, 1) := fq1_27 (fl_X12_latest_0 (j := 16) rfl rfl)
theorem dX12_latest_17 : decode cX12_latest 17 = .ok (.iload_n 2, 1) := fq1_28 (fl_X12_latest_0 (j := 17) rfl rfl)
theorem dX12_latest_18 : decode cX12_latest 18 = .ok (.invokevirtual 302, 3) := fq3_182 (fl_X12_latest_0 (j := 18) rfl rfl) (fl_X12_latest_0 (j := 19) rfl rfl) (fl_X12_latest_0 (j := 20) rfl rfl) rfl
theorem dX12_latest_21 : decode cX12_latest 21 = .ok (.aload_n 0, 1) := fq1_42 (fl_X12_latest_0 (j := 21) rfl rfl)
theorem dX12_latest_22 : decode cX12_latest 22 = .ok (.getfield 47, 3) := fq3_180 (fl_X12_latest_0 (j := 22) rfl rfl) (fl_X12_latest_0 (j := 23) rfl rfl) (fl_X12_latest_0 (j := 24) rfl rfl) rfl
theorem dX12_latest_25 : decode cX12_latest 25 = .ok (.aload_n 0, 1) := fq1_42 (fl_X12_latest_0 (j := 25) rfl rfl)
theorem dX12_latest_26 : decode cX12_latest 26 = .ok (.invokevirtual 311, 3) := fq3_182 (fl_X12_latest_0 (j := 26) rfl rfl) (fl_X12_latest_0 (j := 27) rfl rfl) (fl_X12_latest_0 (j := 28) rfl rfl) rfl
theorem dX12_latest_29 : decode cX12_latest 29 = .ok (.iaload, 1) := fq1_46 (fl_X12_latest_0 (j := 29) rfl rfl)
theorem dX12_latest_30 : decode cX12_latest 30 = .ok (.ldc 88, 2) := fq2_18 (fl_X12_latest_0 (j := 30) rfl rfl) (fl_X12_latest_0 (j := 31) rfl rfl) rfl
theorem dX12_latest_32 : decode cX12_latest 32 = .ok (.if_icmp .ne 12, 3) := fq3_160 (fl_X12_latest_0 (j := 32) rfl rfl) (fl_X12_latest_0 (j := 33) rfl rfl) (fl_X12_latest_0 (j := 34) rfl rfl) (s2p rfl (bl rfl))
theorem dX12_latest_35 : decode cX12_latest 35 = .ok (.aload_n 0, 1) := fq1_42 (fl_X12_latest_0 (j := 35) rfl rfl)
theorem dX12_latest_36 : decode cX12_latest 36 = .ok (.bipush 6, 2) := fq2_16 (fl_X12_latest_0 (j := 36) rfl rfl) (fl_X12_latest_0 (j := 37) rfl rfl) (s1p rfl (bl rfl))
theorem dX12_latest_38 : decode cX12_latest 38 = .ok (.invokevirtual 81, 3) := fq3_182 (fl_X12_latest_0 (j := 38) rfl rfl) (fl_X12_latest_0 (j := 39) rfl rfl) (fl_X12_latest_0 (j := 40) rfl rfl) rfl
theorem dX12_latest_41 : decode cX12_latest 41 = .ok (.goto 11, 3) := fq3_167 (fl_X12_latest_0 (j := 41) rfl rfl) (fl_X12_latest_0 (j := 42) rfl rfl) (fl_X12_latest_0 (j := 43) rfl rfl) (s2p rfl (bl rfl))
theorem dX12_latest_44 : decode cX12_latest 44 = .ok (.aload_n 0, 1) := fq1_42 (fl_X12_latest_0 (j := 44) rfl rfl)
theorem dX12_latest_45 : decode cX12_latest 45 = .ok (.aload_n 0, 1) := fq1_42 (fl_X12_latest_0 (j := 45) rfl rfl)
theorem dX12_latest_46 : decode cX12_latest 46 = .ok (.invokevirtual 311, 3) := fq3_182 (fl_X12_latest_0 (j := 46) rfl rfl) (fl_X12_latest_0 (j := 47) rfl rfl) (fl_X12_latest_0 (j := 48) rfl rfl) rfl
theorem dX12_latest_49 : decode cX12_latest 49 = .ok (.invokevirtual 85, 3) := fq3_182 (fl_X12_latest_0 (j := 49) rfl rfl) (fl_X12_latest_0 (j := 50) rfl rfl) (fl_X12_latest_0 (j := 51) rfl rfl) rfl
theorem dX12_latest_52 : decode cX12_latest 52 = .ok (.ireturn, 1) := fq1_172 (fl_X12_latest_0 (j := 52) rfl rfl)
def fb_X12_overtaken_0 : List UInt8 := [0x2a, 0x1b, 0x1c, 0xb6, 0x01, 0x2b, 0x9a, 0x00, 0x09, 0x2a, 0x04, 0xb6, 0x00, 0x51, 0xac, 0x2a, 0x1b, 0x1c, 0xb6, 0x01, 0x2e, 0x03, 0x3e, 0x03, 0x36, 0x04, 0x15, 0x04, 0x2a, 0xb4, 0x00, 0x07, 0x03, 0x2e, 0xa2, 0x00, 0x26, 0x1d, 0x2a, 0xb4, 0x00, 0x2f, 0x15, 0x04, 0x2e, 0x2a, 0x1b, 0x1c, 0x15, 0x04, 0xb6, 0x01, 0x18, 0xa2, 0x00, 0x0a, 0x04, 0x15, 0x04, 0x78, 0xa7, 0x00, 0x04, 0x03]
theorem fl_X12_overtaken_0 {p j : Nat} {b : UInt8} (e : p = 0 + j) (h : fb_X12_overtaken_0[j]? = some b) : cX12_overtaken.data.toList[p]? = some b := fq_l (n := 64) (show (cX12_overtaken.data.toList.drop 0).take 64 = fb_X12_overtaken_0 by decide +kernel) e h
theorem dX12_overtaken_0 : decode cX12_overtaken 0 = .ok (.aload_n 0, 1) := fq1_42 (fl_X12_overtaken_0 (j := 0) rfl rfl)
theorem dX12_overtaken_1 : decode cX12_overtaken 1 = .ok (.iload_n 1, 1) := fq1_27 (fl_X12_overtaken_0 (j := 1) rfl rfl)
theorem dX12_overtaken_2 : decode cX12_overtaken 2 = .ok (.iload_n 2, 1) := fq1_28 (fl_X12_overtaken_0 (j := 2) rfl rfl)
theorem dX12_overtaken_3 : decode cX12_overtaken 3 = .ok (.invokevirtual 299, 3) := fq3_182 (fl_X12_overtaken_0 (j := 3) rfl rfl) (fl_X12_overtaken_0 (j := 4) rfl rfl) (fl_X12_overtaken_0 (j := 5) rfl rfl) rfl
theorem dX12_overtaken_6 : decode cX12_overtaken 6 = .ok (.ifCond .ne 9, 3) := fq3_154 (fl_X12_overtaken_0 (j := 6) rfl rfl) (fl_X12_overtaken_0 (j := 7) rfl rfl) (fl_X12_overtaken_0 (j := 8) rfl rfl) (s2p rfl (bl rfl))
theorem dX12_overtaken_9 : decode cX12_overtaken 9 = .ok (.aload_n 0, 1) := fq1_42 (fl_X12_overtaken_0 (j := 9) rfl rfl)
theorem dX12_overtaken_10 : decode cX12_overtaken 10 = .ok (.iconst 1, 1) := fq1_4 (fl_X12_overtaken_0 (j := 10) rfl rfl)
theorem dX12_overtaken_11 : decode cX12_overtaken 11 = .ok (.invokevirtual 81, 3) := fq3_182 (fl_X12_overtaken_0 (j := 11) rfl rfl) (fl_X12_overtaken_0 (j := 12) rfl rfl) (fl_X12_overtaken_0 (j := 13) rfl rfl) rfl
theorem dX12_overtaken_14 : decode cX12_overtaken 14 = .ok (.ireturn, 1) := fq1_172 (fl_X12_overtaken_0 (j := 14) rfl rfl)
theorem dX12_overtaken_15 : decode cX12_overtaken 15 = .ok (.aload_n 0, 1) := fq1_42 (fl_X12_overtaken_0 (j := 15) rfl rfl)
theorem dX12_overtaken_16 : decode cX12_overtaken 16 = .ok (.iload_n 1, 1) := fq1_27 (fl_X12_overtaken_0 (j := 16) rfl rfl)
theorem dX12_overtaken_17 : decode cX12_overtaken 17 = .ok (.iload_n 2, 1) := fq1_28 (fl_X12_overtaken_0 (j := 17) rfl rfl)
theorem dX12_overtaken_18 : decode cX12_overtaken 18 = .ok (.invokevirtual 302, 3) := fq3_182 (fl_X12_overtaken_0 (j := 18) rfl rfl) (fl_X12_overtaken_0 (j := 19) rfl rfl) (fl_X12_overtaken_0 (j := 20) rfl rfl) rfl
theorem dX12_overtaken_21 : decode cX12_overtaken 21 = .ok (.iconst 0, 1) := fq1_3 (fl_X12_overtaken_0 (j := 21) rfl rfl)
theorem dX12_overtaken_22 : decode cX12_overtaken 22 = .ok (.istore_n 3, 1) := fq1_62 (fl_X12_overtaken_0 (j := 22) rfl rfl)
theorem dX12_overtaken_23 : decode cX12_overtaken 23 = .ok (.iconst 0, 1) := fq1_3 (fl_X12_overtaken_0 (j := 23) rfl rfl)
theorem dX12_overtaken_24 : decode cX12_overtaken 24 = .ok (.istore 4, 2) := fq2_54 (fl_X12_overtaken_0 (j := 24) rfl rfl) (fl_X12_overtaken_0 (j := 25) rfl rfl) rfl
theorem dX12_overtaken_26 : decode cX12_overtaken 26 = .ok (.iload 4, 2) := fq2_21 (fl_X12_overtaken_0 (j := 26) rfl rfl) (fl_X12_overtaken_0 (j := 27) rfl rfl) rfl
theorem dX12_overtaken_28 : decode cX12_overtaken 28 = .ok (.aload_n 0, 1) := fq1_42 (fl_X12_overtaken_0 (j := 28) rfl rfl)
theorem dX12_overtaken_29 : decode cX12_overtaken 29 = .ok (.getfield 7, 3) := fq3_180 (fl_X12_overtaken_0 (j := 29) rfl rfl) (fl_X12_overtaken_0 (j := 30) rfl rfl) (fl_X12_overtaken_0 (j := 31) rfl rfl) rfl
theorem dX12_overtaken_32 : decode cX12_overtaken 32 = .ok (.iconst 0, 1) := fq1_3 (fl_X12_overtaken_0 (j := 32) rfl rfl)
theorem dX12_overtaken_33 : decode cX12_overtaken 33 = .ok (.iaload, 1) := fq1_46 (fl_X12_overtaken_0 (j := 33) rfl rfl)
theorem dX12_overtaken_34 : decode cX12_overtaken 34 = .ok (.if_icmp .ge 38, 3) := fq3_162 (fl_X12_overtaken_0 (j := 34) rfl rfl) (fl_X12_overtaken_0 (j := 35) rfl rfl) (fl_X12_overtaken_0 (j := 36) rfl rfl) (s2p rfl (bl rfl))
theorem dX12_overtaken_37 : decode cX12_overtaken 37 = .ok (.iload_n 3, 1) := fq1_29 (fl_X12_overtaken_0 (j := 37) rfl rfl)
theorem dX12_overtaken_38 : decode cX12_overtaken 38 = .ok (.aload_n 0, 1) := fq1_42 (fl_X12_overtaken_0 (j := 38) rfl rfl)
theorem dX12_overtaken_39 : decode cX12_overtaken 39 = .ok (.getfield 47, 3) := fq3_180 (fl_X12_overtaken_0 (j := 39) rfl rfl) (fl_X12_overtaken_0 (j := 40) rfl rfl) (fl_X12_overtaken_0 (j := 41) rfl rfl) rfl
theorem dX12_overtaken_42 : decode cX12_overtaken 42 = .ok (.iload 4, 2) := fq2_21 (fl_X12_overtaken_0 (j := 42) rfl rfl) (fl_X12_overtaken_0 (j := 43) rfl rfl) rfl
theorem dX12_overtaken_44 : decode cX12_overtaken 44 = .ok (.iaload, 1) := fq1_46 (fl_X12_overtaken_0 (j := 44) rfl rfl)
theorem dX12_overtaken_45 : decode cX12_overtaken 45 = .ok (.aload_n 0, 1) := fq1_42 (fl_X12_overtaken_0 (j := 45) rfl rfl)
theorem dX12_overtaken_46 : decode cX12_overtaken 46 = .ok (.iload_n 1, 1) := fq1_27 (fl_X12_overtaken_0 (j := 46) rfl rfl)
theorem dX12_overtaken_47 : decode cX12_overtaken 47 = .ok (.iload_n 2, 1) := fq1_28 (fl_X12_overtaken_0 (j := 47) rfl rfl)
theorem dX12_overtaken_48 : decode cX12_overtaken 48 = .ok (.iload 4, 2) := fq2_21 (fl_X12_overtaken_0 (j := 48) rfl rfl) (fl_X12_overtaken_0 (j := 49) rfl rfl) rfl
theorem dX12_overtaken_50 : decode cX12_overtaken 50 = .ok (.invokevirtual 280, 3) := fq3_182 (fl_X12_overtaken_0 (j := 50) rfl rfl) (fl_X12_overtaken_0 (j := 51) rfl rfl) (fl_X12_overtaken_0 (j := 52) rfl rfl) rfl
theorem dX12_overtaken_53 : decode cX12_overtaken 53 = .ok (.if_icmp .ge 10, 3) := fq3_162 (fl_X12_overtaken_0 (j := 53) rfl rfl) (fl_X12_overtaken_0 (j := 54) rfl rfl) (fl_X12_overtaken_0 (j := 55) rfl rfl) (s2p rfl (bl rfl))
theorem dX12_overtaken_56 : decode cX12_overtaken 56 = .ok (.iconst 1, 1) := fq1_4 (fl_X12_overtaken_0 (j := 56) rfl rfl)
theorem dX12_overtaken_57 : decode cX12_overtaken 57 = .ok (.iload 4, 2) := fq2_21 (fl_X12_overtaken_0 (j := 57) rfl rfl) (fl_X12_overtaken_0 (j := 58) rfl rfl) rfl
theorem dX12_overtaken_59 : decode cX12_overtaken 59 = .ok (.ishl, 1) := fq1_120 (fl_X12_overtaken_0 (j := 59) rfl rfl)
theorem dX12_overtaken_60 : decode cX12_overtaken 60 = .ok (.goto 4, 3) := fq3_167 (fl_X12_overtaken_0 (j := 60) rfl rfl) (fl_X12_overtaken_0 (j := 61) rfl rfl) (fl_X12_overtaken_0 (j := 62) rfl rfl) (s2p rfl (bl rfl))
theorem dX12_overtaken_63 : decode cX12_overtaken 63 = .ok (.iconst 0, 1) := fq1_3 (fl_X12_overtaken_0 (j := 63) rfl rfl)
def fb_X12_overtaken_1 : List UInt8 := [0x80, 0x3e, 0x84, 0x04, 0x01, 0xa7, 0xff, 0xd5, 0x2a, 0x1d, 0xb6, 0x00, 0x55, 0xac]
theorem fl_X12_overtaken_1 {p j : Nat} {b : UInt8} (e : p = 64 + j) (h : fb_X12_overtaken_1[j]? = some b) : cX12_overtaken.data.toList[p]? = some b := fq_l (n := 64) (show (cX12_overtaken.data.toList.drop 64).take 64 = fb_X12_overtaken_1 by decide +kernel) e h
theorem dX12_overtaken_64 : decode cX12_overtaken 64 = .ok (.ior, 1) := fq1_128 (fl_X12_overtaken_1 (j := 0) rfl rfl)
theorem dX12_overtaken_65 : decode cX12_overtaken 65 = .ok (.istore_n 3, 1) := fq1_62 (fl_X12_overtaken_1 (j := 1) rfl rfl)
theorem dX12_overtaken_66 : decode cX12_overtaken 66 = .ok (.iinc 4 1, 3) := fq3_132 (fl_X12_overtaken_1 (j := 2) rfl rfl) (fl_X12_overtaken_1 (j := 3) rfl rfl) (fl_X12_overtaken_1 (j := 4) rfl rfl) rfl (s1p rfl (bl rfl))
theorem dX12_overtaken_69 : decode cX12_overtaken 69 = .ok (.goto (-43), 3) := fq3_167 (fl_X12_overtaken_1 (j := 5) rfl rfl) (fl_X12_overtaken_1 (j := 6) rfl rfl) (fl_X12_overtaken_1 (j := 7) rfl rfl) (by decide)
theorem dX12_overtaken_72 : decode cX12_overtaken 72 = .ok (.aload_n 0, 1) := fq1_42 (fl_X12_overtaken_1 (j := 8) rfl rfl)
theorem dX12_overtaken_73 : decode cX12_overtaken 73 = .ok (.iload_n 3, 1) := fq1_29 (fl_X12_overtaken_1 (j := 9) rfl rfl)
theorem dX12_overtaken_74 : decode cX12_overtaken 74 = .ok (.invokevirtual 85, 3) := fq3_182 (fl_X12_overtaken_1 (j := 10) rfl rfl) (fl_X12_overtaken_1 (j := 11) rfl rfl) (fl_X12_overtaken_1 (j := 12) rfl rfl) rfl
theorem dX12_overtaken_77 : decode cX12_overtaken 77 = .ok (.ireturn, 1) := fq1_172 (fl_X12_overtaken_1 (j := 13) rfl rfl)
def fb_X12_remote_0 : List UInt8 := [0x1b, 0xb8, 0x01, 0x0c, 0x9a, 0x00, 0x09, 0x2a, 0x04, 0xb6, 0x00, 0x51, 0xac, 0x02, 0x3d, 0x02, 0x3e, 0x03, 0x36, 0x04, 0x15, 0x04, 0x2a, 0xb4, 0x00, 0x07, 0x03, 0x2e, 0xa2, 0x00, 0x53, 0x03, 0x36, 0x05, 0x03, 0x36, 0x06, 0x15, 0x06, 0x2a, 0xb4, 0x00, 0x07, 0x03, 0x2e, 0xa2, 0x00, 0x2d, 0x2a, 0x15, 0x06, 0x1b, 0xb6, 0x01, 0x2e, 0x15, 0x05, 0x2a, 0xb4, 0x00, 0x2f, 0x15, 0x04, 0x2e]
theorem fl_X12_remote_0 {p j : Nat} {b : UInt8} (e : p = 0 + j) (h : fb_X12_remote_0[j]? = some b) : cX12_remote.data.toList[p]? = some b := fq_l (n := 64) (show (cX12_remote.data.toList.drop 0).take 64 = fb_X12_remote_0 by decide +kernel) e h
theorem dX12_remote_0 : decode cX12_remote 0 = .ok (.iload_n 1, 1) := fq1_27 (fl_X12_remote_0 (j := 0) rfl rfl)
theorem dX12_remote_1 : decode cX12_remote 1 = .ok (.invokestatic 268, 3) := fq3_184 (fl_X12_remote_0 (j := 1) rfl rfl) (fl_X12_remote_0 (j := 2) rfl rfl) (fl_X12_remote_0 (j := 3) rfl rfl) rfl
theorem dX12_remote_4 : decode cX12_remote 4 = .ok (.ifCond .ne 9, 3) := fq3_154 (fl_X12_remote_0 (j := 4) rfl rfl) (fl_X12_remote_0 (j := 5) rfl rfl) (fl_X12_remote_0 (j := 6) rfl rfl) (s2p rfl (bl rfl))
theorem dX12_remote_7 : decode cX12_remote 7 = .ok (.aload_n 0, 1) := fq1_42 (fl_X12_remote_0 (j := 7) rfl rfl)
theorem dX12_remote_8 : decode cX12_remote 8 = .ok (.iconst 1, 1) := fq1_4 (fl_X12_remote_0 (j := 8) rfl rfl)
theorem dX12_remote_9 : decode cX12_remote 9 = .ok (.invokevirtual 81, 3) := fq3_182 (fl_X12_remote_0 (j := 9) rfl rfl) (fl_X12_remote_0 (j := 10) rfl rfl) (fl_X12_remote_0 (j := 11) rfl rfl) rfl
theorem dX12_remote_12 : decode cX12_remote 12 = .ok (.ireturn, 1) := fq1_172 (fl_X12_remote_0 (j := 12) rfl rfl)
theorem dX12_remote_13 : decode cX12_remote 13 = .ok (.iconst (-1), 1) := fq1_2 (fl_X12_remote_0 (j := 13) rfl rfl)
theorem dX12_remote_14 : decode cX12_remote 14 = .ok (.istore_n 2, 1) := fq1_61 (fl_X12_remote_0 (j := 14) rfl rfl)
theorem dX12_remote_15 : decode cX12_remote 15 = .ok (.iconst (-1), 1) := fq1_2 (fl_X12_remote_0 (j := 15) rfl rfl)
theorem dX12_remote_16 : decode cX12_remote 16 = .ok (.istore_n 3, 1) := fq1_62 (fl_X12_remote_0 (j := 16) rfl rfl)
theorem dX12_remote_17 : decode cX12_remote 17 = .ok (.iconst 0, 1) := fq1_3 (fl_X12_remote_0 (j := 17) rfl rfl)
theorem dX12_remote_18 : decode cX12_remote 18 = .ok (.istore 4, 2) := fq2_54 (fl_X12_remote_0 (j := 18) rfl rfl) (fl_X12_remote_0 (j := 19) rfl rfl) rfl
theorem dX12_remote_20 : decode cX12_remote 20 = .ok (.iload 4, 2) := fq2_21 (fl_X12_remote_0 (j := 20) rfl rfl) (fl_X12_remote_0 (j := 21) rfl rfl) rfl
theorem dX12_remote_22 : decode cX12_remote 22 = .ok (.aload_n 0, 1) := fq1_42 (fl_X12_remote_0 (j := 22) rfl rfl)
theorem dX12_remote_23 : decode cX12_remote 23 = .ok (.getfield 7, 3) := fq3_180 (fl_X12_remote_0 (j := 23) rfl rfl) (fl_X12_remote_0 (j := 24) rfl rfl) (fl_X12_remote_0 (j := 25) rfl rfl) rfl
theorem dX12_remote_26 : decode cX12_remote 26 = .ok (.iconst 0, 1) := fq1_3 (fl_X12_remote_0 (j := 26) rfl rfl)
theorem dX12_remote_27 : decode cX12_remote 27 = .ok (.iaload, 1) := fq1_46 (fl_X12_remote_0 (j := 27) rfl rfl)
theorem dX12_remote_28 : decode cX12_remote 28 = .ok (.if_icmp .ge 83, 3) := fq3_162 (fl_X12_remote_0 (j := 28) rfl rfl) (fl_X12_remote_0 (j := 29) rfl rfl) (fl_X12_remote_0 (j := 30) rfl rfl) (s2p rfl (bl rfl))
theorem dX12_remote_31 : decode cX12_remote 31 = .ok (.iconst 0, 1) := fq1_3 (fl_X12_remote_0 (j := 31) rfl rfl)
theorem dX12_remote_32 : decode cX12_remote 32 = .ok (.istore 5, 2) := fq2_54 (fl_X12_remote_0 (j := 32) rfl rfl) (fl_X12_remote_0 (j := 33) rfl rfl) rfl
theorem dX12_remote_34 : decode cX12_remote 34 = .ok (.iconst 0, 1) := fq1_3 (fl_X12_remote_0 (j := 34) rfl rfl)
theorem dX12_remote_35 : decode cX12_remote 35 = .ok (.istore 6, 2) := fq2_54 (fl_X12_remote_0 (j := 35) rfl rfl) (fl_X12_remote_0 (j := 36) rfl rfl) rfl
theorem dX12_remote_37 : decode cX12_remote 37 = .ok (.iload 6, 2) := fq2_21 (fl_X12_remote_0 (j := 37) rfl rfl) (fl_X12_remote_0 (j := 38) rfl rfl) rfl
theorem dX12_remote_39 : decode cX12_remote 39 = .ok (.aload_n 0, 1) := fq1_42 (fl_X12_remote_0 (j := 39) rfl rfl)
theorem dX12_remote_40 : decode cX12_remote 40 = .ok (.getfield 7, 3) := fq3_180 (fl_X12_remote_0 (j := 40) rfl rfl) (fl_X12_remote_0 (j := 41) rfl rfl) (fl_X12_remote_0 (j := 42) rfl rfl) rfl
theorem dX12_remote_43 : decode cX12_remote 43 = .ok (.iconst 0, 1) := fq1_3 (fl_X12_remote_0 (j := 43) rfl rfl)
theorem dX12_remote_44 : decode cX12_remote 44 = .ok (.iaload, 1) := fq1_46 (fl_X12_remote_0 (j := 44) rfl rfl)
theorem dX12_remote_45 : decode cX12_remote 45 = .ok (.if_icmp .ge 45, 3) := fq3_162 (fl_X12_remote_0 (j := 45) rfl rfl) (fl_X12_remote_0 (j := 46) rfl rfl) (fl_X12_remote_0 (j := 47) rfl rfl) (s2p rfl (bl rfl))
theorem dX12_remote_48 : decode cX12_remote 48 = .ok (.aload_n 0, 1) := fq1_42 (fl_X12_remote_0 (j := 48) rfl rfl)
theorem dX12_remote_49 : decode cX12_remote 49 = .ok (.iload 6, 2) := fq2_21 (fl_X12_remote_0 (j := 49) rfl rfl) (fl_X12_remote_0 (j := 50) rfl rfl) rfl
theorem dX12_remote_51 : decode cX12_remote 51 = .ok (.iload_n 1, 1) := fq1_27 (fl_X12_remote_0 (j := 51) rfl rfl)
theorem dX12_remote_52 : decode cX12_remote 52 = .ok (.invokevirtual 302, 3) := fq3_182 (fl_X12_remote_0 (j := 52) rfl rfl) (fl_X12_remote_0 (j := 53) rfl rfl) (fl_X12_remote_0 (j := 54) rfl rfl) rfl
theorem dX12_remote_55 : decode cX12_remote 55 = .ok (.iload 5, 2) := fq2_21 (fl_X12_remote_0 (j := 55) rfl rfl) (fl_X12_remote_0 (j := 56) rfl rfl) rfl
theorem dX12_remote_57 : decode cX12_remote 57 = .ok (.aload_n 0, 1) := fq1_42 (fl_X12_remote_0 (j := 57) rfl rfl)
theorem dX12_remote_58 : decode cX12_remote 58 = .ok (.getfield 47, 3) := fq3_180 (fl_X12_remote_0 (j := 58) rfl rfl) (fl_X12_remote_0 (j := 59) rfl rfl) (fl_X12_remote_0 (j := 60) rfl rfl) rfl
theorem dX12_remote_61 : decode cX12_remote 61 = .ok (.iload 4, 2) := fq2_21 (fl_X12_remote_0 (j := 61) rfl rfl) (fl_X12_remote_0 (j := 62) rfl rfl) rfl
theorem dX12_remote_63 : decode cX12_remote 63 = .ok (.iaload, 1) := fq1_46 (fl_X12_remote_0 (j := 63) rfl rfl)
def fb_X12_remote_1 : List UInt8 := [0x12, 0x58, 0xa0, 0x00, 0x08, 0x12, 0x88, 0xa7, 0x00, 0x0a, 0x2a, 0xb4, 0x00, 0x2f, 0x15, 0x04, 0x2e, 0x60, 0x36, 0x05, 0x84, 0x06, 0x01, 0xa7, 0xff, 0xce, 0x15, 0x05, 0x1d, 0xa3, 0x00, 0x06, 0xa7, 0x00, 0x09, 0x15, 0x05, 0x3e, 0x15, 0x04, 0x3d, 0x84, 0x04, 0x01, 0xa7, 0xff, 0xa8, 0x2a, 0x1c, 0xb6, 0x01, 0x22, 0xac]
theorem fl_X12_remote_1 {p j : Nat} {b : UInt8} (e : p = 64 + j) (h : fb_X12_remote_1[j]? = some b) : cX12_remote.data.toList[p]? = some b := fq_l (n := 64) (show (cX12_remote.data.toList.drop 64).take 64 = fb_X12_remote_1 by decide +kernel) e h
theorem dX12_remote_64 : decode cX12_remote 64 = .ok (.ldc 88, 2) := fq2_18 (fl_X12_remote_1 (j := 0) rfl rfl) (fl_X12_remote_1 (j := 1) rfl rfl) rfl
theorem dX12_remote_66 : decode cX12_remote 66 = .ok (.if_icmp .ne 8, 3) := fq3_160 (fl_X12_remote_1 (j := 2) rfl rfl) (fl_X12_remote_1 (j := 3) rfl rfl) (fl_X12_remote_1 (j := 4) rfl rfl) (s2p rfl (bl rfl))
theorem dX12_remote_69 : decode cX12_remote 69 = .ok (.ldc 136, 2) := fq2_18 (fl_X12_remote_1 (j := 5) rfl rfl) (fl_X12_remote_1 (j := 6) rfl rfl) rfl
theorem dX12_remote_71 : decode cX12_remote 71 = .ok (.goto 10, 3) := fq3_167 (fl_X12_remote_1 (j := 7) rfl rfl) (fl_X12_remote_1 (j := 8) rfl rfl) (fl_X12_remote_1 (j := 9) rfl rfl) (s2p rfl (bl rfl))
theorem dX12_remote_74 : decode cX12_remote 74 = .ok (.aload_n 0, 1) := fq1_42 (fl_X12_remote_1 (j := 10) rfl rfl)
theorem dX12_remote_75 : decode cX12_remote 75 = .ok (.getfield 47, 3) := fq3_180 (fl_X12_remote_1 (j := 11) rfl rfl) (fl_X12_remote_1 (j := 12) rfl rfl) (fl_X12_remote_1 (j := 13) rfl rfl) rfl
theorem dX12_remote_78 : decode cX12_remote 78 = .ok (.iload 4, 2) := fq2_21 (fl_X12_remote_1 (j := 14) rfl rfl) (fl_X12_remote_1 (j := 15) rfl rfl) rfl
theorem dX12_remote_80 : decode cX12_remote 80 = .ok (.iaload, 1) := fq1_46 (fl_X12_remote_1 (j := 16) rfl rfl)
theorem dX12_remote_81 : decode cX12_remote 81 = .ok (.iadd, 1) := fq1_96 (fl_X12_remote_1 (j := 17) rfl rfl)
theorem dX12_remote_82 : decode cX12_remote 82 = .ok (.istore 5, 2) := fq2_54 (fl_X12_remote_1 (j := 18) rfl rfl) (fl_X12_remote_1 (j := 19) rfl rfl) rfl
theorem dX12_remote_84 : decode cX12_remote 84 = .ok (.iinc 6 1, 3) := fq3_132 (fl_X12_remote_1 (j := 20) rfl rfl) (fl_X12_remote_1 (j := 21) rfl rfl) (fl_X12_remote_1 (j := 22) rfl rfl) rfl (s1p rfl (bl rfl))
theorem dX12_remote_87 : decode cX12_remote 87 = .ok (.goto (-50), 3) := fq3_167 (fl_X12_remote_1 (j := 23) rfl rfl) (fl_X12_remote_1 (j := 24) rfl rfl) (fl_X12_remote_1 (j := 25) rfl rfl) (by decide)
theorem dX12_remote_90 : decode cX12_remote 90 = .ok (.iload 5, 2) := fq2_21 (fl_X12_remote_1 (j := 26) rfl rfl) (fl_X12_remote_1 (j := 27) rfl rfl) rfl
theorem dX12_remote_92 : decode cX12_remote 92 = .ok (.iload_n 3, 1) := fq1_29 (fl_X12_remote_1 (j := 28) rfl rfl)
theorem dX12_remote_93 : decode cX12_remote 93 = .ok (.if_icmp .gt 6, 3) := fq3_163 (fl_X12_remote_1 (j := 29) rfl rfl) (fl_X12_remote_1 (j := 30) rfl rfl) (fl_X12_remote_1 (j := 31) rfl rfl) (s2p rfl (bl rfl))
theorem dX12_remote_96 : decode cX12_remote 96 = .ok (.goto 9, 3) := fq3_167 (fl_X12_remote_1 (j := 32) rfl rfl) (fl_X12_remote_1 (j := 33) rfl rfl) (fl_X12_remote_1 (j := 34) rfl rfl) (s2p rfl (bl rfl))
theorem dX12_remote_99 : decode cX12_remote 99 = .ok (.iload 5, 2) := fq2_21 (fl_X12_remote_1 (j := 35) rfl rfl) (fl_X12_remote_1 (j := 36) rfl rfl) rfl
theorem dX12_remote_101 : decode cX12_remote 101 = .ok (.istore_n 3, 1) := fq1_62 (fl_X12_remote_1 (j := 37) rfl rfl)
theorem dX12_remote_102 : decode cX12_remote 102 = .ok (.iload 4, 2) := fq2_21 (fl_X12_remote_1 (j := 38) rfl rfl) (fl_X12_remote_1 (j := 39) rfl rfl) rfl
theorem dX12_remote_104 : decode cX12_remote 104 = .ok (.istore_n 2, 1) := fq1_61 (fl_X12_remote_1 (j := 40) rfl rfl)
theorem dX12_remote_105 : decode cX12_remote 105 = .ok (.iinc 4 1, 3) := fq3_132 (fl_X12_remote_1 (j := 41) rfl rfl) (fl_X12_remote_1 (j := 42) rfl rfl) (fl_X12_remote_1 (j := 43) rfl rfl) rfl (s1p rfl (bl rfl))
theorem dX12_remote_108 : decode cX12_remote 108 = .ok (.goto (-88), 3) := fq3_167 (fl_X12_remote_1 (j := 44) rfl rfl) (fl_X12_remote_1 (j := 45) rfl rfl) (fl_X12_remote_1 (j := 46) rfl rfl) (by decide)
theorem dX12_remote_111 : decode cX12_remote 111 = .ok (.aload_n 0, 1) := fq1_42 (fl_X12_remote_1 (j := 47) rfl rfl)
theorem dX12_remote_112 : decode cX12_remote 112 = .ok (.iload_n 2, 1) := fq1_28 (fl_X12_remote_1 (j := 48) rfl rfl)
theorem dX12_remote_113 : decode cX12_remote 113 = .ok (.invokevirtual 290, 3) := fq3_182 (fl_X12_remote_1 (j := 49) rfl rfl) (fl_X12_remote_1 (j := 50) rfl rfl) (fl_X12_remote_1 (j := 51) rfl rfl) rfl
theorem dX12_remote_116 : decode cX12_remote 116 = .ok (.ireturn, 1) := fq1_172 (fl_X12_remote_1 (j := 52) rfl rfl)
def fb_X12_setBy_0 : List UInt8 := [0x03, 0x3d, 0x03, 0x3e, 0x1d, 0x2a, 0xb4, 0x00, 0x07, 0x03, 0x2e, 0xa2, 0x00, 0x1d, 0x1c, 0x2a, 0xb4, 0x00, 0x2f, 0x1d, 0x2e, 0x1b, 0xa3, 0x00, 0x09, 0x04, 0x1d, 0x78, 0xa7, 0x00, 0x04, 0x03, 0x80, 0x3d, 0x84, 0x03, 0x01, 0xa7, 0xff, 0xdf, 0x1c, 0xac]
theorem fl_X12_setBy_0 {p j : Nat} {b : UInt8} (e : p = 0 + j) (h : fb_X12_setBy_0[j]? = some b) : cX12_setBy.data.toList[p]? = some b := fq_l (n := 64) (show (cX12_setBy.data.toList.drop 0).take 64 = fb_X12_setBy_0 by decide +kernel) e h
theorem dX12_setBy_0 : decode cX12_setBy 0 = .ok (.iconst 0, 1) := fq1_3 (fl_X12_setBy_0 (j := 0) rfl rfl)
theorem dX12_setBy_1 : decode cX12_setBy 1 = .ok (.istore_n 2, 1) := fq1_61 (fl_X12_setBy_0 (j := 1) rfl rfl)
theorem dX12_setBy_2 : decode cX12_setBy 2 = .ok (.iconst 0, 1) := fq1_3 (fl_X12_setBy_0 (j := 2) rfl rfl)
theorem dX12_setBy_3 : decode cX12_setBy 3 = .ok (.istore_n 3, 1) := fq1_62 (fl_X12_setBy_0 (j := 3) rfl rfl)
theorem dX12_setBy_4 : decode cX12_setBy 4 = .ok (.iload_n 3, 1) := fq1_29 (fl_X12_setBy_0 (j := 4) rfl rfl)
theorem dX12_setBy_5 : decode cX12_setBy 5 = .ok (.aload_n 0, 1) := fq1_42 (fl_X12_setBy_0 (j := 5) rfl rfl)
theorem dX12_setBy_6 : decode cX12_setBy 6 = .ok (.getfield 7, 3) := fq3_180 (fl_X12_setBy_0 (j := 6) rfl rfl) (fl_X12_setBy_0 (j := 7) rfl rfl) (fl_X12_setBy_0 (j := 8) rfl rfl) rfl
theorem dX12_setBy_9 : decode cX12_setBy 9 = .ok (.iconst 0, 1) := fq1_3 (fl_X12_setBy_0 (j := 9) rfl rfl)
theorem dX12_setBy_10 : decode cX12_setBy 10 = .ok (.iaload, 1) := fq1_46 (fl_X12_setBy_0 (j := 10) rfl rfl)
theorem dX12_setBy_11 : decode cX12_setBy 11 = .ok (.if_icmp .ge 29, 3) := fq3_162 (fl_X12_setBy_0 (j := 11) rfl rfl) (fl_X12_setBy_0 (j := 12) rfl rfl) (fl_X12_setBy_0 (j := 13) rfl rfl) (s2p rfl (bl rfl))
theorem dX12_setBy_14 : decode cX12_setBy 14 = .ok (.iload_n 2, 1) := fq1_28 (fl_X12_setBy_0 (j := 14) rfl rfl)
theorem dX12_setBy_15 : decode cX12_setBy 15 = .ok (.aload_n 0, 1) := fq1_42 (fl_X12_setBy_0 (j := 15) rfl rfl)
theorem dX12_setBy_16 : decode cX12_setBy 16 = .ok (.getfield 47, 3) := fq3_180 (fl_X12_setBy_0 (j := 16) rfl rfl) (fl_X12_setBy_0 (j := 17) rfl rfl) (fl_X12_setBy_0 (j := 18) rfl rfl) rfl
theorem dX12_setBy_19 : decode cX12_setBy 19 = .ok (.iload_n 3, 1) := fq1_29 (fl_X12_setBy_0 (j := 19) rfl rfl)
theorem dX12_setBy_20 : decode cX12_setBy 20 = .ok (.iaload, 1) := fq1_46 (fl_X12_setBy_0 (j := 20) rfl rfl)
theorem dX12_setBy_21 : decode cX12_setBy 21 = .ok (.iload_n 1, 1) := fq1_27 (fl_X12_setBy_0 (j := 21) rfl rfl)
theorem dX12_setBy_22 : decode cX12_setBy 22 = .ok (.if_icmp .gt 9, 3) := fq3_163 (fl_X12_setBy_0 (j := 22) rfl rfl) (fl_X12_setBy_0 (j := 23) rfl rfl) (fl_X12_setBy_0 (j := 24) rfl rfl) (s2p rfl (bl rfl))
theorem dX12_setBy_25 : decode cX12_setBy 25 = .ok (.iconst 1, 1) := fq1_4 (fl_X12_setBy_0 (j := 25) rfl rfl)
theorem dX12_setBy_26 : decode cX12_setBy 26 = .ok (.iload_n 3, 1) := fq1_29 (fl_X12_setBy_0 (j := 26) rfl rfl)
theorem dX12_setBy_27 : decode cX12_setBy 27 = .ok (.ishl, 1) := fq1_120 (fl_X12_setBy_0 (j := 27) rfl rfl)
theorem dX12_setBy_28 : decode cX12_setBy 28 = .ok (.goto 4, 3) := fq3_167 (fl_X12_setBy_0 (j := 28) rfl rfl) (fl_X12_setBy_0 (j := 29) rfl rfl) (fl_X12_setBy_0 (j := 30) rfl rfl) (s2p rfl (bl rfl))
theorem dX12_setBy_31 : decode cX12_setBy 31 = .ok (.iconst 0, 1) := fq1_3 (fl_X12_setBy_0 (j := 31) rfl rfl)
theorem dX12_setBy_32 : decode cX12_setBy 32 = .ok (.ior, 1) := fq1_128 (fl_X12_setBy_0 (j := 32) rfl rfl)
theorem dX12_setBy_33 : decode cX12_setBy 33 = .ok (.istore_n 2, 1) := fq1_61 (fl_X12_setBy_0 (j := 33) rfl rfl)
theorem dX12_setBy_34 : decode cX12_setBy 34 = .ok (.iinc 3 1, 3) := fq3_132 (fl_X12_setBy_0 (j := 34) rfl rfl) (fl_X12_setBy_0 (j := 35) rfl rfl) (fl_X12_setBy_0 (j := 36) rfl rfl) rfl (s1p rfl (bl rfl))
theorem dX12_setBy_37 : decode cX12_setBy 37 = .ok (.goto (-33), 3) := fq3_167 (fl_X12_setBy_0 (j := 37) rfl rfl) (fl_X12_setBy_0 (j := 38) rfl rfl) (fl_X12_setBy_0 (j := 39) rfl rfl) (by decide)
theorem dX12_setBy_40 : decode cX12_setBy 40 = .ok (.iload_n 2, 1) := fq1_28 (fl_X12_setBy_0 (j := 40) rfl rfl)
theorem dX12_setBy_41 : decode cX12_setBy 41 = .ok (.ireturn, 1) := fq1_172 (fl_X12_setBy_0 (j := 41) rfl rfl)