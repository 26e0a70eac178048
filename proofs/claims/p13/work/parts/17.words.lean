theorem qc_J7_fill_53178 : Cond.code yJ7_fill_53178 cJ7_fill_53178 4 none ∈ gw := tbt (tb3 (List.mem_of_getElem? (i := 120) rfl)) rfl
theorem qt_yJ7_fill_53178 : Cond.static yJ7_fill_53178 ∈ gw := tbt (tb3 (List.mem_of_getElem? (i := 119) rfl)) rfl
theorem qz_J7 : Cond.initialized RJ7 ∈ gw := tbt (tb1 (List.mem_of_getElem? (i := 18) rfl)) rfl
theorem ci_J7_fill_53178 : CIs yJ7_fill_53178 cJ7_fill_53178 4 none 2 := ⟨qc_J7_fill_53178, qt_yJ7_fill_53178, qz_J7, by decide +kernel⟩
theorem qm_X2_32 : Cond.methodLink RX2 32 yJ7_fill_53178 ∈ gw := tbt (tb4 (List.mem_of_getElem? (i := 156) rfl)) rfl
theorem qf_X2_18 : Cond.fieldLink RX2 18 "SlowWorlds$News" "hopCounts" "[I" ∈ gw := tbt (tb2 (List.mem_of_getElem? (i := 116) rfl)) rfl
theorem qc_X2_soonest : Cond.code yX2_soonest cX2_soonest 5 (some .int) ∈ gw := tbt (tb4 (List.mem_of_getElem? (i := 160) rfl)) rfl
theorem qi_yX2_soonest : Cond.instanceMethod yX2_soonest ∈ gw := tbt (tb4 (List.mem_of_getElem? (i := 159) rfl)) rfl
theorem qs_X2_soonest : Cond.selects (yX2_soonest).cls yX2_soonest yX2_soonest ∈ gw := tb0 (List.mem_of_getElem? (i := 22) rfl) rfl
theorem qz_X2 : Cond.initialized RX2 ∈ gw := tbt (tb1 (List.mem_of_getElem? (i := 14) rfl)) rfl
theorem ci_X2_soonest : CIv yX2_soonest cX2_soonest 5 (some .int) 1 := ⟨qc_X2_soonest, qi_yX2_soonest, qs_X2_soonest, qz_X2, by decide +kernel⟩
theorem qm_X2_44 : Cond.methodLink RX2 44 yX2_soonest ∈ gw := tbt (tb4 (List.mem_of_getElem? (i := 157) rfl)) rfl
theorem qc_X2_tellOn : Cond.code yX2_tellOn cX2_tellOn 5 none ∈ gw := tbt (tb4 (List.mem_of_getElem? (i := 164) rfl)) rfl
theorem qi_yX2_tellOn : Cond.instanceMethod yX2_tellOn ∈ gw := tbt (tb4 (List.mem_of_getElem? (i := 163) rfl)) rfl
theorem qs_X2_tellOn : Cond.selects (yX2_tellOn).cls yX2_tellOn yX2_tellOn ∈ gw := tb0 (List.mem_of_getElem? (i := 23) rfl) rfl
theorem ci_X2_tellOn : CIv yX2_tellOn cX2_tellOn 5 none 1 := ⟨qc_X2_tellOn, qi_yX2_tellOn, qs_X2_tellOn, qz_X2, by decide +kernel⟩
theorem qm_X2_48 : Cond.methodLink RX2 48 yX2_tellOn ∈ gw := tbt (tb4 (List.mem_of_getElem? (i := 161) rfl)) rfl
theorem qt_yJ9_min_7cf53 : Cond.static yJ9_min_7cf53 ∈ gw := tbt (tb4 (List.mem_of_getElem? (i := 138) rfl)) rfl
theorem qc_J9_min_7cf53 : Cond.code yJ9_min_7cf53 cJ9_min_7cf53 2 (some .int) ∈ gw := tbt (tb4 (List.mem_of_getElem? (i := 139) rfl)) rfl
def fb_X2_spread_0 : List UInt8 := [0x2a, 0xb4, 0x00, 0x09, 0x02, 0xb8, 0x00, 0x20, 0x2a, 0xb4, 0x00, 0x0f, 0x02, 0xb8, 0x00, 0x20, 0x2a, 0xb4, 0x00, 0x12, 0x02, 0xb8, 0x00, 0x20, 0x2a, 0xb4, 0x00, 0x09, 0x1b, 0x1c, 0x4f, 0x03, 0x3e, 0x03, 0x36, 0x04, 0x15, 0x04, 0x2a, 0xb4, 0x00, 0x18, 0xb4, 0x00, 0x26, 0xa2, 0x00, 0x48, 0x2a, 0x1d, 0xb6, 0x00, 0x2c, 0x36, 0x05, 0x15, 0x05, 0x02, 0xa0, 0x00, 0x04, 0xb1, 0x1d, 0x04]
theorem fl_X2_spread_0 {p j : Nat} {b : UInt8} (e : p = 0 + j) (h : fb_X2_spread_0[j]? = some b) : cX2_spread.data.toList[p]? = some b := fq_l (n := 64) (show (cX2_spread.data.toList.drop 0).take 64 = fb_X2_spread_0 by decide +kernel) e h
theorem dX2_spread_0 : decode cX2_spread 0 = .ok (.aload_n 0, 1) := fq1_42 (fl_X2_spread_0 (j := 0) rfl rfl)
theorem dX2_spread_1 : decode cX2_spread 1 = .ok (.getfield 9, 3) := fq3_180 (fl_X2_spread_0 (j := 1) rfl rfl) (fl_X2_spread_0 (j := 2) rfl rfl) (fl_X2_spread_0 (j := 3) rfl rfl) rfl
theorem dX2_spread_4 : decode cX2_spread 4 = .ok (.iconst (-1), 1) := fq1_2 (fl_X2_spread_0 (j := 4) rfl rfl)
theorem dX2_spread_5 : decode cX2_spread 5 = .ok (.invokestatic 32, 3) := fq3_184 (fl_X2_spread_0 (j := 5) rfl rfl) (fl_X2_spread_0 (j := 6) rfl rfl) (fl_X2_spread_0 (j := 7) rfl rfl) rfl
theorem dX2_spread_8 : decode cX2_spread 8 = .ok (.aload_n 0, 1) := fq1_42 (fl_X2_spread_0 (j := 8) rfl rfl)
theorem dX2_spread_9 : decode cX2_spread 9 = .ok (.getfield 15, 3) := fq3_180 (fl_X2_spread_0 (j := 9) rfl rfl) (fl_X2_spread_0 (j := 10) rfl rfl) (fl_X2_spread_0 (j := 11) rfl rfl) rfl
theorem dX2_spread_12 : decode cX2_spread 12 = .ok (.iconst (-1), 1) := fq1_2 (fl_X2_spread_0 (j := 12) rfl rfl)
theorem dX2_spread_13 : decode cX2_spread 13 = .ok (.invokestatic 32, 3) := fq3_184 (fl_X2_spread_0 (j := 13) rfl rfl) (fl_X2_spread_0 (j := 14) rfl rfl) (fl_X2_spread_0 (j := 15) rfl rfl) rfl
theorem dX2_spread_16 : decode cX2_spread 16 = .ok (.aload_n 0, 1) := fq1_42 (fl_X2_spread_0 (j := 16) rfl rfl)
theorem dX2_spread_17 : decode cX2_spread 17 = .ok (.getfield 18, 3) := fq3_180 (fl_X2_spread_0 (j := 17) rfl rfl) (fl_X2_spread_0 (j := 18) rfl rfl) (fl_X2_spread_0 (j := 19) rfl rfl) rfl
theorem dX2_spread_20 : decode cX2_spread 20 = .ok (.iconst (-1), 1) := fq1_2 (fl_X2_spread_0 (j := 20) rfl rfl)
theorem dX2_spread_21 : decode cX2_spread 21 = .ok (.invokestatic 32, 3) := fq3_184 (fl_X2_spread_0 (j := 21) rfl rfl) (fl_X2_spread_0 (j := 22) rfl rfl) (fl_X2_spread_0 (j := 23) rfl rfl) rfl
theorem dX2_spread_24 : decode cX2_spread 24 = .ok (.aload_n 0, 1) := fq1_42 (fl_X2_spread_0 (j := 24) rfl rfl)
theorem dX2_spread_25 : decode cX2_spread 25 = .ok (.getfield 9, 3) := fq3_180 (fl_X2_spread_0 (j := 25) rfl rfl) (fl_X2_spread_0 (j := 26) rfl rfl) (fl_X2_spread_0 (j := 27) rfl rfl) rfl
theorem dX2_spread_28 : decode cX2_spread 28 = .ok (.iload_n 1, 1) := fq1_27 (fl_X2_spread_0 (j := 28) rfl rfl)
theorem dX2_spread_29 : decode cX2_spread 29 = .ok (.iload_n 2, 1) := fq1_28 (fl_X2_spread_0 (j := 29) rfl rfl)
theorem dX2_spread_30 : decode cX2_spread 30 = .ok (.iastore, 1) := fq1_79 (fl_X2_spread_0 (j := 30) rfl rfl)
theorem dX2_spread_31 : decode cX2_spread 31 = .ok (.iconst 0, 1) := fq1_3 (fl_X2_spread_0 (j := 31) rfl rfl)
theorem dX2_spread_32 : decode cX2_spread 32 = .ok (.istore_n 3, 1) := fq1_62 (fl_X2_spread_0 (j := 32) rfl rfl)
theorem dX2_spread_33 : decode cX2_spread 33 = .ok (.iconst 0, 1) := fq1_3 (fl_X2_spread_0 (j := 33) rfl rfl)
theorem dX2_spread_34 : decode cX2_spread 34 = .ok (.istore 4, 2) := fq2_54 (fl_X2_spread_0 (j := 34) rfl rfl) (fl_X2_spread_0 (j := 35) rfl rfl) rfl
theorem dX2_spread_36 : decode cX2_spread 36 = .ok (.iload 4, 2) := fq2_21 (fl_X2_spread_0 (j := 36) rfl rfl) (fl_X2_spread_0 (j := 37) rfl rfl) rfl
theorem dX2_spread_38 : decode cX2_spread 38 = .ok (.aload_n 0, 1) := fq1_42 (fl_X2_spread_0 (j := 38) rfl rfl)
theorem dX2_spread_39 : decode cX2_spread 39 = .ok (.getfield 24, 3) := fq3_180 (fl_X2_spread_0 (j := 39) rfl rfl) (fl_X2_spread_0 (j := 40) rfl rfl) (fl_X2_spread_0 (j := 41) rfl rfl) rfl
theorem dX2_spread_42 : decode cX2_spread 42 = .ok (.getfield 38, 3) := fq3_180 (fl_X2_spread_0 (j := 42) rfl rfl) (fl_X2_spread_0 (j := 43) rfl rfl) (fl_X2_spread_0 (j := 44) rfl rfl) rfl
theorem dX2_spread_45 : decode cX2_spread 45 = .ok (.if_icmp .ge 72, 3) := fq3_162 (fl_X2_spread_0 (j := 45) rfl rfl) (fl_X2_spread_0 (j := 46) rfl rfl) (fl_X2_spread_0 (j := 47) rfl rfl) (s2p rfl (bl rfl))
theorem dX2_spread_48 : decode cX2_spread 48 = .ok (.aload_n 0, 1) := fq1_42 (fl_X2_spread_0 (j := 48) rfl rfl)
theorem dX2_spread_49 : decode cX2_spread 49 = .ok (.iload_n 3, 1) := fq1_29 (fl_X2_spread_0 (j := 49) rfl rfl)
theorem dX2_spread_50 : decode cX2_spread 50 = .ok (.invokevirtual 44, 3) := fq3_182 (fl_X2_spread_0 (j := 50) rfl rfl) (fl_X2_spread_0 (j := 51) rfl rfl) (fl_X2_spread_0 (j := 52) rfl rfl) rfl
theorem dX2_spread_53 : decode cX2_spread 53 = .ok (.istore 5, 2) := fq2_54 (fl_X2_spread_0 (j := 53) rfl rfl) (fl_X2_spread_0 (j := 54) rfl rfl) rfl
theorem dX2_spread_55 : decode cX2_spread 55 = .ok (.iload 5, 2) := fq2_21 (fl_X2_spread_0 (j := 55) rfl rfl) (fl_X2_spread_0 (j := 56) rfl rfl) rfl
theorem dX2_spread_57 : decode cX2_spread 57 = .ok (.iconst (-1), 1) := fq1_2 (fl_X2_spread_0 (j := 57) rfl rfl)
theorem dX2_spread_58 : decode cX2_spread 58 = .ok (.if_icmp .ne 4, 3) := fq3_160 (fl_X2_spread_0 (j := 58) rfl rfl) (fl_X2_spread_0 (j := 59) rfl rfl) (fl_X2_spread_0 (j := 60) rfl rfl) (s2p rfl (bl rfl))
theorem dX2_spread_61 : decode cX2_spread 61 = .ok (.return_, 1) := fq1_177 (fl_X2_spread_0 (j := 61) rfl rfl)
theorem dX2_spread_62 : decode cX2_spread 62 = .ok (.iload_n 3, 1) := fq1_29 (fl_X2_spread_0 (j := 62) rfl rfl)
theorem dX2_spread_63 : decode cX2_spread 63 = .ok (.iconst 1, 1) := fq1_4 (fl_X2_spread_0 (j := 63) rfl rfl)
def fb_X2_spread_1 : List UInt8 := [0x15, 0x05, 0x78, 0x80, 0x3e, 0x2a, 0xb4, 0x00, 0x12, 0x15, 0x05, 0x2a, 0xb4, 0x00, 0x0f, 0x15, 0x05, 0x2e, 0x02, 0xa0, 0x00, 0x07, 0x03, 0xa7, 0x00, 0x11, 0x2a, 0xb4, 0x00, 0x12, 0x2a, 0xb4, 0x00, 0x0f, 0x15, 0x05, 0x2e, 0x2e, 0x04, 0x60, 0x4f, 0x2a, 0x15, 0x05, 0xb6, 0x00, 0x30, 0x84, 0x04, 0x01, 0xa7, 0xff, 0xb2, 0xb1]
theorem fl_X2_spread_1 {p j : Nat} {b : UInt8} (e : p = 64 + j) (h : fb_X2_spread_1[j]? = some b) : cX2_spread.data.toList[p]? = some b := fq_l (n := 64) (show (cX2_spread.data.toList.drop 64).take 64 = fb_X2_spread_1 by decide +kernel) e h
theorem dX2_spread_64 : decode cX2_spread 64 = .ok (.iload 5, 2) := fq2_21 (fl_X2_spread_1 (j := 0) rfl rfl) (fl_X2_spread_1 (j := 1) rfl rfl) rfl
theorem dX2_spread_66 : decode cX2_spread 66 = .ok (.ishl, 1) := fq1_120 (fl_X2_spread_1 (j := 2) rfl rfl)
theorem dX2_spread_67 : decode cX2_spread 67 = .ok (.ior, 1) := fq1_128 (fl_X2_spread_1 (j := 3) rfl rfl)
theorem dX2_spread_68 : decode cX2_spread 68 = .ok (.istore_n 3, 1) := fq1_62 (fl_X2_spread_1 (j := 4) rfl rfl)
theorem dX2_spread_69 : decode cX2_spread 69 = .ok (.aload_n 0, 1) := fq1_42 (fl_X2_spread_1 (j := 5) rfl rfl)
theorem dX2_spread_70 : decode cX2_spread 70 = .ok (.getfield 18, 3) := fq3_180 (fl_X2_spread_1 (j := 6) rfl rfl) (fl_X2_spread_1 (j := 7) rfl rfl) (fl_X2_spread_1 (j := 8) rfl rfl) rfl
theorem dX2_spread_73 : decode cX2_spread 73 = .ok (.iload 5, 2) := fq2_21 (fl_X2_spread_1 (j := 9) rfl rfl) (fl_X2_spread_1 (j := 10) rfl rfl) rfl
theorem dX2_spread_75 : decode cX2_spread 75 = .ok (.aload_n 0, 1) := fq1_42 (fl_X2_spread_1 (j := 11) rfl rfl)
theorem dX2_spread_76 : decode cX2_spread 76 = .ok (.getfield 15, 3) := fq3_180 (fl_X2_spread_1 (j := 12) rfl rfl) (fl_X2_spread_1 (j := 13) rfl rfl) (fl_X2_spread_1 (j := 14) rfl rfl) rfl
theorem dX2_spread_79 : decode cX2_spread 79 = .ok (.iload 5, 2) := fq2_21 (fl_X2_spread_1 (j := 15) rfl rfl) (fl_X2_spread_1 (j := 16) rfl rfl) rfl
theorem dX2_spread_81 : decode cX2_spread 81 = .ok (.iaload, 1) := fq1_46 (fl_X2_spread_1 (j := 17) rfl rfl)
theorem dX2_spread_82 : decode cX2_spread 82 = .ok (.iconst (-1), 1) := fq1_2 (fl_X2_spread_1 (j := 18) rfl rfl)
theorem dX2_spread_83 : decode cX2_spread 83 = .ok (.if_icmp .ne 7, 3) := fq3_160 (fl_X2_spread_1 (j := 19) rfl rfl) (fl_X2_spread_1 (j := 20) rfl rfl) (fl_X2_spread_1 (j := 21) rfl rfl) (s2p rfl (bl rfl))
theorem dX2_spread_86 : decode cX2_spread 86 = .ok (.iconst 0, 1) := fq1_3 (fl_X2_spread_1 (j := 22) rfl rfl)
theorem dX2_spread_87 : decode cX2_spread 87 = .ok (.goto 17, 3) := fq3_167 (fl_X2_spread_1 (j := 23) rfl rfl) (fl_X2_spread_1 (j := 24) rfl rfl) (fl_X2_spread_1 (j := 25) rfl rfl) (s2p rfl (bl rfl))
theorem dX2_spread_90 : decode cX2_spread 90 = .ok (.aload_n 0, 1) := fq1_42 (fl_X2_spread_1 (j := 26) rfl rfl)
theorem dX2_spread_91 : decode cX2_spread 91 = .ok (.getfield 18, 3) := fq3_180 (fl_X2_spread_1 (j := 27) rfl rfl) (fl_X2_spread_1 (j := 28) rfl rfl) (fl_X2_spread_1 (j := 29) rfl rfl) rfl
theorem dX2_spread_94 : decode cX2_spread 94 = .ok (.aload_n 0, 1) := fq1_42 (fl_X2_spread_1 (j := 30) rfl rfl)
theorem dX2_spread_95 : decode cX2_spread 95 = .ok (.getfield 15, 3) := fq3_180 (fl_X2_spread_1 (j := 31) rfl rfl) (fl_X2_spread_1 (j := 32) rfl rfl) (fl_X2_spread_1 (j := 33) rfl rfl) rfl
theorem dX2_spread_98 : decode cX2_spread 98 = .ok (.iload 5, 2) := fq2_21 (fl_X2_spread_1 (j := 34) rfl rfl) (fl_X2_spread_1 (j := 35) rfl rfl) rfl
theorem dX2_spread_100 : decode cX2_spread 100 = .ok (.iaload, 1) := fq1_46 (fl_X2_spread_1 (j := 36) rfl rfl)
theorem dX2_spread_101 : decode cX2_spread 101 = .ok (.iaload, 1) := fq1_46 (fl_X2_spread_1 (j := 37) rfl rfl)
theorem dX2_spread_102 : decode cX2_spread 102 = .ok (.iconst 1, 1) := fq1_4 (fl_X2_spread_1 (j := 38) rfl rfl)
theorem dX2_spread_103 : decode cX2_spread 103 = .ok (.iadd, 1) := fq1_96 (fl_X2_spread_1 (j := 39) rfl rfl)
theorem dX2_spread_104 : decode cX2_spread 104 = .ok (.iastore, 1) := fq1_79 (fl_X2_spread_1 (j := 40) rfl rfl)
theorem dX2_spread_105 : decode cX2_spread 105 = .ok (.aload_n 0, 1) := fq1_42 (fl_X2_spread_1 (j := 41) rfl rfl)
theorem dX2_spread_106 : decode cX2_spread 106 = .ok (.iload 5, 2) := fq2_21 (fl_X2_spread_1 (j := 42) rfl rfl) (fl_X2_spread_1 (j := 43) rfl rfl) rfl
theorem dX2_spread_108 : decode cX2_spread 108 = .ok (.invokevirtual 48, 3) := fq3_182 (fl_X2_spread_1 (j := 44) rfl rfl) (fl_X2_spread_1 (j := 45) rfl rfl) (fl_X2_spread_1 (j := 46) rfl rfl) rfl
theorem dX2_spread_111 : decode cX2_spread 111 = .ok (.iinc 4 1, 3) := fq3_132 (fl_X2_spread_1 (j := 47) rfl rfl) (fl_X2_spread_1 (j := 48) rfl rfl) (fl_X2_spread_1 (j := 49) rfl rfl) rfl (s1p rfl (bl rfl))
theorem dX2_spread_114 : decode cX2_spread 114 = .ok (.goto (-78), 3) := fq3_167 (fl_X2_spread_1 (j := 50) rfl rfl) (fl_X2_spread_1 (j := 51) rfl rfl) (fl_X2_spread_1 (j := 52) rfl rfl) (by decide)
theorem dX2_spread_117 : decode cX2_spread 117 = .ok (.return_, 1) := fq1_177 (fl_X2_spread_1 (j := 53) rfl rfl)
