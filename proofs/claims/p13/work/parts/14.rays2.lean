section
theorem qm_X3_43 : Cond.methodLink RX3 43 yJ9_max_7cf53 ∈ gw := tbt (tb4 (List.mem_of_getElem? (i := 112) rfl)) rfl
theorem qt_yJ9_max_7cf53 : Cond.static yJ9_max_7cf53 ∈ gw := tbt (tb4 (List.mem_of_getElem? (i := 113) rfl)) rfl
theorem qz_J9 : Cond.initialized RJ9 ∈ gw := tbt (tb1 (List.mem_of_getElem? (i := 20) rfl)) rfl
theorem qc_J9_max_7cf53 : Cond.code yJ9_max_7cf53 cJ9_max_7cf53 2 (some .int) ∈ gw := tbt (tb4 (List.mem_of_getElem? (i := 114) rfl)) rfl
theorem qc_X3_arrival : Cond.code yX3_arrival cX3_arrival 7 (some .int) ∈ gw := tbt (tb4 (List.mem_of_getElem? (i := 84) rfl)) rfl
theorem qi_yX3_arrival : Cond.instanceMethod yX3_arrival ∈ gw := tbt (tb4 (List.mem_of_getElem? (i := 82) rfl)) rfl
theorem qs_X3_arrival : Cond.selects (yX3_arrival).cls yX3_arrival yX3_arrival ∈ gw := tbt (tb4 (List.mem_of_getElem? (i := 83) rfl)) rfl
theorem ci_X3_arrival : CIv yX3_arrival cX3_arrival 7 (some .int) 3 := ⟨qc_X3_arrival, qi_yX3_arrival, qs_X3_arrival, qz_X3, by decide +kernel⟩
theorem qm_X3_48 : Cond.methodLink RX3 48 yX3_arrival ∈ gw := tbt (tb4 (List.mem_of_getElem? (i := 115) rfl)) rfl
def fb_X3_echoOf_0 : List UInt8 := [0x2a, 0x1d, 0x2a, 0x1b, 0x1c, 0x1d, 0xb6, 0x00, 0x30, 0x1b, 0xb6, 0x00, 0x30, 0xac]
theorem fl_X3_echoOf_0 {p j : Nat} {b : UInt8} (e : p = 0 + j) (h : fb_X3_echoOf_0[j]? = some b) : cX3_echoOf.data.toList[p]? = some b := fq_l (n := 64) (show (cX3_echoOf.data.toList.drop 0).take 64 = fb_X3_echoOf_0 by decide +kernel) e h
theorem dX3_echoOf_0 : decode cX3_echoOf 0 = .ok (.aload_n 0, 1) := fq1_42 (fl_X3_echoOf_0 (j := 0) rfl rfl)
theorem dX3_echoOf_1 : decode cX3_echoOf 1 = .ok (.iload_n 3, 1) := fq1_29 (fl_X3_echoOf_0 (j := 1) rfl rfl)
theorem dX3_echoOf_2 : decode cX3_echoOf 2 = .ok (.aload_n 0, 1) := fq1_42 (fl_X3_echoOf_0 (j := 2) rfl rfl)
theorem dX3_echoOf_3 : decode cX3_echoOf 3 = .ok (.iload_n 1, 1) := fq1_27 (fl_X3_echoOf_0 (j := 3) rfl rfl)
theorem dX3_echoOf_4 : decode cX3_echoOf 4 = .ok (.iload_n 2, 1) := fq1_28 (fl_X3_echoOf_0 (j := 4) rfl rfl)
theorem dX3_echoOf_5 : decode cX3_echoOf 5 = .ok (.iload_n 3, 1) := fq1_29 (fl_X3_echoOf_0 (j := 5) rfl rfl)
theorem dX3_echoOf_6 : decode cX3_echoOf 6 = .ok (.invokevirtual 48, 3) := fq3_182 (fl_X3_echoOf_0 (j := 6) rfl rfl) (fl_X3_echoOf_0 (j := 7) rfl rfl) (fl_X3_echoOf_0 (j := 8) rfl rfl) rfl
theorem dX3_echoOf_9 : decode cX3_echoOf 9 = .ok (.iload_n 1, 1) := fq1_27 (fl_X3_echoOf_0 (j := 9) rfl rfl)
theorem dX3_echoOf_10 : decode cX3_echoOf 10 = .ok (.invokevirtual 48, 3) := fq3_182 (fl_X3_echoOf_0 (j := 10) rfl rfl) (fl_X3_echoOf_0 (j := 11) rfl rfl) (fl_X3_echoOf_0 (j := 12) rfl rfl) rfl
theorem dX3_echoOf_13 : decode cX3_echoOf 13 = .ok (.ireturn, 1) := fq1_172 (fl_X3_echoOf_0 (j := 13) rfl rfl)
def fb_X3_seen_0 : List UInt8 := [0x1d, 0x9b, 0x00, 0x0a, 0x1d, 0x11, 0x01, 0x90, 0xa4, 0x00, 0x05, 0x02, 0xac, 0x1b, 0x1c, 0xa0, 0x00, 0x05, 0x1d, 0xac, 0x2a, 0x1c, 0x1b, 0xb6, 0x00, 0x1a, 0x36, 0x04, 0x2a, 0xb4, 0x00, 0x17, 0x15, 0x04, 0x1d, 0x60, 0x2e, 0x10, 0xfe, 0x9f, 0x00, 0x0d, 0x2a, 0xb4, 0x00, 0x17, 0x15, 0x04, 0x1d, 0x60, 0x2e, 0xac, 0x1d, 0x9a, 0x00, 0x07, 0x02, 0xa7, 0x00, 0x0e, 0x2a, 0xb4, 0x00, 0x17]
theorem fl_X3_seen_0 {p j : Nat} {b : UInt8} (e : p = 0 + j) (h : fb_X3_seen_0[j]? = some b) : cX3_seen.data.toList[p]? = some b := fq_l (n := 64) (show (cX3_seen.data.toList.drop 0).take 64 = fb_X3_seen_0 by decide +kernel) e h
theorem dX3_seen_0 : decode cX3_seen 0 = .ok (.iload_n 3, 1) := fq1_29 (fl_X3_seen_0 (j := 0) rfl rfl)
theorem dX3_seen_1 : decode cX3_seen 1 = .ok (.ifCond .lt 10, 3) := fq3_155 (fl_X3_seen_0 (j := 1) rfl rfl) (fl_X3_seen_0 (j := 2) rfl rfl) (fl_X3_seen_0 (j := 3) rfl rfl) (s2p rfl (bl rfl))
theorem dX3_seen_4 : decode cX3_seen 4 = .ok (.iload_n 3, 1) := fq1_29 (fl_X3_seen_0 (j := 4) rfl rfl)
theorem dX3_seen_5 : decode cX3_seen 5 = .ok (.sipush 400, 3) := fq3_17 (fl_X3_seen_0 (j := 5) rfl rfl) (fl_X3_seen_0 (j := 6) rfl rfl) (fl_X3_seen_0 (j := 7) rfl rfl) (s2p rfl (bl rfl))
theorem dX3_seen_8 : decode cX3_seen 8 = .ok (.if_icmp .le 5, 3) := fq3_164 (fl_X3_seen_0 (j := 8) rfl rfl) (fl_X3_seen_0 (j := 9) rfl rfl) (fl_X3_seen_0 (j := 10) rfl rfl) (s2p rfl (bl rfl))
theorem dX3_seen_11 : decode cX3_seen 11 = .ok (.iconst (-1), 1) := fq1_2 (fl_X3_seen_0 (j := 11) rfl rfl)
theorem dX3_seen_12 : decode cX3_seen 12 = .ok (.ireturn, 1) := fq1_172 (fl_X3_seen_0 (j := 12) rfl rfl)
theorem dX3_seen_13 : decode cX3_seen 13 = .ok (.iload_n 1, 1) := fq1_27 (fl_X3_seen_0 (j := 13) rfl rfl)
theorem dX3_seen_14 : decode cX3_seen 14 = .ok (.iload_n 2, 1) := fq1_28 (fl_X3_seen_0 (j := 14) rfl rfl)
theorem dX3_seen_15 : decode cX3_seen 15 = .ok (.if_icmp .ne 5, 3) := fq3_160 (fl_X3_seen_0 (j := 15) rfl rfl) (fl_X3_seen_0 (j := 16) rfl rfl) (fl_X3_seen_0 (j := 17) rfl rfl) (s2p rfl (bl rfl))
theorem dX3_seen_18 : decode cX3_seen 18 = .ok (.iload_n 3, 1) := fq1_29 (fl_X3_seen_0 (j := 18) rfl rfl)
theorem dX3_seen_19 : decode cX3_seen 19 = .ok (.ireturn, 1) := fq1_172 (fl_X3_seen_0 (j := 19) rfl rfl)
theorem dX3_seen_20 : decode cX3_seen 20 = .ok (.aload_n 0, 1) := fq1_42 (fl_X3_seen_0 (j := 20) rfl rfl)
theorem dX3_seen_21 : decode cX3_seen 21 = .ok (.iload_n 2, 1) := fq1_28 (fl_X3_seen_0 (j := 21) rfl rfl)
theorem dX3_seen_22 : decode cX3_seen 22 = .ok (.iload_n 1, 1) := fq1_27 (fl_X3_seen_0 (j := 22) rfl rfl)
theorem dX3_seen_23 : decode cX3_seen 23 = .ok (.invokevirtual 26, 3) := fq3_182 (fl_X3_seen_0 (j := 23) rfl rfl) (fl_X3_seen_0 (j := 24) rfl rfl) (fl_X3_seen_0 (j := 25) rfl rfl) rfl
theorem dX3_seen_26 : decode cX3_seen 26 = .ok (.istore 4, 2) := fq2_54 (fl_X3_seen_0 (j := 26) rfl rfl) (fl_X3_seen_0 (j := 27) rfl rfl) rfl
theorem dX3_seen_28 : decode cX3_seen 28 = .ok (.aload_n 0, 1) := fq1_42 (fl_X3_seen_0 (j := 28) rfl rfl)
theorem dX3_seen_29 : decode cX3_seen 29 = .ok (.getfield 23, 3) := fq3_180 (fl_X3_seen_0 (j := 29) rfl rfl) (fl_X3_seen_0 (j := 30) rfl rfl) (fl_X3_seen_0 (j := 31) rfl rfl) rfl
theorem dX3_seen_32 : decode cX3_seen 32 = .ok (.iload 4, 2) := fq2_21 (fl_X3_seen_0 (j := 32) rfl rfl) (fl_X3_seen_0 (j := 33) rfl rfl) rfl
theorem dX3_seen_34 : decode cX3_seen 34 = .ok (.iload_n 3, 1) := fq1_29 (fl_X3_seen_0 (j := 34) rfl rfl)
theorem dX3_seen_35 : decode cX3_seen 35 = .ok (.iadd, 1) := fq1_96 (fl_X3_seen_0 (j := 35) rfl rfl)
theorem dX3_seen_36 : decode cX3_seen 36 = .ok (.iaload, 1) := fq1_46 (fl_X3_seen_0 (j := 36) rfl rfl)
theorem dX3_seen_37 : decode cX3_seen 37 = .ok (.bipush (-2), 2) := fq2_16 (fl_X3_seen_0 (j := 37) rfl rfl) (fl_X3_seen_0 (j := 38) rfl rfl) (by decide)
theorem dX3_seen_39 : decode cX3_seen 39 = .ok (.if_icmp .eq 13, 3) := fq3_159 (fl_X3_seen_0 (j := 39) rfl rfl) (fl_X3_seen_0 (j := 40) rfl rfl) (fl_X3_seen_0 (j := 41) rfl rfl) (s2p rfl (bl rfl))
theorem dX3_seen_42 : decode cX3_seen 42 = .ok (.aload_n 0, 1) := fq1_42 (fl_X3_seen_0 (j := 42) rfl rfl)
theorem dX3_seen_43 : decode cX3_seen 43 = .ok (.getfield 23, 3) := fq3_180 (fl_X3_seen_0 (j := 43) rfl rfl) (fl_X3_seen_0 (j := 44) rfl rfl) (fl_X3_seen_0 (j := 45) rfl rfl) rfl
theorem dX3_seen_46 : decode cX3_seen 46 = .ok (.iload 4, 2) := fq2_21 (fl_X3_seen_0 (j := 46) rfl rfl) (fl_X3_seen_0 (j := 47) rfl rfl) rfl
theorem dX3_seen_48 : decode cX3_seen 48 = .ok (.iload_n 3, 1) := fq1_29 (fl_X3_seen_0 (j := 48) rfl rfl)
theorem dX3_seen_49 : decode cX3_seen 49 = .ok (.iadd, 1) := fq1_96 (fl_X3_seen_0 (j := 49) rfl rfl)
theorem dX3_seen_50 : decode cX3_seen 50 = .ok (.iaload, 1) := fq1_46 (fl_X3_seen_0 (j := 50) rfl rfl)
theorem dX3_seen_51 : decode cX3_seen 51 = .ok (.ireturn, 1) := fq1_172 (fl_X3_seen_0 (j := 51) rfl rfl)
theorem dX3_seen_52 : decode cX3_seen 52 = .ok (.iload_n 3, 1) := fq1_29 (fl_X3_seen_0 (j := 52) rfl rfl)
theorem dX3_seen_53 : decode cX3_seen 53 = .ok (.ifCond .ne 7, 3) := fq3_154 (fl_X3_seen_0 (j := 53) rfl rfl) (fl_X3_seen_0 (j := 54) rfl rfl) (fl_X3_seen_0 (j := 55) rfl rfl) (s2p rfl (bl rfl))
theorem dX3_seen_56 : decode cX3_seen 56 = .ok (.iconst (-1), 1) := fq1_2 (fl_X3_seen_0 (j := 56) rfl rfl)
theorem dX3_seen_57 : decode cX3_seen 57 = .ok (.goto 14, 3) := fq3_167 (fl_X3_seen_0 (j := 57) rfl rfl) (fl_X3_seen_0 (j := 58) rfl rfl) (fl_X3_seen_0 (j := 59) rfl rfl) (s2p rfl (bl rfl))
theorem dX3_seen_60 : decode cX3_seen 60 = .ok (.aload_n 0, 1) := fq1_42 (fl_X3_seen_0 (j := 60) rfl rfl)
theorem dX3_seen_61 : decode cX3_seen 61 = .ok (.getfield 23, 3) := fq3_180 (fl_X3_seen_0 (j := 61) rfl rfl) (fl_X3_seen_0 (j := 62) rfl rfl) (fl_X3_seen_0 (j := 63) rfl rfl) rfl
def fb_X3_seen_1 : List UInt8 := [0x15, 0x04, 0x1d, 0x60, 0x04, 0x64, 0x2e, 0x36, 0x05, 0x15, 0x05, 0x10, 0xfe, 0xa0, 0x00, 0x07, 0x02, 0xa7, 0x00, 0x05, 0x15, 0x05, 0x36, 0x06, 0x15, 0x05, 0x10, 0xfe, 0xa0, 0x00, 0x07, 0x03, 0xa7, 0x00, 0x0e, 0x15, 0x05, 0x04, 0x60, 0x1d, 0x10, 0x14, 0x64, 0xb8, 0x00, 0x2b, 0x36, 0x07, 0x1d, 0x04, 0x64, 0x36, 0x08, 0x15, 0x08, 0x15, 0x07, 0xa1, 0x00, 0x26, 0x2a, 0x1c, 0x15, 0x08]
theorem fl_X3_seen_1 {p j : Nat} {b : UInt8} (e : p = 64 + j) (h : fb_X3_seen_1[j]? = some b) : cX3_seen.data.toList[p]? = some b := fq_l (n := 64) (show (cX3_seen.data.toList.drop 64).take 64 = fb_X3_seen_1 by decide +kernel) e h
theorem dX3_seen_64 : decode cX3_seen 64 = .ok (.iload 4, 2) := fq2_21 (fl_X3_seen_1 (j := 0) rfl rfl) (fl_X3_seen_1 (j := 1) rfl rfl) rfl
theorem dX3_seen_66 : decode cX3_seen 66 = .ok (.iload_n 3, 1) := fq1_29 (fl_X3_seen_1 (j := 2) rfl rfl)
theorem dX3_seen_67 : decode cX3_seen 67 = .ok (.iadd, 1) := fq1_96 (fl_X3_seen_1 (j := 3) rfl rfl)
theorem dX3_seen_68 : decode cX3_seen 68 = .ok (.iconst 1, 1) := fq1_4 (fl_X3_seen_1 (j := 4) rfl rfl)
theorem dX3_seen_69 : decode cX3_seen 69 = .ok (.isub, 1) := fq1_100 (fl_X3_seen_1 (j := 5) rfl rfl)
theorem dX3_seen_70 : decode cX3_seen 70 = .ok (.iaload, 1) := fq1_46 (fl_X3_seen_1 (j := 6) rfl rfl)
theorem dX3_seen_71 : decode cX3_seen 71 = .ok (.istore 5, 2) := fq2_54 (fl_X3_seen_1 (j := 7) rfl rfl) (fl_X3_seen_1 (j := 8) rfl rfl) rfl
theorem dX3_seen_73 : decode cX3_seen 73 = .ok (.iload 5, 2) := fq2_21 (fl_X3_seen_1 (j := 9) rfl rfl) (fl_X3_seen_1 (j := 10) rfl rfl) rfl
theorem dX3_seen_75 : decode cX3_seen 75 = .ok (.bipush (-2), 2) := fq2_16 (fl_X3_seen_1 (j := 11) rfl rfl) (fl_X3_seen_1 (j := 12) rfl rfl) (by decide)
theorem dX3_seen_77 : decode cX3_seen 77 = .ok (.if_icmp .ne 7, 3) := fq3_160 (fl_X3_seen_1 (j := 13) rfl rfl) (fl_X3_seen_1 (j := 14) rfl rfl) (fl_X3_seen_1 (j := 15) rfl rfl) (s2p rfl (bl rfl))
theorem dX3_seen_80 : decode cX3_seen 80 = .ok (.iconst (-1), 1) := fq1_2 (fl_X3_seen_1 (j := 16) rfl rfl)
theorem dX3_seen_81 : decode cX3_seen 81 = .ok (.goto 5, 3) := fq3_167 (fl_X3_seen_1 (j := 17) rfl rfl) (fl_X3_seen_1 (j := 18) rfl rfl) (fl_X3_seen_1 (j := 19) rfl rfl) (s2p rfl (bl rfl))
theorem dX3_seen_84 : decode cX3_seen 84 = .ok (.iload 5, 2) := fq2_21 (fl_X3_seen_1 (j := 20) rfl rfl) (fl_X3_seen_1 (j := 21) rfl rfl) rfl
theorem dX3_seen_86 : decode cX3_seen 86 = .ok (.istore 6, 2) := fq2_54 (fl_X3_seen_1 (j := 22) rfl rfl) (fl_X3_seen_1 (j := 23) rfl rfl) rfl
theorem dX3_seen_88 : decode cX3_seen 88 = .ok (.iload 5, 2) := fq2_21 (fl_X3_seen_1 (j := 24) rfl rfl) (fl_X3_seen_1 (j := 25) rfl rfl) rfl
theorem dX3_seen_90 : decode cX3_seen 90 = .ok (.bipush (-2), 2) := fq2_16 (fl_X3_seen_1 (j := 26) rfl rfl) (fl_X3_seen_1 (j := 27) rfl rfl) (by decide)
theorem dX3_seen_92 : decode cX3_seen 92 = .ok (.if_icmp .ne 7, 3) := fq3_160 (fl_X3_seen_1 (j := 28) rfl rfl) (fl_X3_seen_1 (j := 29) rfl rfl) (fl_X3_seen_1 (j := 30) rfl rfl) (s2p rfl (bl rfl))
theorem dX3_seen_95 : decode cX3_seen 95 = .ok (.iconst 0, 1) := fq1_3 (fl_X3_seen_1 (j := 31) rfl rfl)
theorem dX3_seen_96 : decode cX3_seen 96 = .ok (.goto 14, 3) := fq3_167 (fl_X3_seen_1 (j := 32) rfl rfl) (fl_X3_seen_1 (j := 33) rfl rfl) (fl_X3_seen_1 (j := 34) rfl rfl) (s2p rfl (bl rfl))
theorem dX3_seen_99 : decode cX3_seen 99 = .ok (.iload 5, 2) := fq2_21 (fl_X3_seen_1 (j := 35) rfl rfl) (fl_X3_seen_1 (j := 36) rfl rfl) rfl
theorem dX3_seen_101 : decode cX3_seen 101 = .ok (.iconst 1, 1) := fq1_4 (fl_X3_seen_1 (j := 37) rfl rfl)
theorem dX3_seen_102 : decode cX3_seen 102 = .ok (.iadd, 1) := fq1_96 (fl_X3_seen_1 (j := 38) rfl rfl)
theorem dX3_seen_103 : decode cX3_seen 103 = .ok (.iload_n 3, 1) := fq1_29 (fl_X3_seen_1 (j := 39) rfl rfl)
theorem dX3_seen_104 : decode cX3_seen 104 = .ok (.bipush 20, 2) := fq2_16 (fl_X3_seen_1 (j := 40) rfl rfl) (fl_X3_seen_1 (j := 41) rfl rfl) (s1p rfl (bl rfl))
theorem dX3_seen_106 : decode cX3_seen 106 = .ok (.isub, 1) := fq1_100 (fl_X3_seen_1 (j := 42) rfl rfl)
theorem dX3_seen_107 : decode cX3_seen 107 = .ok (.invokestatic 43, 3) := fq3_184 (fl_X3_seen_1 (j := 43) rfl rfl) (fl_X3_seen_1 (j := 44) rfl rfl) (fl_X3_seen_1 (j := 45) rfl rfl) rfl
theorem dX3_seen_110 : decode cX3_seen 110 = .ok (.istore 7, 2) := fq2_54 (fl_X3_seen_1 (j := 46) rfl rfl) (fl_X3_seen_1 (j := 47) rfl rfl) rfl
theorem dX3_seen_112 : decode cX3_seen 112 = .ok (.iload_n 3, 1) := fq1_29 (fl_X3_seen_1 (j := 48) rfl rfl)
theorem dX3_seen_113 : decode cX3_seen 113 = .ok (.iconst 1, 1) := fq1_4 (fl_X3_seen_1 (j := 49) rfl rfl)
theorem dX3_seen_114 : decode cX3_seen 114 = .ok (.isub, 1) := fq1_100 (fl_X3_seen_1 (j := 50) rfl rfl)
theorem dX3_seen_115 : decode cX3_seen 115 = .ok (.istore 8, 2) := fq2_54 (fl_X3_seen_1 (j := 51) rfl rfl) (fl_X3_seen_1 (j := 52) rfl rfl) rfl
theorem dX3_seen_117 : decode cX3_seen 117 = .ok (.iload 8, 2) := fq2_21 (fl_X3_seen_1 (j := 53) rfl rfl) (fl_X3_seen_1 (j := 54) rfl rfl) rfl
theorem dX3_seen_119 : decode cX3_seen 119 = .ok (.iload 7, 2) := fq2_21 (fl_X3_seen_1 (j := 55) rfl rfl) (fl_X3_seen_1 (j := 56) rfl rfl) rfl
theorem dX3_seen_121 : decode cX3_seen 121 = .ok (.if_icmp .lt 38, 3) := fq3_161 (fl_X3_seen_1 (j := 57) rfl rfl) (fl_X3_seen_1 (j := 58) rfl rfl) (fl_X3_seen_1 (j := 59) rfl rfl) (s2p rfl (bl rfl))
theorem dX3_seen_124 : decode cX3_seen 124 = .ok (.aload_n 0, 1) := fq1_42 (fl_X3_seen_1 (j := 60) rfl rfl)
theorem dX3_seen_125 : decode cX3_seen 125 = .ok (.iload_n 2, 1) := fq1_28 (fl_X3_seen_1 (j := 61) rfl rfl)
theorem dX3_seen_126 : decode cX3_seen 126 = .ok (.iload 8, 2) := fq2_21 (fl_X3_seen_1 (j := 62) rfl rfl) (fl_X3_seen_1 (j := 63) rfl rfl) rfl
def fb_X3_seen_2 : List UInt8 := [0x1b, 0xb6, 0x00, 0x30, 0x36, 0x09, 0x15, 0x09, 0x02, 0x9f, 0x00, 0x10, 0x15, 0x09, 0x1d, 0xa3, 0x00, 0x0a, 0x15, 0x08, 0x36, 0x06, 0xa7, 0x00, 0x09, 0x84, 0x08, 0xff, 0xa7, 0xff, 0xd9, 0x2a, 0xb4, 0x00, 0x17, 0x15, 0x04, 0x1d, 0x60, 0x15, 0x06, 0x4f, 0x15, 0x06, 0xac]
theorem fl_X3_seen_2 {p j : Nat} {b : UInt8} (e : p = 128 + j) (h : fb_X3_seen_2[j]? = some b) : cX3_seen.data.toList[p]? = some b := fq_l (n := 64) (show (cX3_seen.data.toList.drop 128).take 64 = fb_X3_seen_2 by decide +kernel) e h
theorem dX3_seen_128 : decode cX3_seen 128 = .ok (.iload_n 1, 1) := fq1_27 (fl_X3_seen_2 (j := 0) rfl rfl)
theorem dX3_seen_129 : decode cX3_seen 129 = .ok (.invokevirtual 48, 3) := fq3_182 (fl_X3_seen_2 (j := 1) rfl rfl) (fl_X3_seen_2 (j := 2) rfl rfl) (fl_X3_seen_2 (j := 3) rfl rfl) rfl
theorem dX3_seen_132 : decode cX3_seen 132 = .ok (.istore 9, 2) := fq2_54 (fl_X3_seen_2 (j := 4) rfl rfl) (fl_X3_seen_2 (j := 5) rfl rfl) rfl
theorem dX3_seen_134 : decode cX3_seen 134 = .ok (.iload 9, 2) := fq2_21 (fl_X3_seen_2 (j := 6) rfl rfl) (fl_X3_seen_2 (j := 7) rfl rfl) rfl
theorem dX3_seen_136 : decode cX3_seen 136 = .ok (.iconst (-1), 1) := fq1_2 (fl_X3_seen_2 (j := 8) rfl rfl)
theorem dX3_seen_137 : decode cX3_seen 137 = .ok (.if_icmp .eq 16, 3) := fq3_159 (fl_X3_seen_2 (j := 9) rfl rfl) (fl_X3_seen_2 (j := 10) rfl rfl) (fl_X3_seen_2 (j := 11) rfl rfl) (s2p rfl (bl rfl))
theorem dX3_seen_140 : decode cX3_seen 140 = .ok (.iload 9, 2) := fq2_21 (fl_X3_seen_2 (j := 12) rfl rfl) (fl_X3_seen_2 (j := 13) rfl rfl) rfl
theorem dX3_seen_142 : decode cX3_seen 142 = .ok (.iload_n 3, 1) := fq1_29 (fl_X3_seen_2 (j := 14) rfl rfl)
theorem dX3_seen_143 : decode cX3_seen 143 = .ok (.if_icmp .gt 10, 3) := fq3_163 (fl_X3_seen_2 (j := 15) rfl rfl) (fl_X3_seen_2 (j := 16) rfl rfl) (fl_X3_seen_2 (j := 17) rfl rfl) (s2p rfl (bl rfl))
theorem dX3_seen_146 : decode cX3_seen 146 = .ok (.iload 8, 2) := fq2_21 (fl_X3_seen_2 (j := 18) rfl rfl) (fl_X3_seen_2 (j := 19) rfl rfl) rfl
theorem dX3_seen_148 : decode cX3_seen 148 = .ok (.istore 6, 2) := fq2_54 (fl_X3_seen_2 (j := 20) rfl rfl) (fl_X3_seen_2 (j := 21) rfl rfl) rfl
theorem dX3_seen_150 : decode cX3_seen 150 = .ok (.goto 9, 3) := fq3_167 (fl_X3_seen_2 (j := 22) rfl rfl) (fl_X3_seen_2 (j := 23) rfl rfl) (fl_X3_seen_2 (j := 24) rfl rfl) (s2p rfl (bl rfl))
theorem dX3_seen_153 : decode cX3_seen 153 = .ok (.iinc 8 (-1), 3) := fq3_132 (fl_X3_seen_2 (j := 25) rfl rfl) (fl_X3_seen_2 (j := 26) rfl rfl) (fl_X3_seen_2 (j := 27) rfl rfl) rfl (by decide)
theorem dX3_seen_156 : decode cX3_seen 156 = .ok (.goto (-39), 3) := fq3_167 (fl_X3_seen_2 (j := 28) rfl rfl) (fl_X3_seen_2 (j := 29) rfl rfl) (fl_X3_seen_2 (j := 30) rfl rfl) (by decide)
theorem dX3_seen_159 : decode cX3_seen 159 = .ok (.aload_n 0, 1) := fq1_42 (fl_X3_seen_2 (j := 31) rfl rfl)
theorem dX3_seen_160 : decode cX3_seen 160 = .ok (.getfield 23, 3) := fq3_180 (fl_X3_seen_2 (j := 32) rfl rfl) (fl_X3_seen_2 (j := 33) rfl rfl) (fl_X3_seen_2 (j := 34) rfl rfl) rfl
theorem dX3_seen_163 : decode cX3_seen 163 = .ok (.iload 4, 2) := fq2_21 (fl_X3_seen_2 (j := 35) rfl rfl) (fl_X3_seen_2 (j := 36) rfl rfl) rfl
theorem dX3_seen_165 : decode cX3_seen 165 = .ok (.iload_n 3, 1) := fq1_29 (fl_X3_seen_2 (j := 37) rfl rfl)
theorem dX3_seen_166 : decode cX3_seen 166 = .ok (.iadd, 1) := fq1_96 (fl_X3_seen_2 (j := 38) rfl rfl)
theorem dX3_seen_167 : decode cX3_seen 167 = .ok (.iload 6, 2) := fq2_21 (fl_X3_seen_2 (j := 39) rfl rfl) (fl_X3_seen_2 (j := 40) rfl rfl) rfl
theorem dX3_seen_169 : decode cX3_seen 169 = .ok (.iastore, 1) := fq1_79 (fl_X3_seen_2 (j := 41) rfl rfl)
theorem dX3_seen_170 : decode cX3_seen 170 = .ok (.iload 6, 2) := fq2_21 (fl_X3_seen_2 (j := 42) rfl rfl) (fl_X3_seen_2 (j := 43) rfl rfl) rfl
theorem dX3_seen_172 : decode cX3_seen 172 = .ok (.ireturn, 1) := fq1_172 (fl_X3_seen_2 (j := 44) rfl rfl)
end

section
set_option maxHeartbeats 4000000 in
set_option maxRecDepth 100000 in
theorem k_seen (l : Launch) (D : va_G) (k : Nat → ClassId) (h hs : Nat) (r0 : Ry) {P0 : RP_} (hRT : (RT k) P0 r0) (fs : List Value) (hf hg : Nat) (f1 : fs[1]? = some (.ref hf)) (f2 : fs[2]? = some (.ref hg)) (f g : Nat → Int32) (n : Int) (hn : n ≤ 6) (hx0 : FXI f n) (ni : Int) (f4 : fs[4]? = some (.int (iZ ni))) (hni : 0 ≤ ni ∧ ni ≤ 8) (hQ0 : P0 = RX f g n ni) (a b w : Int) (ha0 : 0 ≤ a ∧ a < n) (hb0 : 0 ≤ b ∧ b < n) (hw : -2147483648 ≤ w ∧ w < 2147483648) : XD (σ := (Int × Ry)) l yX3_seen cX3_seen 10 (some .int) 2 r0 D k [.ref h, .int (iZ a), .int (iZ b), .int (iZ w)] [(h, .inr (3, [.ref hs, .long r0.op, r0.vA, r0.vL])), (hs, .inr (5, fs)), (hf, .inl (k 1, 36, .inl f)), (hg, .inl (k 1, 32, .inl g))] (fun u => u.2) (fun u => some (.int (iZ u.1))) (fun u => ((-1 ≤ u.1 ∧ u.1 ≤ 400) ∧ (((0 ≤ w ∧ w ≤ 400) → u.1 = snF f g ni a b w) ∧ (¬ (0 ≤ w ∧ w ≤ 400) → u.1 = -1)) ∧ (∀ d : Int, 0 ≤ d → d < 36 → OB r0.op d → OB u.2.op d)) ∧ RT k (RX f g n ni) u.2) (fun u => [(h, .inr (3, [.ref hs, .long u.2.op, u.2.vA, u.2.vL])), (hs, .inr (5, fs)), (hf, .inl (k 1, 36, .inl f)), (hg, .inl (k 1, 32, .inl g))]) := by
  refine MX (by decide) (Nat.le_of_ble_eq_true rfl) (fun p e s m below meth c ls A hx hb hml hr hlocks hin hts hown hKK hP hD hS hA hl => ?_)
  have hK := hKK.1
  have hl : lv_has ls 10 [(0, .ref h), (1, .int (iZ a)), (2, .int (iZ b)), (3, .int (iZ w))] := hl
  subst hQ0
  refine lv_iload_n hx hb dX3_seen_0 rfl (lv_at hl 3 rfl) ?_
  refine lv_if_lt (tgt := 11) hx hb dX3_seen_1 rfl (fun c_1 => ?_) (fun c_1 => ?_)
  ·
    have c_1 := (zlt (x := iZ w) (y := iZ 0) rfl rfl ⟨by omega, by omega⟩ wn_0).mp c_1
    refine lv_iconst (v := iZ (-1)) hx hb dX3_seen_11 rfl ?_
    exact EXi hx hb hr hlocks (fun h => h) hS ((-1), r0) rfl rfl ⟨⟨⟨by omega, by omega⟩, ⟨fun h => absurd h (by omega), fun _ => rfl⟩, (fun d h1 h2 h3 => h3)⟩, hRT⟩ (va_P.subT (pre := [(h, .inr (3, [.ref hs, .long r0.op, r0.vA, r0.vL])), (hs, .inr (5, fs)), (hf, .inl (k 1, 36, .inl f)), (hg, .inl (k 1, 32, .inl g))]) (pre' := [(h, .inr (3, [.ref hs, .long r0.op, r0.vA, r0.vL])), (hs, .inr (5, fs)), (hf, .inl (k 1, 36, .inl f)), (hg, .inl (k 1, 32, .inl g))]) (tl := r0.tl) hP [0, 1, 2, 3] rfl) (va_D.subT (pre := [(h, .inr (3, [.ref hs, .long r0.op, r0.vA, r0.vL])), (hs, .inr (5, fs)), (hf, .inl (k 1, 36, .inl f)), (hg, .inl (k 1, 32, .inl g))]) (pre' := [(h, .inr (3, [.ref hs, .long r0.op, r0.vA, r0.vL])), (hs, .inr (5, fs)), (hf, .inl (k 1, 36, .inl f)), (hg, .inl (k 1, 32, .inl g))]) (tl := r0.tl) hD [0, 1, 2, 3] rfl rfl) dX3_seen_12
  ·
    have c_1 := mt (zlt (x := iZ w) (y := iZ 0) rfl rfl ⟨by omega, by omega⟩ wn_0).mpr c_1
    refine lv_iload_n hx hb dX3_seen_4 rfl (lv_at hl 3 rfl) ?_
    refine lv_sipush (v := iZ 400) hx hb dX3_seen_5 sip_400 ?_
    refine lv_icmp_le (tgt := 13) hx hb dX3_seen_8 rfl (fun c_2 => ?_) (fun c_2 => ?_)
    ·
      have c_2 := (zle (x := iZ w) (y := iZ 400) rfl rfl ⟨by omega, by omega⟩ wn_400).mp c_2
      refine lv_iload_n hx hb dX3_seen_13 rfl (lv_at hl 1 rfl) ?_
      refine lv_iload_n hx hb dX3_seen_14 rfl (lv_at hl 2 rfl) ?_
      refine lv_icmp_ne (tgt := 20) hx hb dX3_seen_15 rfl (fun c_3 => ?_) (fun c_3 => ?_)
      ·
        have c_3 := mt (zeq (x := iZ a) (y := iZ b) rfl rfl ⟨by omega, by omega⟩ ⟨by omega, by omega⟩).mpr c_3
        refine lv_aload_n hx hb dX3_seen_20 rfl (lv_at hl 0 rfl) ?_
        refine lv_iload_n hx hb dX3_seen_21 rfl (lv_at hl 2 rfl) ?_
        refine lv_iload_n hx hb dX3_seen_22 rfl (lv_at hl 1 rfl) ?_
        refine CXV (r := r0) (b0 := r0.b) (As := [.int (iZ b), .int (iZ a)]) (rest := []) (ws := [(h, .inr (3, [.ref hs, .long r0.op, r0.vA, r0.vL])), (hs, .inr (5, fs)), (hf, .inl (k 1, 36, .inl f)), (hg, .inl (k 1, 32, .inl g))]) (wc := _) (wr := [(hs, .inr (5, fs)), (hf, .inl (k 1, 36, .inl f)), (hg, .inl (k 1, 32, .inl g))]) hx hb hml hown hts hKK hP hD hS hA (fun h => h) (k_openedRow l D k h hs r0 f g n ni hn hRT b a ⟨by omega, by omega⟩ ⟨by omega, by omega⟩) ci_X3_openedRow qm_X3_26 ⟨Nat.le_of_ble_eq_true rfl, Nat.le_of_ble_eq_true rfl⟩ ⟨rfl, rfl⟩ [0] [1, 2, 3] rfl rfl rfl rfl rfl (dj rfl) 0 rfl rfl rfl hl.1 rfl (Nat.le_of_ble_eq_true rfl) dX3_seen_23 (fun u_4 H locs hφ hP hD hS hb1 => ?_)
        obtain ⟨z_6, r_7⟩ := u_4
        obtain ⟨⟨hzz_6, hmr_7, hor_7, mor_7⟩, rtr_7⟩ := hφ
        dsimp only at hzz_6 hor_7 mor_7
        subst hzz_6
        have hmr_7 : r_7.b = false := hmr_7
        have rtr_7 : RT k (RX f g n ni) r_7 := rtr_7
        have hbh_5 : r_7.b = true → r0.b = true := fun h => (fun h => h) (hb1 h)
        refine W.ceq (cells' := cz r0.b r_7.b) (slots' := sz r0.b r_7.b) rfl rfl ?_
        refine W.eq (g2 := F0 m 26 ls [.int (iZ (((b * 6) + a) * 401))]) rfl ?_
        obtain ⟨ha_8, hl_9, fa_10, fl_11, op_12, rfl, rgah_13, rglh_13, rxh_13⟩ := RT.made rtr_7 hmr_7
        refine W.ceq (cells' := cz r0.b false) (slots' := sz r0.b false) rfl rfl ?_
        refine lv_istore (lv' := [(4, .int (iZ (((b * 6) + a) * 401))), (0, .ref h), (1, .int (iZ a)), (2, .int (iZ b)), (3, .int (iZ w))]) hx hb dX3_seen_26 hl (bl rfl) rfl (fun ls hl => ?_)
        refine lv_aload_n hx hb dX3_seen_28 rfl (lv_at hl 1 rfl) ?_
        refine va_get (D := D) (ci := 3) (v := .ref hl_9) (C := RX3) (T := TX3) (N := 4) hx hb hts iX3 hown hK hP 3 rfl rfl 3 (bl rfl) (hts _ qf_X3_23) (fun _ h => h) rfl dX3_seen_29 ?_
        refine lv_iload hx hb dX3_seen_32 (lv_at hl 0 rfl) ?_
        refine lv_iload_n hx hb dX3_seen_34 rfl (lv_at hl 4 rfl) ?_
        refine lv_iadd hx hb dX3_seen_35 ?_
        refine lv_topi (fun x_14 ex_14 => ?_)
        obtain rfl : x_14 = iZ ((((b * 6) + a) * 401) + w) := ex_14.trans (iZ_add (((b * 6) + a) * 401) w)
        refine va_iald hx hb hK hP 5 1 rfl rfl (zin (e := ((((b * 6) + a) * 401) + w)) (n := 14436) ⟨by omega, by omega⟩ (bl rfl)) dX3_seen_36 ?_
        refine lv_topi (fun x_15 ex_15 => ?_)
        obtain rfl : x_15 = iZ (gz fl_11 ((((b * 6) + a) * 401) + w)) := ex_15.trans (gz_eq ⟨by omega, by omega⟩)
        have h_16 := rglh_13 ((((b * 6) + a) * 401) + w) (by omega) (by omega)
        refine lv_bipush (v := iZ (-2)) hx hb dX3_seen_37 bip_m2 ?_
        refine lv_icmp_eq (tgt := 52) hx hb dX3_seen_39 rfl (fun c_17 => ?_) (fun c_17 => ?_)
        ·
          have c_17 := (zeq (x := iZ (gz fl_11 ((((b * 6) + a) * 401) + w))) (y := iZ (-2)) rfl rfl (gz_rg fl_11 ((((b * 6) + a) * 401) + w)) wn_m2).mp c_17
          refine lv_iload_n hx hb dX3_seen_52 rfl (lv_at hl 4 rfl) ?_
          refine lv_if_ne (tgt := 60) hx hb dX3_seen_53 rfl (fun c_18 => ?_) (fun c_18 => ?_)
          ·
            have c_18 := mt (zeq (x := iZ w) (y := iZ 0) rfl rfl ⟨by omega, by omega⟩ wn_0).mpr c_18
            refine lv_aload_n hx hb dX3_seen_60 rfl (lv_at hl 1 rfl) ?_
            refine va_get (D := D) (ci := 3) (v := .ref hl_9) (C := RX3) (T := TX3) (N := 4) hx hb hts iX3 hown hK hP 3 rfl rfl 3 (bl rfl) (hts _ qf_X3_23) (fun _ h => h) rfl dX3_seen_61 ?_
            refine lv_iload hx hb dX3_seen_64 (lv_at hl 0 rfl) ?_
            refine lv_iload_n hx hb dX3_seen_66 rfl (lv_at hl 4 rfl) ?_
            refine lv_iadd hx hb dX3_seen_67 ?_
            refine lv_topi (fun x_19 ex_19 => ?_)
            obtain rfl : x_19 = iZ ((((b * 6) + a) * 401) + w) := ex_19.trans (iZ_add (((b * 6) + a) * 401) w)
            refine lv_iconst (v := iZ 1) hx hb dX3_seen_68 rfl ?_
            refine lv_isub hx hb dX3_seen_69 ?_
            refine lv_topi (fun x_20 ex_20 => ?_)
            obtain rfl : x_20 = iZ (((((b * 6) + a) * 401) + w) - 1) := ex_20.trans (iZ_sub ((((b * 6) + a) * 401) + w) 1)
            refine va_iald hx hb hK hP 5 1 rfl rfl (zin (e := (((((b * 6) + a) * 401) + w) - 1)) (n := 14436) ⟨by omega, by omega⟩ (bl rfl)) dX3_seen_70 ?_
            refine lv_topi (fun x_21 ex_21 => ?_)
            obtain rfl : x_21 = iZ (gz fl_11 (((((b * 6) + a) * 401) + w) - 1)) := ex_21.trans (gz_eq ⟨by omega, by omega⟩)
            have h_22 := rglh_13 (((((b * 6) + a) * 401) + w) - 1) (by omega) (by omega)
            refine lv_istore (lv' := [(5, .int (iZ (gz fl_11 (((((b * 6) + a) * 401) + w) - 1)))), (4, .int (iZ (((b * 6) + a) * 401))), (0, .ref h), (1, .int (iZ a)), (2, .int (iZ b)), (3, .int (iZ w))]) hx hb dX3_seen_71 hl (bl rfl) rfl (fun ls hl => ?_)
            refine lv_iload hx hb dX3_seen_73 (lv_at hl 0 rfl) ?_
            refine lv_bipush (v := iZ (-2)) hx hb dX3_seen_75 bip_m2 ?_
            refine lv_icmp_ne (tgt := 84) hx hb dX3_seen_77 rfl (fun c_23 => ?_) (fun c_23 => ?_)
            ·
              have c_23 := mt (zeq (x := iZ (gz fl_11 (((((b * 6) + a) * 401) + w) - 1))) (y := iZ (-2)) rfl rfl (gz_rg fl_11 (((((b * 6) + a) * 401) + w) - 1)) wn_m2).mpr c_23
              refine lv_iload hx hb dX3_seen_84 (lv_at hl 0 rfl) ?_
              refine lv_istore (lv' := [(6, .int (iZ (gz fl_11 (((((b * 6) + a) * 401) + w) - 1)))), (5, .int (iZ (gz fl_11 (((((b * 6) + a) * 401) + w) - 1)))), (4, .int (iZ (((b * 6) + a) * 401))), (0, .ref h), (1, .int (iZ a)), (2, .int (iZ b)), (3, .int (iZ w))]) hx hb dX3_seen_86 hl (bl rfl) rfl (fun ls hl => ?_)
              refine lv_iload hx hb dX3_seen_88 (lv_at hl 1 rfl) ?_
              refine lv_bipush (v := iZ (-2)) hx hb dX3_seen_90 bip_m2 ?_
              refine lv_icmp_ne (tgt := 99) hx hb dX3_seen_92 rfl (fun c_24 => ?_) (fun c_24 => ?_)
              ·
                have c_24 := mt (zeq (x := iZ (gz fl_11 (((((b * 6) + a) * 401) + w) - 1))) (y := iZ (-2)) rfl rfl (gz_rg fl_11 (((((b * 6) + a) * 401) + w) - 1)) wn_m2).mpr c_24
                refine lv_iload hx hb dX3_seen_99 (lv_at hl 1 rfl) ?_
                refine lv_iconst (v := iZ 1) hx hb dX3_seen_101 rfl ?_
                refine lv_iadd hx hb dX3_seen_102 ?_
                refine lv_topi (fun x_25 ex_25 => ?_)
                obtain rfl : x_25 = iZ ((gz fl_11 (((((b * 6) + a) * 401) + w) - 1)) + 1) := ex_25.trans (iZ_add (gz fl_11 (((((b * 6) + a) * 401) + w) - 1)) 1)
                refine lv_iload_n hx hb dX3_seen_103 rfl (lv_at hl 6 rfl) ?_
                refine lv_bipush (v := iZ 20) hx hb dX3_seen_104 bip_20 ?_
                refine lv_isub hx hb dX3_seen_106 ?_
                refine lv_topi (fun x_26 ex_26 => ?_)
                obtain rfl : x_26 = iZ (w - 20) := ex_26.trans (iZ_sub w 20)
                refine va_mmax (rest := []) hx hb (by rw [hml]; exact hl.1.symm) (own := RX3) hown (hts _ qm_X3_43) (hts _ qt_yJ9_max_7cf53) (hts _ qz_J9) (hts _ qc_J9_max_7cf53) (Nat.le_of_ble_eq_true rfl) (Nat.le_of_ble_eq_true rfl) (cz_le _ _) (sz_le _ _) dX3_seen_107 ?_
                refine lv_topi (fun x_27 ex_27 => ?_)
                obtain rfl : x_27 = iZ (max ((gz fl_11 (((((b * 6) + a) * 401) + w) - 1)) + 1) (w - 20)) := ex_27.trans (zmax ⟨by omega, by omega⟩ ⟨by omega, by omega⟩)
                refine lv_istore (lv' := [(7, .int (iZ (max ((gz fl_11 (((((b * 6) + a) * 401) + w) - 1)) + 1) (w - 20)))), (6, .int (iZ (gz fl_11 (((((b * 6) + a) * 401) + w) - 1)))), (5, .int (iZ (gz fl_11 (((((b * 6) + a) * 401) + w) - 1)))), (4, .int (iZ (((b * 6) + a) * 401))), (0, .ref h), (1, .int (iZ a)), (2, .int (iZ b)), (3, .int (iZ w))]) hx hb dX3_seen_110 hl (bl rfl) rfl (fun ls hl => ?_)
                refine lv_iload_n hx hb dX3_seen_112 rfl (lv_at hl 7 rfl) ?_
                refine lv_iconst (v := iZ 1) hx hb dX3_seen_113 rfl ?_
                refine lv_isub hx hb dX3_seen_114 ?_
                refine lv_topi (fun x_28 ex_28 => ?_)
                obtain rfl : x_28 = iZ (w - 1) := ex_28.trans (iZ_sub w 1)
                refine lv_istore (lv' := [(8, .int (iZ (w - 1))), (7, .int (iZ (max ((gz fl_11 (((((b * 6) + a) * 401) + w) - 1)) + 1) (w - 20)))), (6, .int (iZ (gz fl_11 (((((b * 6) + a) * 401) + w) - 1)))), (5, .int (iZ (gz fl_11 (((((b * 6) + a) * 401) + w) - 1)))), (4, .int (iZ (((b * 6) + a) * 401))), (0, .ref h), (1, .int (iZ a)), (2, .int (iZ b)), (3, .int (iZ w))]) hx hb dX3_seen_115 hl (bl rfl) rfl (fun ls hl => ?_)
                have hcl : (gz fl_11 (((((b * 6) + a) * 401) + w) - 1)) = snF f g ni a b (w - 1) := by have h9 := (rxh_13 b a hb0 ha0 (by omega) hor_7 (w - 1) (by omega) (by omega)).2; rw [show ((((b * 6) + a) * 401) + (w - 1)) = (((((b * 6) + a) * 401) + w) - 1) by omega] at h9; exact h9.resolve_left c_24
                have hbg : (((gz fl_11 (((((b * 6) + a) * 401) + w) - 1)) : Int) = -1 ∧ ((max ((gz fl_11 (((((b * 6) + a) * 401) + w) - 1)) + 1) (w - 20)) : Int) = 0) ∨ (isSn f g ni a b (w - 1) (gz fl_11 (((((b * 6) + a) * 401) + w) - 1)) ∧ (max ((gz fl_11 (((((b * 6) + a) * 401) + w) - 1)) + 1) (w - 20)) ≤ max ((gz fl_11 (((((b * 6) + a) * 401) + w) - 1)) + 1) (w - 20)) := (Or.inr ⟨by rw [hcl]; exact snF_sp (by omega), Int.le_refl _⟩)
                have HL1 : ∀ (fu : Nat) (r2 : Ry) (i : Int) (H : Heap) (locs : List Loc) (ls : Array Slot), (i + 2) < (fu : Int) → RT k (RX f g n ni) r2 → (r2.b = true → r0.b = true) → r2.b = false → -1 ≤ i → i ≤ w - 1 → (∀ u : Int, i < u → u ≤ w - 1 → ¬ arF f g ni b u a ≤ w) → OB r2.op ((b * 6) + a) → (∀ d : Int, 0 ≤ d → d < 36 → OB r0.op d → OB r2.op d) → va_P D vwCl ((hs, .inr (5, fs)) :: (hf, .inl (k 1, 36, .inl f)) :: (hg, .inl (k 1, 32, .inl g)) :: (h, .inr (3, [.ref hs, .long r2.op, r2.vA, r2.vL])) :: r2.tl) H → va_D A ((hs, .inr (5, fs)) :: (hf, .inl (k 1, 36, .inl f)) :: (hg, .inl (k 1, 32, .inl g)) :: (h, .inr (3, [.ref hs, .long r2.op, r2.vA, r2.vL])) :: r2.tl) → va_S A s.heap H locs → lv_has ls 10 [(8, .int (iZ i)), (7, .int (iZ (max ((gz fl_11 (((((b * 6) + a) * 401) + w) - 1)) + 1) (w - 20)))), (6, .int (iZ (gz fl_11 (((((b * 6) + a) * 401) + w) - 1)))), (5, .int (iZ (gz fl_11 (((((b * 6) + a) * 401) + w) - 1)))), (4, .int (iZ (((b * 6) + a) * 401))), (0, .ref h), (1, .int (iZ a)), (2, .int (iZ b)), (3, .int (iZ w))] → W p l e (rj 2 (rcN r0.b) (rsN r0.b)) s m [.ref h, .int (iZ a), .int (iZ b), .int (iZ w)].toArray below meth c H locs (cz r0.b r2.b) (sz r0.b r2.b) (MQ below (QX (σ := (Int × Ry)) r0.b (fun u => u.2) (fun u => some (.int (iZ u.1))) (fun u => ((-1 ≤ u.1 ∧ u.1 ≤ 400) ∧ (((0 ≤ w ∧ w ≤ 400) → u.1 = snF f g ni a b w) ∧ (¬ (0 ≤ w ∧ w ≤ 400) → u.1 = -1)) ∧ (∀ d : Int, 0 ≤ d → d < 36 → OB r0.op d → OB u.2.op d)) ∧ RT k (RX f g n ni) u.2) (fun u => [(h, .inr (3, [.ref hs, .long u.2.op, u.2.vA, u.2.vL])), (hs, .inr (5, fs)), (hf, .inl (k 1, 36, .inl f)), (hg, .inl (k 1, 32, .inl g))]) D A) [.ref h, .int (iZ a), .int (iZ b), .int (iZ w)].toArray s (rcN r0.b) (rsN r0.b) A) (F0 m 117 ls []) := by
                  intro fu
                  induction fu with
                  | zero => intro r2 i H locs ls hμ1 rtr2 hbr2 hmr2 hi1 hi2 hns hob hmr hP hD hS hl; exact absurd hμ1 (by omega)
                  | succ fu ih1 =>
                    intro r2 i H locs ls hμ1 rtr2 hbr2 hmr2 hi1 hi2 hns hob hmr hP hD hS hl
                    refine lv_iload hx hb dX3_seen_117 (lv_at hl 0 rfl) ?_
                    refine lv_iload hx hb dX3_seen_119 (lv_at hl 1 rfl) ?_
                    refine lv_icmp_lt (tgt := 159) hx hb dX3_seen_121 rfl (fun c_29 => ?_) (fun c_29 => ?_)
                    ·
                      have c_29 := (zlt (x := iZ i) (y := iZ (max ((gz fl_11 (((((b * 6) + a) * 401) + w) - 1)) + 1) (w - 20))) rfl rfl ⟨by omega, by omega⟩ ⟨by omega, by omega⟩).mp c_29
                      have hvs : (gz fl_11 (((((b * 6) + a) * 401) + w) - 1)) = snF f g ni a b w := sn_old hx0 ha0 hb0 (show ¬ b = a from (by omega)) ⟨by omega, by omega⟩ hbg (fun u p q => hns u (by omega) q)
                      obtain ⟨ha_30, hl_31, fa_32, fl_33, op_34, rfl, rgah_35, rglh_35, rxh_35⟩ := RT.made rtr2 hmr2
                      refine W.ceq (cells' := cz r0.b false) (slots' := sz r0.b false) rfl rfl ?_
                      refine lv_aload_n hx hb dX3_seen_159 rfl (lv_at hl 5 rfl) ?_
                      refine va_get (D := D) (ci := 3) (v := .ref hl_31) (C := RX3) (T := TX3) (N := 4) hx hb hts iX3 hown hK hP 3 rfl rfl 3 (bl rfl) (hts _ qf_X3_23) (fun _ h => h) rfl dX3_seen_160 ?_
                      refine lv_iload hx hb dX3_seen_163 (lv_at hl 4 rfl) ?_
                      refine lv_iload_n hx hb dX3_seen_165 rfl (lv_at hl 8 rfl) ?_
                      refine lv_iadd hx hb dX3_seen_166 ?_
                      refine lv_topi (fun x_36 ex_36 => ?_)
                      obtain rfl : x_36 = iZ ((((b * 6) + a) * 401) + w) := ex_36.trans (iZ_add (((b * 6) + a) * 401) w)
                      refine lv_iload hx hb dX3_seen_167 (lv_at hl 2 rfl) ?_
                      refine va_iast hx hb hK hP hD hS 5 1 rfl rfl (zin (e := ((((b * 6) + a) * 401) + w)) (n := 14436) ⟨by omega, by omega⟩ (bl rfl)) dX3_seen_169 (fun H locs hP hD hS => ?_)
                      obtain ⟨f_37, hf_37⟩ : ∃ gg9, gg9 = upd fl_33 (iZ ((((b * 6) + a) * 401) + w)).toNatClampNeg (iZ (gz fl_11 (((((b * 6) + a) * 401) + w) - 1))) := ⟨_, rfl⟩
                      rw [← hf_37] at hP hD
                      have rgf_37 := rg_upd rglh_35 hf_37 (by omega) ⟨by omega, by omega⟩ ⟨by omega, by omega⟩
                      refine lv_iload hx hb dX3_seen_170 (lv_at hl 2 rfl) ?_
                      exact EXi hx hb hr hlocks (fun h => absurd (show false = true from h) (by decide)) hS ((gz fl_11 (((((b * 6) + a) * 401) + w) - 1)), (madeR k ha_30 hl_31 fa_32 f_37 op_34)) rfl rfl ⟨⟨⟨by omega, by omega⟩, ⟨fun _ => hvs, fun h => absurd (show 0 ≤ w ∧ w ≤ 400 from ⟨by omega, by omega⟩) h⟩, hmr⟩, (RT.mk rgah_35 rgf_37 (RX.lk rxh_35 hf_37 rfl hb0 ha0 ⟨by omega, by omega⟩ hn hvs ⟨by omega, by omega⟩))⟩ (hP.sub [3, 0, 1, 2, 4, 5] rfl) (hD.sub [3, 0, 1, 2, 4, 5] rfl rfl) dX3_seen_172
                    ·
                      have c_29 := mt (zlt (x := iZ i) (y := iZ (max ((gz fl_11 (((((b * 6) + a) * 401) + w) - 1)) + 1) (w - 20))) rfl rfl ⟨by omega, by omega⟩ ⟨by omega, by omega⟩).mpr c_29
                      refine lv_aload_n hx hb dX3_seen_124 rfl (lv_at hl 5 rfl) ?_
                      refine lv_iload_n hx hb dX3_seen_125 rfl (lv_at hl 7 rfl) ?_
                      refine lv_iload hx hb dX3_seen_126 (lv_at hl 0 rfl) ?_
                      refine lv_iload_n hx hb dX3_seen_128 rfl (lv_at hl 6 rfl) ?_
                      refine CXV (r := r2) (b0 := r0.b) (As := [.int (iZ b), .int (iZ i), .int (iZ a)]) (rest := []) (ws := [(hs, .inr (5, fs)), (hf, .inl (k 1, 36, .inl f)), (hg, .inl (k 1, 32, .inl g)), (h, .inr (3, [.ref hs, .long r2.op, r2.vA, r2.vL]))]) (wc := _) (wr := []) hx hb hml hown hts hKK hP hD hS hA hbr2 (k_arrival l D k h hs r2 rtr2 fs hf hg f1 f2 f g n hn hx0 ni f4 hni rfl b i a ⟨by omega, by omega⟩ ⟨by omega, by omega⟩ ⟨by omega, by omega⟩) ci_X3_arrival qm_X3_48 ⟨Nat.le_of_ble_eq_true rfl, Nat.le_of_ble_eq_true rfl⟩ ⟨rfl, rfl⟩ [3, 0, 1, 2] [] rfl rfl rfl rfl rfl (dj rfl) 0 rfl rfl rfl hl.1 rfl (Nat.le_of_ble_eq_true rfl) dX3_seen_129 (fun u_38 H locs hφ hP hD hS hb1 => ?_)
                      obtain ⟨z_40, r_41⟩ := u_38
                      obtain ⟨hz_40, rtr_41⟩ := hφ
                      dsimp only at hz_40
                      obtain ⟨hz_40, vz_40, mor_41⟩ := hz_40
                      have rtr_41 : RT k (RX f g n ni) r_41 := rtr_41
                      have hbh_39 : r_41.b = true → r0.b = true := fun h => hbr2 (hb1 h)
                      have hmh_39 : r_41.b = false := b_f hb1 hmr2
                      refine W.ceq (cells' := cz r0.b r_41.b) (slots' := sz r0.b r_41.b) rfl rfl ?_
                      refine W.eq (g2 := F0 m 132 ls [.int (iZ z_40)]) rfl ?_
                      refine lv_istore (lv' := [(9, .int (iZ z_40)), (8, .int (iZ i)), (7, .int (iZ (max ((gz fl_11 (((((b * 6) + a) * 401) + w) - 1)) + 1) (w - 20)))), (6, .int (iZ (gz fl_11 (((((b * 6) + a) * 401) + w) - 1)))), (5, .int (iZ (gz fl_11 (((((b * 6) + a) * 401) + w) - 1)))), (4, .int (iZ (((b * 6) + a) * 401))), (0, .ref h), (1, .int (iZ a)), (2, .int (iZ b)), (3, .int (iZ w))]) hx hb dX3_seen_132 hl (bl rfl) rfl (fun ls hl => ?_)
                      refine lv_iload hx hb dX3_seen_134 (lv_at hl 0 rfl) ?_
                      refine lv_iconst (v := iZ (-1)) hx hb dX3_seen_136 rfl ?_
                      refine lv_icmp_eq (tgt := 153) hx hb dX3_seen_137 rfl (fun c_42 => ?_) (fun c_42 => ?_)
                      ·
                        have c_42 := (zeq (x := iZ z_40) (y := iZ (-1)) rfl rfl ⟨by omega, by omega⟩ wn_m1).mp c_42
                        refine lv_iinc (v := iZ (i + (-1))) (lv' := [(8, .int (iZ (i + (-1)))), (9, .int (iZ z_40)), (7, .int (iZ (max ((gz fl_11 (((((b * 6) + a) * 401) + w) - 1)) + 1) (w - 20)))), (6, .int (iZ (gz fl_11 (((((b * 6) + a) * 401) + w) - 1)))), (5, .int (iZ (gz fl_11 (((((b * 6) + a) * 401) + w) - 1)))), (4, .int (iZ (((b * 6) + a) * 401))), (0, .ref h), (1, .int (iZ a)), (2, .int (iZ b)), (3, .int (iZ w))]) hx hb dX3_seen_153 hl (k := 1) rfl (iZ_add i (-1)) (by decide) rfl (fun ls hl => ?_)
                        refine lv_goto (tgt := 117) hx hb dX3_seen_156 rfl ?_
                        exact ih1  r_41 _ _ _ _ (by omega) rtr_41 hbh_39 hmh_39 (by omega) (by omega) (fun u p q => by rcases Int.lt_or_eq_of_le (show i ≤ u by omega) with h3 | h3; exact hns u h3 q; rw [← h3]; have h8 := arN_c (f := f) (g := g) (ni := ni) (a := b) (w := i) (b := a) ⟨by omega, by omega⟩; have h7 := arF_c (f := f) (g := g) (ni := ni) (a := b) (b := a) (w := i) hx0 hb0 ha0 (show ¬ b = a from (by omega)) (by omega); omega) (mor_41 _ (by omega) (by omega) hob) (fun d h1 h2 h3 => mor_41 d h1 h2 (hmr d h1 h2 h3)) (va_P.subT (pre := [(h, .inr (3, [.ref hs, .long r_41.op, r_41.vA, r_41.vL])), (hs, .inr (5, fs)), (hf, .inl (k 1, 36, .inl f)), (hg, .inl (k 1, 32, .inl g))]) (pre' := [(hs, .inr (5, fs)), (hf, .inl (k 1, 36, .inl f)), (hg, .inl (k 1, 32, .inl g)), (h, .inr (3, [.ref hs, .long r_41.op, r_41.vA, r_41.vL]))]) (tl := r_41.tl) hP [1, 2, 3, 0] rfl) (va_D.subT (pre := [(h, .inr (3, [.ref hs, .long r_41.op, r_41.vA, r_41.vL])), (hs, .inr (5, fs)), (hf, .inl (k 1, 36, .inl f)), (hg, .inl (k 1, 32, .inl g))]) (pre' := [(hs, .inr (5, fs)), (hf, .inl (k 1, 36, .inl f)), (hg, .inl (k 1, 32, .inl g)), (h, .inr (3, [.ref hs, .long r_41.op, r_41.vA, r_41.vL]))]) (tl := r_41.tl) hD [1, 2, 3, 0] rfl rfl) hS (lv_sub hl [0, 2, 3, 4, 5, 6, 7, 8, 9] rfl)
                      ·
                        have c_42 := mt (zeq (x := iZ z_40) (y := iZ (-1)) rfl rfl ⟨by omega, by omega⟩ wn_m1).mpr c_42
                        refine lv_iload hx hb dX3_seen_140 (lv_at hl 0 rfl) ?_
                        refine lv_iload_n hx hb dX3_seen_142 rfl (lv_at hl 9 rfl) ?_
                        refine lv_icmp_gt (tgt := 153) hx hb dX3_seen_143 rfl (fun c_43 => ?_) (fun c_43 => ?_)
                        ·
                          have c_43 := (zlt (x := iZ w) (y := iZ z_40) rfl rfl ⟨by omega, by omega⟩ ⟨by omega, by omega⟩).mp c_43
                          refine lv_iinc (v := iZ (i + (-1))) (lv' := [(8, .int (iZ (i + (-1)))), (9, .int (iZ z_40)), (7, .int (iZ (max ((gz fl_11 (((((b * 6) + a) * 401) + w) - 1)) + 1) (w - 20)))), (6, .int (iZ (gz fl_11 (((((b * 6) + a) * 401) + w) - 1)))), (5, .int (iZ (gz fl_11 (((((b * 6) + a) * 401) + w) - 1)))), (4, .int (iZ (((b * 6) + a) * 401))), (0, .ref h), (1, .int (iZ a)), (2, .int (iZ b)), (3, .int (iZ w))]) hx hb dX3_seen_153 hl (k := 1) rfl (iZ_add i (-1)) (by decide) rfl (fun ls hl => ?_)
                          refine lv_goto (tgt := 117) hx hb dX3_seen_156 rfl ?_
                          exact ih1  r_41 _ _ _ _ (by omega) rtr_41 hbh_39 hmh_39 (by omega) (by omega) (fun u p q => by rcases Int.lt_or_eq_of_le (show i ≤ u by omega) with h3 | h3; exact hns u h3 q; rw [← h3]; have h8 := arN_c (f := f) (g := g) (ni := ni) (a := b) (w := i) (b := a) ⟨by omega, by omega⟩; have h7 := arF_c (f := f) (g := g) (ni := ni) (a := b) (b := a) (w := i) hx0 hb0 ha0 (show ¬ b = a from (by omega)) (by omega); omega) (mor_41 _ (by omega) (by omega) hob) (fun d h1 h2 h3 => mor_41 d h1 h2 (hmr d h1 h2 h3)) (va_P.subT (pre := [(h, .inr (3, [.ref hs, .long r_41.op, r_41.vA, r_41.vL])), (hs, .inr (5, fs)), (hf, .inl (k 1, 36, .inl f)), (hg, .inl (k 1, 32, .inl g))]) (pre' := [(hs, .inr (5, fs)), (hf, .inl (k 1, 36, .inl f)), (hg, .inl (k 1, 32, .inl g)), (h, .inr (3, [.ref hs, .long r_41.op, r_41.vA, r_41.vL]))]) (tl := r_41.tl) hP [1, 2, 3, 0] rfl) (va_D.subT (pre := [(h, .inr (3, [.ref hs, .long r_41.op, r_41.vA, r_41.vL])), (hs, .inr (5, fs)), (hf, .inl (k 1, 36, .inl f)), (hg, .inl (k 1, 32, .inl g))]) (pre' := [(hs, .inr (5, fs)), (hf, .inl (k 1, 36, .inl f)), (hg, .inl (k 1, 32, .inl g)), (h, .inr (3, [.ref hs, .long r_41.op, r_41.vA, r_41.vL]))]) (tl := r_41.tl) hD [1, 2, 3, 0] rfl rfl) hS (lv_sub hl [0, 2, 3, 4, 5, 6, 7, 8, 9] rfl)
                        ·
                          have c_43 := mt (zlt (x := iZ w) (y := iZ z_40) rfl rfl ⟨by omega, by omega⟩ ⟨by omega, by omega⟩).mpr c_43
                          refine lv_iload hx hb dX3_seen_146 (lv_at hl 1 rfl) ?_
                          refine lv_istore (lv' := [(6, .int (iZ i)), (9, .int (iZ z_40)), (8, .int (iZ i)), (7, .int (iZ (max ((gz fl_11 (((((b * 6) + a) * 401) + w) - 1)) + 1) (w - 20)))), (5, .int (iZ (gz fl_11 (((((b * 6) + a) * 401) + w) - 1)))), (4, .int (iZ (((b * 6) + a) * 401))), (0, .ref h), (1, .int (iZ a)), (2, .int (iZ b)), (3, .int (iZ w))]) hx hb dX3_seen_148 hl (bl rfl) rfl (fun ls hl => ?_)
                          refine lv_goto (tgt := 159) hx hb dX3_seen_150 rfl ?_
                          have hvs : i = snF f g ni a b w := sn_new hx0 ha0 hb0 (show ¬ b = a from (by omega)) ⟨by omega, by omega⟩ ⟨by omega, by omega⟩ (by have h8 := arN_c (f := f) (g := g) (ni := ni) (a := b) (w := i) (b := a) ⟨by omega, by omega⟩; omega) hns
                          obtain ⟨ha_44, hl_45, fa_46, fl_47, op_48, rfl, rgah_49, rglh_49, rxh_49⟩ := RT.made rtr_41 hmh_39
                          refine W.ceq (cells' := cz r0.b false) (slots' := sz r0.b false) rfl rfl ?_
                          refine lv_aload_n hx hb dX3_seen_159 rfl (lv_at hl 6 rfl) ?_
                          refine va_get (D := D) (ci := 3) (v := .ref hl_45) (C := RX3) (T := TX3) (N := 4) hx hb hts iX3 hown hK hP 0 rfl rfl 3 (bl rfl) (hts _ qf_X3_23) (fun _ h => h) rfl dX3_seen_160 ?_
                          refine lv_iload hx hb dX3_seen_163 (lv_at hl 5 rfl) ?_
                          refine lv_iload_n hx hb dX3_seen_165 rfl (lv_at hl 9 rfl) ?_
                          refine lv_iadd hx hb dX3_seen_166 ?_
                          refine lv_topi (fun x_50 ex_50 => ?_)
                          obtain rfl : x_50 = iZ ((((b * 6) + a) * 401) + w) := ex_50.trans (iZ_add (((b * 6) + a) * 401) w)
                          refine lv_iload hx hb dX3_seen_167 (lv_at hl 0 rfl) ?_
                          refine va_iast hx hb hK hP hD hS 5 1 rfl rfl (zin (e := ((((b * 6) + a) * 401) + w)) (n := 14436) ⟨by omega, by omega⟩ (bl rfl)) dX3_seen_169 (fun H locs hP hD hS => ?_)
                          obtain ⟨f_51, hf_51⟩ : ∃ gg9, gg9 = upd fl_47 (iZ ((((b * 6) + a) * 401) + w)).toNatClampNeg (iZ i) := ⟨_, rfl⟩
                          rw [← hf_51] at hP hD
                          have rgf_51 := rg_upd rglh_49 hf_51 (by omega) ⟨by omega, by omega⟩ ⟨by omega, by omega⟩
                          refine lv_iload hx hb dX3_seen_170 (lv_at hl 0 rfl) ?_
                          exact EXi hx hb hr hlocks (fun h => absurd (show false = true from h) (by decide)) hS (i, (madeR k ha_44 hl_45 fa_46 f_51 op_48)) rfl rfl ⟨⟨⟨by omega, by omega⟩, ⟨fun _ => hvs, fun h => absurd (show 0 ≤ w ∧ w ≤ 400 from ⟨by omega, by omega⟩) h⟩, (fun d h1 h2 h3 => mor_41 d h1 h2 (hmr d h1 h2 h3))⟩, (RT.mk rgah_49 rgf_51 (RX.lk rxh_49 hf_51 rfl hb0 ha0 ⟨by omega, by omega⟩ hn hvs ⟨by omega, by omega⟩))⟩ (hP.sub [0, 1, 2, 3, 4, 5] rfl) (hD.sub [0, 1, 2, 3, 4, 5] rfl rfl) dX3_seen_172
                exact HL1 403 (madeR k ha_8 hl_9 fa_10 fl_11 op_12) _ _ _ _ (by omega) (RT.mk rgah_13 rglh_13 rxh_13) (fun h => absurd (show false = true from h) (by decide)) rfl (by omega) (by omega) (fun u p q => absurd p (by omega)) hor_7 mor_7 (hP.sub [0, 1, 2, 3, 4, 5] rfl) (hD.sub [0, 1, 2, 3, 4, 5] rfl rfl) hS (lv_sub hl [0, 1, 2, 3, 4, 5, 6, 7, 8] rfl)
              ·
                have c_24 := (zeq (x := iZ (gz fl_11 (((((b * 6) + a) * 401) + w) - 1))) (y := iZ (-2)) rfl rfl (gz_rg fl_11 (((((b * 6) + a) * 401) + w) - 1)) wn_m2).mp c_24
                exact absurd c_24 (by omega)
            ·
              have c_23 := (zeq (x := iZ (gz fl_11 (((((b * 6) + a) * 401) + w) - 1))) (y := iZ (-2)) rfl rfl (gz_rg fl_11 (((((b * 6) + a) * 401) + w) - 1)) wn_m2).mp c_23
              refine lv_iconst (v := iZ (-1)) hx hb dX3_seen_80 rfl ?_
              refine lv_goto (tgt := 86) hx hb dX3_seen_81 rfl ?_
              refine lv_istore (lv' := [(6, .int (iZ (-1))), (5, .int (iZ (gz fl_11 (((((b * 6) + a) * 401) + w) - 1)))), (4, .int (iZ (((b * 6) + a) * 401))), (0, .ref h), (1, .int (iZ a)), (2, .int (iZ b)), (3, .int (iZ w))]) hx hb dX3_seen_86 hl (bl rfl) rfl (fun ls hl => ?_)
              refine lv_iload hx hb dX3_seen_88 (lv_at hl 1 rfl) ?_
              refine lv_bipush (v := iZ (-2)) hx hb dX3_seen_90 bip_m2 ?_
              refine lv_icmp_ne (tgt := 99) hx hb dX3_seen_92 rfl (fun c_52 => ?_) (fun c_52 => ?_)
              ·
                have c_52 := mt (zeq (x := iZ (gz fl_11 (((((b * 6) + a) * 401) + w) - 1))) (y := iZ (-2)) rfl rfl (gz_rg fl_11 (((((b * 6) + a) * 401) + w) - 1)) wn_m2).mpr c_52
                exact absurd c_52 (by omega)
              ·
                have c_52 := (zeq (x := iZ (gz fl_11 (((((b * 6) + a) * 401) + w) - 1))) (y := iZ (-2)) rfl rfl (gz_rg fl_11 (((((b * 6) + a) * 401) + w) - 1)) wn_m2).mp c_52
                refine lv_iconst (v := iZ 0) hx hb dX3_seen_95 rfl ?_
                refine lv_goto (tgt := 110) hx hb dX3_seen_96 rfl ?_
                refine lv_istore (lv' := [(7, .int (iZ 0)), (6, .int (iZ (-1))), (5, .int (iZ (gz fl_11 (((((b * 6) + a) * 401) + w) - 1)))), (4, .int (iZ (((b * 6) + a) * 401))), (0, .ref h), (1, .int (iZ a)), (2, .int (iZ b)), (3, .int (iZ w))]) hx hb dX3_seen_110 hl (bl rfl) rfl (fun ls hl => ?_)
                refine lv_iload_n hx hb dX3_seen_112 rfl (lv_at hl 7 rfl) ?_
                refine lv_iconst (v := iZ 1) hx hb dX3_seen_113 rfl ?_
                refine lv_isub hx hb dX3_seen_114 ?_
                refine lv_topi (fun x_53 ex_53 => ?_)
                obtain rfl : x_53 = iZ (w - 1) := ex_53.trans (iZ_sub w 1)
                refine lv_istore (lv' := [(8, .int (iZ (w - 1))), (7, .int (iZ 0)), (6, .int (iZ (-1))), (5, .int (iZ (gz fl_11 (((((b * 6) + a) * 401) + w) - 1)))), (4, .int (iZ (((b * 6) + a) * 401))), (0, .ref h), (1, .int (iZ a)), (2, .int (iZ b)), (3, .int (iZ w))]) hx hb dX3_seen_115 hl (bl rfl) rfl (fun ls hl => ?_)
                have hbg : (((-1) : Int) = -1 ∧ (0 : Int) = 0) ∨ (isSn f g ni a b (w - 1) (-1) ∧ 0 ≤ max ((-1) + 1) (w - 20)) := (Or.inl ⟨rfl, rfl⟩)
                have HL1 : ∀ (fu : Nat) (r2 : Ry) (i : Int) (H : Heap) (locs : List Loc) (ls : Array Slot), (i + 2) < (fu : Int) → RT k (RX f g n ni) r2 → (r2.b = true → r0.b = true) → r2.b = false → -1 ≤ i → i ≤ w - 1 → (∀ u : Int, i < u → u ≤ w - 1 → ¬ arF f g ni b u a ≤ w) → OB r2.op ((b * 6) + a) → (∀ d : Int, 0 ≤ d → d < 36 → OB r0.op d → OB r2.op d) → va_P D vwCl ((hs, .inr (5, fs)) :: (hf, .inl (k 1, 36, .inl f)) :: (hg, .inl (k 1, 32, .inl g)) :: (h, .inr (3, [.ref hs, .long r2.op, r2.vA, r2.vL])) :: r2.tl) H → va_D A ((hs, .inr (5, fs)) :: (hf, .inl (k 1, 36, .inl f)) :: (hg, .inl (k 1, 32, .inl g)) :: (h, .inr (3, [.ref hs, .long r2.op, r2.vA, r2.vL])) :: r2.tl) → va_S A s.heap H locs → lv_has ls 10 [(8, .int (iZ i)), (7, .int (iZ 0)), (6, .int (iZ (-1))), (5, .int (iZ (gz fl_11 (((((b * 6) + a) * 401) + w) - 1)))), (4, .int (iZ (((b * 6) + a) * 401))), (0, .ref h), (1, .int (iZ a)), (2, .int (iZ b)), (3, .int (iZ w))] → W p l e (rj 2 (rcN r0.b) (rsN r0.b)) s m [.ref h, .int (iZ a), .int (iZ b), .int (iZ w)].toArray below meth c H locs (cz r0.b r2.b) (sz r0.b r2.b) (MQ below (QX (σ := (Int × Ry)) r0.b (fun u => u.2) (fun u => some (.int (iZ u.1))) (fun u => ((-1 ≤ u.1 ∧ u.1 ≤ 400) ∧ (((0 ≤ w ∧ w ≤ 400) → u.1 = snF f g ni a b w) ∧ (¬ (0 ≤ w ∧ w ≤ 400) → u.1 = -1)) ∧ (∀ d : Int, 0 ≤ d → d < 36 → OB r0.op d → OB u.2.op d)) ∧ RT k (RX f g n ni) u.2) (fun u => [(h, .inr (3, [.ref hs, .long u.2.op, u.2.vA, u.2.vL])), (hs, .inr (5, fs)), (hf, .inl (k 1, 36, .inl f)), (hg, .inl (k 1, 32, .inl g))]) D A) [.ref h, .int (iZ a), .int (iZ b), .int (iZ w)].toArray s (rcN r0.b) (rsN r0.b) A) (F0 m 117 ls []) := by
                  intro fu
                  induction fu with
                  | zero => intro r2 i H locs ls hμ1 rtr2 hbr2 hmr2 hi1 hi2 hns hob hmr hP hD hS hl; exact absurd hμ1 (by omega)
                  | succ fu ih1 =>
                    intro r2 i H locs ls hμ1 rtr2 hbr2 hmr2 hi1 hi2 hns hob hmr hP hD hS hl
                    refine lv_iload hx hb dX3_seen_117 (lv_at hl 0 rfl) ?_
                    refine lv_iload hx hb dX3_seen_119 (lv_at hl 1 rfl) ?_
                    refine lv_icmp_lt (tgt := 159) hx hb dX3_seen_121 rfl (fun c_54 => ?_) (fun c_54 => ?_)
                    ·
                      have c_54 := (zlt (x := iZ i) (y := iZ 0) rfl rfl ⟨by omega, by omega⟩ wn_0).mp c_54
                      have hvs : (-1) = snF f g ni a b w := sn_old hx0 ha0 hb0 (show ¬ b = a from (by omega)) ⟨by omega, by omega⟩ hbg (fun u p q => hns u (by omega) q)
                      obtain ⟨ha_55, hl_56, fa_57, fl_58, op_59, rfl, rgah_60, rglh_60, rxh_60⟩ := RT.made rtr2 hmr2
                      refine W.ceq (cells' := cz r0.b false) (slots' := sz r0.b false) rfl rfl ?_
                      refine lv_aload_n hx hb dX3_seen_159 rfl (lv_at hl 5 rfl) ?_
                      refine va_get (D := D) (ci := 3) (v := .ref hl_56) (C := RX3) (T := TX3) (N := 4) hx hb hts iX3 hown hK hP 3 rfl rfl 3 (bl rfl) (hts _ qf_X3_23) (fun _ h => h) rfl dX3_seen_160 ?_
                      refine lv_iload hx hb dX3_seen_163 (lv_at hl 4 rfl) ?_
                      refine lv_iload_n hx hb dX3_seen_165 rfl (lv_at hl 8 rfl) ?_
                      refine lv_iadd hx hb dX3_seen_166 ?_
                      refine lv_topi (fun x_61 ex_61 => ?_)
                      obtain rfl : x_61 = iZ ((((b * 6) + a) * 401) + w) := ex_61.trans (iZ_add (((b * 6) + a) * 401) w)
                      refine lv_iload hx hb dX3_seen_167 (lv_at hl 2 rfl) ?_
                      refine va_iast hx hb hK hP hD hS 5 1 rfl rfl (zin (e := ((((b * 6) + a) * 401) + w)) (n := 14436) ⟨by omega, by omega⟩ (bl rfl)) dX3_seen_169 (fun H locs hP hD hS => ?_)
                      obtain ⟨f_62, hf_62⟩ : ∃ gg9, gg9 = upd fl_58 (iZ ((((b * 6) + a) * 401) + w)).toNatClampNeg (iZ (-1)) := ⟨_, rfl⟩
                      rw [← hf_62] at hP hD
                      have rgf_62 := rg_upd rglh_60 hf_62 (by omega) ⟨by omega, by omega⟩ ⟨by omega, by omega⟩
                      refine lv_iload hx hb dX3_seen_170 (lv_at hl 2 rfl) ?_
                      exact EXi hx hb hr hlocks (fun h => absurd (show false = true from h) (by decide)) hS ((-1), (madeR k ha_55 hl_56 fa_57 f_62 op_59)) rfl rfl ⟨⟨⟨by omega, by omega⟩, ⟨fun _ => hvs, fun h => absurd (show 0 ≤ w ∧ w ≤ 400 from ⟨by omega, by omega⟩) h⟩, hmr⟩, (RT.mk rgah_60 rgf_62 (RX.lk rxh_60 hf_62 rfl hb0 ha0 ⟨by omega, by omega⟩ hn hvs ⟨by omega, by omega⟩))⟩ (hP.sub [3, 0, 1, 2, 4, 5] rfl) (hD.sub [3, 0, 1, 2, 4, 5] rfl rfl) dX3_seen_172
                    ·
                      have c_54 := mt (zlt (x := iZ i) (y := iZ 0) rfl rfl ⟨by omega, by omega⟩ wn_0).mpr c_54
                      refine lv_aload_n hx hb dX3_seen_124 rfl (lv_at hl 5 rfl) ?_
                      refine lv_iload_n hx hb dX3_seen_125 rfl (lv_at hl 7 rfl) ?_
                      refine lv_iload hx hb dX3_seen_126 (lv_at hl 0 rfl) ?_
                      refine lv_iload_n hx hb dX3_seen_128 rfl (lv_at hl 6 rfl) ?_
                      refine CXV (r := r2) (b0 := r0.b) (As := [.int (iZ b), .int (iZ i), .int (iZ a)]) (rest := []) (ws := [(hs, .inr (5, fs)), (hf, .inl (k 1, 36, .inl f)), (hg, .inl (k 1, 32, .inl g)), (h, .inr (3, [.ref hs, .long r2.op, r2.vA, r2.vL]))]) (wc := _) (wr := []) hx hb hml hown hts hKK hP hD hS hA hbr2 (k_arrival l D k h hs r2 rtr2 fs hf hg f1 f2 f g n hn hx0 ni f4 hni rfl b i a ⟨by omega, by omega⟩ ⟨by omega, by omega⟩ ⟨by omega, by omega⟩) ci_X3_arrival qm_X3_48 ⟨Nat.le_of_ble_eq_true rfl, Nat.le_of_ble_eq_true rfl⟩ ⟨rfl, rfl⟩ [3, 0, 1, 2] [] rfl rfl rfl rfl rfl (dj rfl) 0 rfl rfl rfl hl.1 rfl (Nat.le_of_ble_eq_true rfl) dX3_seen_129 (fun u_63 H locs hφ hP hD hS hb1 => ?_)
                      obtain ⟨z_65, r_66⟩ := u_63
                      obtain ⟨hz_65, rtr_66⟩ := hφ
                      dsimp only at hz_65
                      obtain ⟨hz_65, vz_65, mor_66⟩ := hz_65
                      have rtr_66 : RT k (RX f g n ni) r_66 := rtr_66
                      have hbh_64 : r_66.b = true → r0.b = true := fun h => hbr2 (hb1 h)
                      have hmh_64 : r_66.b = false := b_f hb1 hmr2
                      refine W.ceq (cells' := cz r0.b r_66.b) (slots' := sz r0.b r_66.b) rfl rfl ?_
                      refine W.eq (g2 := F0 m 132 ls [.int (iZ z_65)]) rfl ?_
                      refine lv_istore (lv' := [(9, .int (iZ z_65)), (8, .int (iZ i)), (7, .int (iZ 0)), (6, .int (iZ (-1))), (5, .int (iZ (gz fl_11 (((((b * 6) + a) * 401) + w) - 1)))), (4, .int (iZ (((b * 6) + a) * 401))), (0, .ref h), (1, .int (iZ a)), (2, .int (iZ b)), (3, .int (iZ w))]) hx hb dX3_seen_132 hl (bl rfl) rfl (fun ls hl => ?_)
                      refine lv_iload hx hb dX3_seen_134 (lv_at hl 0 rfl) ?_
                      refine lv_iconst (v := iZ (-1)) hx hb dX3_seen_136 rfl ?_
                      refine lv_icmp_eq (tgt := 153) hx hb dX3_seen_137 rfl (fun c_67 => ?_) (fun c_67 => ?_)
                      ·
                        have c_67 := (zeq (x := iZ z_65) (y := iZ (-1)) rfl rfl ⟨by omega, by omega⟩ wn_m1).mp c_67
                        refine lv_iinc (v := iZ (i + (-1))) (lv' := [(8, .int (iZ (i + (-1)))), (9, .int (iZ z_65)), (7, .int (iZ 0)), (6, .int (iZ (-1))), (5, .int (iZ (gz fl_11 (((((b * 6) + a) * 401) + w) - 1)))), (4, .int (iZ (((b * 6) + a) * 401))), (0, .ref h), (1, .int (iZ a)), (2, .int (iZ b)), (3, .int (iZ w))]) hx hb dX3_seen_153 hl (k := 1) rfl (iZ_add i (-1)) (by decide) rfl (fun ls hl => ?_)
                        refine lv_goto (tgt := 117) hx hb dX3_seen_156 rfl ?_
                        exact ih1  r_66 _ _ _ _ (by omega) rtr_66 hbh_64 hmh_64 (by omega) (by omega) (fun u p q => by rcases Int.lt_or_eq_of_le (show i ≤ u by omega) with h3 | h3; exact hns u h3 q; rw [← h3]; have h8 := arN_c (f := f) (g := g) (ni := ni) (a := b) (w := i) (b := a) ⟨by omega, by omega⟩; have h7 := arF_c (f := f) (g := g) (ni := ni) (a := b) (b := a) (w := i) hx0 hb0 ha0 (show ¬ b = a from (by omega)) (by omega); omega) (mor_66 _ (by omega) (by omega) hob) (fun d h1 h2 h3 => mor_66 d h1 h2 (hmr d h1 h2 h3)) (va_P.subT (pre := [(h, .inr (3, [.ref hs, .long r_66.op, r_66.vA, r_66.vL])), (hs, .inr (5, fs)), (hf, .inl (k 1, 36, .inl f)), (hg, .inl (k 1, 32, .inl g))]) (pre' := [(hs, .inr (5, fs)), (hf, .inl (k 1, 36, .inl f)), (hg, .inl (k 1, 32, .inl g)), (h, .inr (3, [.ref hs, .long r_66.op, r_66.vA, r_66.vL]))]) (tl := r_66.tl) hP [1, 2, 3, 0] rfl) (va_D.subT (pre := [(h, .inr (3, [.ref hs, .long r_66.op, r_66.vA, r_66.vL])), (hs, .inr (5, fs)), (hf, .inl (k 1, 36, .inl f)), (hg, .inl (k 1, 32, .inl g))]) (pre' := [(hs, .inr (5, fs)), (hf, .inl (k 1, 36, .inl f)), (hg, .inl (k 1, 32, .inl g)), (h, .inr (3, [.ref hs, .long r_66.op, r_66.vA, r_66.vL]))]) (tl := r_66.tl) hD [1, 2, 3, 0] rfl rfl) hS (lv_sub hl [0, 2, 3, 4, 5, 6, 7, 8, 9] rfl)
                      ·
                        have c_67 := mt (zeq (x := iZ z_65) (y := iZ (-1)) rfl rfl ⟨by omega, by omega⟩ wn_m1).mpr c_67
                        refine lv_iload hx hb dX3_seen_140 (lv_at hl 0 rfl) ?_
                        refine lv_iload_n hx hb dX3_seen_142 rfl (lv_at hl 9 rfl) ?_
                        refine lv_icmp_gt (tgt := 153) hx hb dX3_seen_143 rfl (fun c_68 => ?_) (fun c_68 => ?_)
                        ·
                          have c_68 := (zlt (x := iZ w) (y := iZ z_65) rfl rfl ⟨by omega, by omega⟩ ⟨by omega, by omega⟩).mp c_68
                          refine lv_iinc (v := iZ (i + (-1))) (lv' := [(8, .int (iZ (i + (-1)))), (9, .int (iZ z_65)), (7, .int (iZ 0)), (6, .int (iZ (-1))), (5, .int (iZ (gz fl_11 (((((b * 6) + a) * 401) + w) - 1)))), (4, .int (iZ (((b * 6) + a) * 401))), (0, .ref h), (1, .int (iZ a)), (2, .int (iZ b)), (3, .int (iZ w))]) hx hb dX3_seen_153 hl (k := 1) rfl (iZ_add i (-1)) (by decide) rfl (fun ls hl => ?_)
                          refine lv_goto (tgt := 117) hx hb dX3_seen_156 rfl ?_
                          exact ih1  r_66 _ _ _ _ (by omega) rtr_66 hbh_64 hmh_64 (by omega) (by omega) (fun u p q => by rcases Int.lt_or_eq_of_le (show i ≤ u by omega) with h3 | h3; exact hns u h3 q; rw [← h3]; have h8 := arN_c (f := f) (g := g) (ni := ni) (a := b) (w := i) (b := a) ⟨by omega, by omega⟩; have h7 := arF_c (f := f) (g := g) (ni := ni) (a := b) (b := a) (w := i) hx0 hb0 ha0 (show ¬ b = a from (by omega)) (by omega); omega) (mor_66 _ (by omega) (by omega) hob) (fun d h1 h2 h3 => mor_66 d h1 h2 (hmr d h1 h2 h3)) (va_P.subT (pre := [(h, .inr (3, [.ref hs, .long r_66.op, r_66.vA, r_66.vL])), (hs, .inr (5, fs)), (hf, .inl (k 1, 36, .inl f)), (hg, .inl (k 1, 32, .inl g))]) (pre' := [(hs, .inr (5, fs)), (hf, .inl (k 1, 36, .inl f)), (hg, .inl (k 1, 32, .inl g)), (h, .inr (3, [.ref hs, .long r_66.op, r_66.vA, r_66.vL]))]) (tl := r_66.tl) hP [1, 2, 3, 0] rfl) (va_D.subT (pre := [(h, .inr (3, [.ref hs, .long r_66.op, r_66.vA, r_66.vL])), (hs, .inr (5, fs)), (hf, .inl (k 1, 36, .inl f)), (hg, .inl (k 1, 32, .inl g))]) (pre' := [(hs, .inr (5, fs)), (hf, .inl (k 1, 36, .inl f)), (hg, .inl (k 1, 32, .inl g)), (h, .inr (3, [.ref hs, .long r_66.op, r_66.vA, r_66.vL]))]) (tl := r_66.tl) hD [1, 2, 3, 0] rfl rfl) hS (lv_sub hl [0, 2, 3, 4, 5, 6, 7, 8, 9] rfl)
                        ·
                          have c_68 := mt (zlt (x := iZ w) (y := iZ z_65) rfl rfl ⟨by omega, by omega⟩ ⟨by omega, by omega⟩).mpr c_68
                          refine lv_iload hx hb dX3_seen_146 (lv_at hl 1 rfl) ?_
                          refine lv_istore (lv' := [(6, .int (iZ i)), (9, .int (iZ z_65)), (8, .int (iZ i)), (7, .int (iZ 0)), (5, .int (iZ (gz fl_11 (((((b * 6) + a) * 401) + w) - 1)))), (4, .int (iZ (((b * 6) + a) * 401))), (0, .ref h), (1, .int (iZ a)), (2, .int (iZ b)), (3, .int (iZ w))]) hx hb dX3_seen_148 hl (bl rfl) rfl (fun ls hl => ?_)
                          refine lv_goto (tgt := 159) hx hb dX3_seen_150 rfl ?_
                          have hvs : i = snF f g ni a b w := sn_new hx0 ha0 hb0 (show ¬ b = a from (by omega)) ⟨by omega, by omega⟩ ⟨by omega, by omega⟩ (by have h8 := arN_c (f := f) (g := g) (ni := ni) (a := b) (w := i) (b := a) ⟨by omega, by omega⟩; omega) hns
                          obtain ⟨ha_69, hl_70, fa_71, fl_72, op_73, rfl, rgah_74, rglh_74, rxh_74⟩ := RT.made rtr_66 hmh_64
                          refine W.ceq (cells' := cz r0.b false) (slots' := sz r0.b false) rfl rfl ?_
                          refine lv_aload_n hx hb dX3_seen_159 rfl (lv_at hl 6 rfl) ?_
                          refine va_get (D := D) (ci := 3) (v := .ref hl_70) (C := RX3) (T := TX3) (N := 4) hx hb hts iX3 hown hK hP 0 rfl rfl 3 (bl rfl) (hts _ qf_X3_23) (fun _ h => h) rfl dX3_seen_160 ?_
                          refine lv_iload hx hb dX3_seen_163 (lv_at hl 5 rfl) ?_
                          refine lv_iload_n hx hb dX3_seen_165 rfl (lv_at hl 9 rfl) ?_
                          refine lv_iadd hx hb dX3_seen_166 ?_
                          refine lv_topi (fun x_75 ex_75 => ?_)
                          obtain rfl : x_75 = iZ ((((b * 6) + a) * 401) + w) := ex_75.trans (iZ_add (((b * 6) + a) * 401) w)
                          refine lv_iload hx hb dX3_seen_167 (lv_at hl 0 rfl) ?_
                          refine va_iast hx hb hK hP hD hS 5 1 rfl rfl (zin (e := ((((b * 6) + a) * 401) + w)) (n := 14436) ⟨by omega, by omega⟩ (bl rfl)) dX3_seen_169 (fun H locs hP hD hS => ?_)
                          obtain ⟨f_76, hf_76⟩ : ∃ gg9, gg9 = upd fl_72 (iZ ((((b * 6) + a) * 401) + w)).toNatClampNeg (iZ i) := ⟨_, rfl⟩
                          rw [← hf_76] at hP hD
                          have rgf_76 := rg_upd rglh_74 hf_76 (by omega) ⟨by omega, by omega⟩ ⟨by omega, by omega⟩
                          refine lv_iload hx hb dX3_seen_170 (lv_at hl 0 rfl) ?_
                          exact EXi hx hb hr hlocks (fun h => absurd (show false = true from h) (by decide)) hS (i, (madeR k ha_69 hl_70 fa_71 f_76 op_73)) rfl rfl ⟨⟨⟨by omega, by omega⟩, ⟨fun _ => hvs, fun h => absurd (show 0 ≤ w ∧ w ≤ 400 from ⟨by omega, by omega⟩) h⟩, (fun d h1 h2 h3 => mor_66 d h1 h2 (hmr d h1 h2 h3))⟩, (RT.mk rgah_74 rgf_76 (RX.lk rxh_74 hf_76 rfl hb0 ha0 ⟨by omega, by omega⟩ hn hvs ⟨by omega, by omega⟩))⟩ (hP.sub [0, 1, 2, 3, 4, 5] rfl) (hD.sub [0, 1, 2, 3, 4, 5] rfl rfl) dX3_seen_172
                exact HL1 403 (madeR k ha_8 hl_9 fa_10 fl_11 op_12) _ _ _ _ (by omega) (RT.mk rgah_13 rglh_13 rxh_13) (fun h => absurd (show false = true from h) (by decide)) rfl (by omega) (by omega) (fun u p q => absurd p (by omega)) hor_7 mor_7 (hP.sub [0, 1, 2, 3, 4, 5] rfl) (hD.sub [0, 1, 2, 3, 4, 5] rfl rfl) hS (lv_sub hl [0, 1, 2, 3, 4, 5, 6, 7, 8] rfl)
          ·
            have c_18 := (zeq (x := iZ w) (y := iZ 0) rfl rfl ⟨by omega, by omega⟩ wn_0).mp c_18
            refine lv_iconst (v := iZ (-1)) hx hb dX3_seen_56 rfl ?_
            refine lv_goto (tgt := 71) hx hb dX3_seen_57 rfl ?_
            refine lv_istore (lv' := [(5, .int (iZ (-1))), (4, .int (iZ (((b * 6) + a) * 401))), (0, .ref h), (1, .int (iZ a)), (2, .int (iZ b)), (3, .int (iZ w))]) hx hb dX3_seen_71 hl (bl rfl) rfl (fun ls hl => ?_)
            refine lv_iload hx hb dX3_seen_73 (lv_at hl 0 rfl) ?_
            refine lv_bipush (v := iZ (-2)) hx hb dX3_seen_75 bip_m2 ?_
            refine lv_icmp_ne (tgt := 84) hx hb dX3_seen_77 rfl (fun _ => ?_) (fun c => absurd c (by decide))
            refine lv_iload hx hb dX3_seen_84 (lv_at hl 0 rfl) ?_
            refine lv_istore (lv' := [(6, .int (iZ (-1))), (5, .int (iZ (-1))), (4, .int (iZ (((b * 6) + a) * 401))), (0, .ref h), (1, .int (iZ a)), (2, .int (iZ b)), (3, .int (iZ w))]) hx hb dX3_seen_86 hl (bl rfl) rfl (fun ls hl => ?_)
            refine lv_iload hx hb dX3_seen_88 (lv_at hl 1 rfl) ?_
            refine lv_bipush (v := iZ (-2)) hx hb dX3_seen_90 bip_m2 ?_
            refine lv_icmp_ne (tgt := 99) hx hb dX3_seen_92 rfl (fun _ => ?_) (fun c => absurd c (by decide))
            refine lv_iload hx hb dX3_seen_99 (lv_at hl 1 rfl) ?_
            refine lv_iconst (v := iZ 1) hx hb dX3_seen_101 rfl ?_
            refine lv_iadd hx hb dX3_seen_102 ?_
            refine lv_topi (fun x_79 ex_79 => ?_)
            obtain rfl : x_79 = iZ 0 := ex_79.trans (by decide +kernel)
            refine lv_iload_n hx hb dX3_seen_103 rfl (lv_at hl 6 rfl) ?_
            refine lv_bipush (v := iZ 20) hx hb dX3_seen_104 bip_20 ?_
            refine lv_isub hx hb dX3_seen_106 ?_
            refine lv_topi (fun x_80 ex_80 => ?_)
            obtain rfl : x_80 = iZ (w - 20) := ex_80.trans (iZ_sub w 20)
            refine va_mmax (rest := []) hx hb (by rw [hml]; exact hl.1.symm) (own := RX3) hown (hts _ qm_X3_43) (hts _ qt_yJ9_max_7cf53) (hts _ qz_J9) (hts _ qc_J9_max_7cf53) (Nat.le_of_ble_eq_true rfl) (Nat.le_of_ble_eq_true rfl) (cz_le _ _) (sz_le _ _) dX3_seen_107 ?_
            refine lv_topi (fun x_81 ex_81 => ?_)
            obtain rfl : x_81 = iZ (max 0 (w - 20)) := ex_81.trans (zmax ⟨by omega, by omega⟩ ⟨by omega, by omega⟩)
            refine lv_istore (lv' := [(7, .int (iZ (max 0 (w - 20)))), (6, .int (iZ (-1))), (5, .int (iZ (-1))), (4, .int (iZ (((b * 6) + a) * 401))), (0, .ref h), (1, .int (iZ a)), (2, .int (iZ b)), (3, .int (iZ w))]) hx hb dX3_seen_110 hl (bl rfl) rfl (fun ls hl => ?_)
            refine lv_iload_n hx hb dX3_seen_112 rfl (lv_at hl 7 rfl) ?_
            refine lv_iconst (v := iZ 1) hx hb dX3_seen_113 rfl ?_
            refine lv_isub hx hb dX3_seen_114 ?_
            refine lv_topi (fun x_82 ex_82 => ?_)
            obtain rfl : x_82 = iZ (w - 1) := ex_82.trans (iZ_sub w 1)
            refine lv_istore (lv' := [(8, .int (iZ (w - 1))), (7, .int (iZ (max 0 (w - 20)))), (6, .int (iZ (-1))), (5, .int (iZ (-1))), (4, .int (iZ (((b * 6) + a) * 401))), (0, .ref h), (1, .int (iZ a)), (2, .int (iZ b)), (3, .int (iZ w))]) hx hb dX3_seen_115 hl (bl rfl) rfl (fun ls hl => ?_)
            have hbg : (((-1) : Int) = -1 ∧ ((max 0 (w - 20)) : Int) = 0) ∨ (isSn f g ni a b (w - 1) (-1) ∧ (max 0 (w - 20)) ≤ max ((-1) + 1) (w - 20)) := (Or.inr ⟨⟨⟨by omega, by omega⟩, fun p => absurd p (by omega), fun u p q => absurd p (by omega)⟩, by omega⟩)
            have HL1 : ∀ (fu : Nat) (r2 : Ry) (i : Int) (H : Heap) (locs : List Loc) (ls : Array Slot), (i + 2) < (fu : Int) → RT k (RX f g n ni) r2 → (r2.b = true → r0.b = true) → r2.b = false → -1 ≤ i → i ≤ w - 1 → (∀ u : Int, i < u → u ≤ w - 1 → ¬ arF f g ni b u a ≤ w) → OB r2.op ((b * 6) + a) → (∀ d : Int, 0 ≤ d → d < 36 → OB r0.op d → OB r2.op d) → va_P D vwCl ((hs, .inr (5, fs)) :: (hf, .inl (k 1, 36, .inl f)) :: (hg, .inl (k 1, 32, .inl g)) :: (h, .inr (3, [.ref hs, .long r2.op, r2.vA, r2.vL])) :: r2.tl) H → va_D A ((hs, .inr (5, fs)) :: (hf, .inl (k 1, 36, .inl f)) :: (hg, .inl (k 1, 32, .inl g)) :: (h, .inr (3, [.ref hs, .long r2.op, r2.vA, r2.vL])) :: r2.tl) → va_S A s.heap H locs → lv_has ls 10 [(8, .int (iZ i)), (7, .int (iZ (max 0 (w - 20)))), (6, .int (iZ (-1))), (5, .int (iZ (-1))), (4, .int (iZ (((b * 6) + a) * 401))), (0, .ref h), (1, .int (iZ a)), (2, .int (iZ b)), (3, .int (iZ w))] → W p l e (rj 2 (rcN r0.b) (rsN r0.b)) s m [.ref h, .int (iZ a), .int (iZ b), .int (iZ w)].toArray below meth c H locs (cz r0.b r2.b) (sz r0.b r2.b) (MQ below (QX (σ := (Int × Ry)) r0.b (fun u => u.2) (fun u => some (.int (iZ u.1))) (fun u => ((-1 ≤ u.1 ∧ u.1 ≤ 400) ∧ (((0 ≤ w ∧ w ≤ 400) → u.1 = snF f g ni a b w) ∧ (¬ (0 ≤ w ∧ w ≤ 400) → u.1 = -1)) ∧ (∀ d : Int, 0 ≤ d → d < 36 → OB r0.op d → OB u.2.op d)) ∧ RT k (RX f g n ni) u.2) (fun u => [(h, .inr (3, [.ref hs, .long u.2.op, u.2.vA, u.2.vL])), (hs, .inr (5, fs)), (hf, .inl (k 1, 36, .inl f)), (hg, .inl (k 1, 32, .inl g))]) D A) [.ref h, .int (iZ a), .int (iZ b), .int (iZ w)].toArray s (rcN r0.b) (rsN r0.b) A) (F0 m 117 ls []) := by
              intro fu
              induction fu with
              | zero => intro r2 i H locs ls hμ1 rtr2 hbr2 hmr2 hi1 hi2 hns hob hmr hP hD hS hl; exact absurd hμ1 (by omega)
              | succ fu ih1 =>
                intro r2 i H locs ls hμ1 rtr2 hbr2 hmr2 hi1 hi2 hns hob hmr hP hD hS hl
                refine lv_iload hx hb dX3_seen_117 (lv_at hl 0 rfl) ?_
                refine lv_iload hx hb dX3_seen_119 (lv_at hl 1 rfl) ?_
                refine lv_icmp_lt (tgt := 159) hx hb dX3_seen_121 rfl (fun c_83 => ?_) (fun c_83 => ?_)
                ·
                  have c_83 := (zlt (x := iZ i) (y := iZ (max 0 (w - 20))) rfl rfl ⟨by omega, by omega⟩ ⟨by omega, by omega⟩).mp c_83
                  have hvs : (-1) = snF f g ni a b w := sn_old hx0 ha0 hb0 (show ¬ b = a from (by omega)) ⟨by omega, by omega⟩ hbg (fun u p q => hns u (by omega) q)
                  obtain ⟨ha_84, hl_85, fa_86, fl_87, op_88, rfl, rgah_89, rglh_89, rxh_89⟩ := RT.made rtr2 hmr2
                  refine W.ceq (cells' := cz r0.b false) (slots' := sz r0.b false) rfl rfl ?_
                  refine lv_aload_n hx hb dX3_seen_159 rfl (lv_at hl 5 rfl) ?_
                  refine va_get (D := D) (ci := 3) (v := .ref hl_85) (C := RX3) (T := TX3) (N := 4) hx hb hts iX3 hown hK hP 3 rfl rfl 3 (bl rfl) (hts _ qf_X3_23) (fun _ h => h) rfl dX3_seen_160 ?_
                  refine lv_iload hx hb dX3_seen_163 (lv_at hl 4 rfl) ?_
                  refine lv_iload_n hx hb dX3_seen_165 rfl (lv_at hl 8 rfl) ?_
                  refine lv_iadd hx hb dX3_seen_166 ?_
                  refine lv_topi (fun x_90 ex_90 => ?_)
                  obtain rfl : x_90 = iZ ((((b * 6) + a) * 401) + w) := ex_90.trans (iZ_add (((b * 6) + a) * 401) w)
                  refine lv_iload hx hb dX3_seen_167 (lv_at hl 2 rfl) ?_
                  refine va_iast hx hb hK hP hD hS 5 1 rfl rfl (zin (e := ((((b * 6) + a) * 401) + w)) (n := 14436) ⟨by omega, by omega⟩ (bl rfl)) dX3_seen_169 (fun H locs hP hD hS => ?_)
                  obtain ⟨f_91, hf_91⟩ : ∃ gg9, gg9 = upd fl_87 (iZ ((((b * 6) + a) * 401) + w)).toNatClampNeg (iZ (-1)) := ⟨_, rfl⟩
                  rw [← hf_91] at hP hD
                  have rgf_91 := rg_upd rglh_89 hf_91 (by omega) ⟨by omega, by omega⟩ ⟨by omega, by omega⟩
                  refine lv_iload hx hb dX3_seen_170 (lv_at hl 2 rfl) ?_
                  exact EXi hx hb hr hlocks (fun h => absurd (show false = true from h) (by decide)) hS ((-1), (madeR k ha_84 hl_85 fa_86 f_91 op_88)) rfl rfl ⟨⟨⟨by omega, by omega⟩, ⟨fun _ => hvs, fun h => absurd (show 0 ≤ w ∧ w ≤ 400 from ⟨by omega, by omega⟩) h⟩, hmr⟩, (RT.mk rgah_89 rgf_91 (RX.lk rxh_89 hf_91 rfl hb0 ha0 ⟨by omega, by omega⟩ hn hvs ⟨by omega, by omega⟩))⟩ (hP.sub [3, 0, 1, 2, 4, 5] rfl) (hD.sub [3, 0, 1, 2, 4, 5] rfl rfl) dX3_seen_172
                ·
                  have c_83 := mt (zlt (x := iZ i) (y := iZ (max 0 (w - 20))) rfl rfl ⟨by omega, by omega⟩ ⟨by omega, by omega⟩).mpr c_83
                  refine lv_aload_n hx hb dX3_seen_124 rfl (lv_at hl 5 rfl) ?_
                  refine lv_iload_n hx hb dX3_seen_125 rfl (lv_at hl 7 rfl) ?_
                  refine lv_iload hx hb dX3_seen_126 (lv_at hl 0 rfl) ?_
                  refine lv_iload_n hx hb dX3_seen_128 rfl (lv_at hl 6 rfl) ?_
                  refine CXV (r := r2) (b0 := r0.b) (As := [.int (iZ b), .int (iZ i), .int (iZ a)]) (rest := []) (ws := [(hs, .inr (5, fs)), (hf, .inl (k 1, 36, .inl f)), (hg, .inl (k 1, 32, .inl g)), (h, .inr (3, [.ref hs, .long r2.op, r2.vA, r2.vL]))]) (wc := _) (wr := []) hx hb hml hown hts hKK hP hD hS hA hbr2 (k_arrival l D k h hs r2 rtr2 fs hf hg f1 f2 f g n hn hx0 ni f4 hni rfl b i a ⟨by omega, by omega⟩ ⟨by omega, by omega⟩ ⟨by omega, by omega⟩) ci_X3_arrival qm_X3_48 ⟨Nat.le_of_ble_eq_true rfl, Nat.le_of_ble_eq_true rfl⟩ ⟨rfl, rfl⟩ [3, 0, 1, 2] [] rfl rfl rfl rfl rfl (dj rfl) 0 rfl rfl rfl hl.1 rfl (Nat.le_of_ble_eq_true rfl) dX3_seen_129 (fun u_92 H locs hφ hP hD hS hb1 => ?_)
                  obtain ⟨z_94, r_95⟩ := u_92
                  obtain ⟨hz_94, rtr_95⟩ := hφ
                  dsimp only at hz_94
                  obtain ⟨hz_94, vz_94, mor_95⟩ := hz_94
                  have rtr_95 : RT k (RX f g n ni) r_95 := rtr_95
                  have hbh_93 : r_95.b = true → r0.b = true := fun h => hbr2 (hb1 h)
                  have hmh_93 : r_95.b = false := b_f hb1 hmr2
                  refine W.ceq (cells' := cz r0.b r_95.b) (slots' := sz r0.b r_95.b) rfl rfl ?_
                  refine W.eq (g2 := F0 m 132 ls [.int (iZ z_94)]) rfl ?_
                  refine lv_istore (lv' := [(9, .int (iZ z_94)), (8, .int (iZ i)), (7, .int (iZ (max 0 (w - 20)))), (6, .int (iZ (-1))), (5, .int (iZ (-1))), (4, .int (iZ (((b * 6) + a) * 401))), (0, .ref h), (1, .int (iZ a)), (2, .int (iZ b)), (3, .int (iZ w))]) hx hb dX3_seen_132 hl (bl rfl) rfl (fun ls hl => ?_)
                  refine lv_iload hx hb dX3_seen_134 (lv_at hl 0 rfl) ?_
                  refine lv_iconst (v := iZ (-1)) hx hb dX3_seen_136 rfl ?_
                  refine lv_icmp_eq (tgt := 153) hx hb dX3_seen_137 rfl (fun c_96 => ?_) (fun c_96 => ?_)
                  ·
                    have c_96 := (zeq (x := iZ z_94) (y := iZ (-1)) rfl rfl ⟨by omega, by omega⟩ wn_m1).mp c_96
                    refine lv_iinc (v := iZ (i + (-1))) (lv' := [(8, .int (iZ (i + (-1)))), (9, .int (iZ z_94)), (7, .int (iZ (max 0 (w - 20)))), (6, .int (iZ (-1))), (5, .int (iZ (-1))), (4, .int (iZ (((b * 6) + a) * 401))), (0, .ref h), (1, .int (iZ a)), (2, .int (iZ b)), (3, .int (iZ w))]) hx hb dX3_seen_153 hl (k := 1) rfl (iZ_add i (-1)) (by decide) rfl (fun ls hl => ?_)
                    refine lv_goto (tgt := 117) hx hb dX3_seen_156 rfl ?_
                    exact ih1  r_95 _ _ _ _ (by omega) rtr_95 hbh_93 hmh_93 (by omega) (by omega) (fun u p q => by rcases Int.lt_or_eq_of_le (show i ≤ u by omega) with h3 | h3; exact hns u h3 q; rw [← h3]; have h8 := arN_c (f := f) (g := g) (ni := ni) (a := b) (w := i) (b := a) ⟨by omega, by omega⟩; have h7 := arF_c (f := f) (g := g) (ni := ni) (a := b) (b := a) (w := i) hx0 hb0 ha0 (show ¬ b = a from (by omega)) (by omega); omega) (mor_95 _ (by omega) (by omega) hob) (fun d h1 h2 h3 => mor_95 d h1 h2 (hmr d h1 h2 h3)) (va_P.subT (pre := [(h, .inr (3, [.ref hs, .long r_95.op, r_95.vA, r_95.vL])), (hs, .inr (5, fs)), (hf, .inl (k 1, 36, .inl f)), (hg, .inl (k 1, 32, .inl g))]) (pre' := [(hs, .inr (5, fs)), (hf, .inl (k 1, 36, .inl f)), (hg, .inl (k 1, 32, .inl g)), (h, .inr (3, [.ref hs, .long r_95.op, r_95.vA, r_95.vL]))]) (tl := r_95.tl) hP [1, 2, 3, 0] rfl) (va_D.subT (pre := [(h, .inr (3, [.ref hs, .long r_95.op, r_95.vA, r_95.vL])), (hs, .inr (5, fs)), (hf, .inl (k 1, 36, .inl f)), (hg, .inl (k 1, 32, .inl g))]) (pre' := [(hs, .inr (5, fs)), (hf, .inl (k 1, 36, .inl f)), (hg, .inl (k 1, 32, .inl g)), (h, .inr (3, [.ref hs, .long r_95.op, r_95.vA, r_95.vL]))]) (tl := r_95.tl) hD [1, 2, 3, 0] rfl rfl) hS (lv_sub hl [0, 2, 3, 4, 5, 6, 7, 8, 9] rfl)
                  ·
                    have c_96 := mt (zeq (x := iZ z_94) (y := iZ (-1)) rfl rfl ⟨by omega, by omega⟩ wn_m1).mpr c_96
                    refine lv_iload hx hb dX3_seen_140 (lv_at hl 0 rfl) ?_
                    refine lv_iload_n hx hb dX3_seen_142 rfl (lv_at hl 9 rfl) ?_
                    refine lv_icmp_gt (tgt := 153) hx hb dX3_seen_143 rfl (fun c_97 => ?_) (fun c_97 => ?_)
                    ·
                      have c_97 := (zlt (x := iZ w) (y := iZ z_94) rfl rfl ⟨by omega, by omega⟩ ⟨by omega, by omega⟩).mp c_97
                      refine lv_iinc (v := iZ (i + (-1))) (lv' := [(8, .int (iZ (i + (-1)))), (9, .int (iZ z_94)), (7, .int (iZ (max 0 (w - 20)))), (6, .int (iZ (-1))), (5, .int (iZ (-1))), (4, .int (iZ (((b * 6) + a) * 401))), (0, .ref h), (1, .int (iZ a)), (2, .int (iZ b)), (3, .int (iZ w))]) hx hb dX3_seen_153 hl (k := 1) rfl (iZ_add i (-1)) (by decide) rfl (fun ls hl => ?_)
                      refine lv_goto (tgt := 117) hx hb dX3_seen_156 rfl ?_
                      exact ih1  r_95 _ _ _ _ (by omega) rtr_95 hbh_93 hmh_93 (by omega) (by omega) (fun u p q => by rcases Int.lt_or_eq_of_le (show i ≤ u by omega) with h3 | h3; exact hns u h3 q; rw [← h3]; have h8 := arN_c (f := f) (g := g) (ni := ni) (a := b) (w := i) (b := a) ⟨by omega, by omega⟩; have h7 := arF_c (f := f) (g := g) (ni := ni) (a := b) (b := a) (w := i) hx0 hb0 ha0 (show ¬ b = a from (by omega)) (by omega); omega) (mor_95 _ (by omega) (by omega) hob) (fun d h1 h2 h3 => mor_95 d h1 h2 (hmr d h1 h2 h3)) (va_P.subT (pre := [(h, .inr (3, [.ref hs, .long r_95.op, r_95.vA, r_95.vL])), (hs, .inr (5, fs)), (hf, .inl (k 1, 36, .inl f)), (hg, .inl (k 1, 32, .inl g))]) (pre' := [(hs, .inr (5, fs)), (hf, .inl (k 1, 36, .inl f)), (hg, .inl (k 1, 32, .inl g)), (h, .inr (3, [.ref hs, .long r_95.op, r_95.vA, r_95.vL]))]) (tl := r_95.tl) hP [1, 2, 3, 0] rfl) (va_D.subT (pre := [(h, .inr (3, [.ref hs, .long r_95.op, r_95.vA, r_95.vL])), (hs, .inr (5, fs)), (hf, .inl (k 1, 36, .inl f)), (hg, .inl (k 1, 32, .inl g))]) (pre' := [(hs, .inr (5, fs)), (hf, .inl (k 1, 36, .inl f)), (hg, .inl (k 1, 32, .inl g)), (h, .inr (3, [.ref hs, .long r_95.op, r_95.vA, r_95.vL]))]) (tl := r_95.tl) hD [1, 2, 3, 0] rfl rfl) hS (lv_sub hl [0, 2, 3, 4, 5, 6, 7, 8, 9] rfl)
                    ·
                      have c_97 := mt (zlt (x := iZ w) (y := iZ z_94) rfl rfl ⟨by omega, by omega⟩ ⟨by omega, by omega⟩).mpr c_97
                      refine lv_iload hx hb dX3_seen_146 (lv_at hl 1 rfl) ?_
                      refine lv_istore (lv' := [(6, .int (iZ i)), (9, .int (iZ z_94)), (8, .int (iZ i)), (7, .int (iZ (max 0 (w - 20)))), (5, .int (iZ (-1))), (4, .int (iZ (((b * 6) + a) * 401))), (0, .ref h), (1, .int (iZ a)), (2, .int (iZ b)), (3, .int (iZ w))]) hx hb dX3_seen_148 hl (bl rfl) rfl (fun ls hl => ?_)
                      refine lv_goto (tgt := 159) hx hb dX3_seen_150 rfl ?_
                      have hvs : i = snF f g ni a b w := sn_new hx0 ha0 hb0 (show ¬ b = a from (by omega)) ⟨by omega, by omega⟩ ⟨by omega, by omega⟩ (by have h8 := arN_c (f := f) (g := g) (ni := ni) (a := b) (w := i) (b := a) ⟨by omega, by omega⟩; omega) hns
                      obtain ⟨ha_98, hl_99, fa_100, fl_101, op_102, rfl, rgah_103, rglh_103, rxh_103⟩ := RT.made rtr_95 hmh_93
                      refine W.ceq (cells' := cz r0.b false) (slots' := sz r0.b false) rfl rfl ?_
                      refine lv_aload_n hx hb dX3_seen_159 rfl (lv_at hl 6 rfl) ?_
                      refine va_get (D := D) (ci := 3) (v := .ref hl_99) (C := RX3) (T := TX3) (N := 4) hx hb hts iX3 hown hK hP 0 rfl rfl 3 (bl rfl) (hts _ qf_X3_23) (fun _ h => h) rfl dX3_seen_160 ?_
                      refine lv_iload hx hb dX3_seen_163 (lv_at hl 5 rfl) ?_
                      refine lv_iload_n hx hb dX3_seen_165 rfl (lv_at hl 9 rfl) ?_
                      refine lv_iadd hx hb dX3_seen_166 ?_
                      refine lv_topi (fun x_104 ex_104 => ?_)
                      obtain rfl : x_104 = iZ ((((b * 6) + a) * 401) + w) := ex_104.trans (iZ_add (((b * 6) + a) * 401) w)
                      refine lv_iload hx hb dX3_seen_167 (lv_at hl 0 rfl) ?_
                      refine va_iast hx hb hK hP hD hS 5 1 rfl rfl (zin (e := ((((b * 6) + a) * 401) + w)) (n := 14436) ⟨by omega, by omega⟩ (bl rfl)) dX3_seen_169 (fun H locs hP hD hS => ?_)
                      obtain ⟨f_105, hf_105⟩ : ∃ gg9, gg9 = upd fl_101 (iZ ((((b * 6) + a) * 401) + w)).toNatClampNeg (iZ i) := ⟨_, rfl⟩
                      rw [← hf_105] at hP hD
                      have rgf_105 := rg_upd rglh_103 hf_105 (by omega) ⟨by omega, by omega⟩ ⟨by omega, by omega⟩
                      refine lv_iload hx hb dX3_seen_170 (lv_at hl 0 rfl) ?_
                      exact EXi hx hb hr hlocks (fun h => absurd (show false = true from h) (by decide)) hS (i, (madeR k ha_98 hl_99 fa_100 f_105 op_102)) rfl rfl ⟨⟨⟨by omega, by omega⟩, ⟨fun _ => hvs, fun h => absurd (show 0 ≤ w ∧ w ≤ 400 from ⟨by omega, by omega⟩) h⟩, (fun d h1 h2 h3 => mor_95 d h1 h2 (hmr d h1 h2 h3))⟩, (RT.mk rgah_103 rgf_105 (RX.lk rxh_103 hf_105 rfl hb0 ha0 ⟨by omega, by omega⟩ hn hvs ⟨by omega, by omega⟩))⟩ (hP.sub [0, 1, 2, 3, 4, 5] rfl) (hD.sub [0, 1, 2, 3, 4, 5] rfl rfl) dX3_seen_172
            exact HL1 403 (madeR k ha_8 hl_9 fa_10 fl_11 op_12) _ _ _ _ (by omega) (RT.mk rgah_13 rglh_13 rxh_13) (fun h => absurd (show false = true from h) (by decide)) rfl (by omega) (by omega) (fun u p q => absurd p (by omega)) hor_7 mor_7 (hP.sub [0, 1, 2, 3, 4, 5] rfl) (hD.sub [0, 1, 2, 3, 4, 5] rfl rfl) hS (lv_sub hl [0, 1, 2, 3, 4, 5, 6, 7, 8] rfl)
        ·
          have c_17 := mt (zeq (x := iZ (gz fl_11 ((((b * 6) + a) * 401) + w))) (y := iZ (-2)) rfl rfl (gz_rg fl_11 ((((b * 6) + a) * 401) + w)) wn_m2).mpr c_17
          refine lv_aload_n hx hb dX3_seen_42 rfl (lv_at hl 1 rfl) ?_
          refine va_get (D := D) (ci := 3) (v := .ref hl_9) (C := RX3) (T := TX3) (N := 4) hx hb hts iX3 hown hK hP 3 rfl rfl 3 (bl rfl) (hts _ qf_X3_23) (fun _ h => h) rfl dX3_seen_43 ?_
          refine lv_iload hx hb dX3_seen_46 (lv_at hl 0 rfl) ?_
          refine lv_iload_n hx hb dX3_seen_48 rfl (lv_at hl 4 rfl) ?_
          refine lv_iadd hx hb dX3_seen_49 ?_
          refine lv_topi (fun x_106 ex_106 => ?_)
          obtain rfl : x_106 = iZ ((((b * 6) + a) * 401) + w) := ex_106.trans (iZ_add (((b * 6) + a) * 401) w)
          refine va_iald hx hb hK hP 5 1 rfl rfl (zin (e := ((((b * 6) + a) * 401) + w)) (n := 14436) ⟨by omega, by omega⟩ (bl rfl)) dX3_seen_50 ?_
          refine lv_topi (fun x_107 ex_107 => ?_)
          obtain rfl : x_107 = iZ (gz fl_11 ((((b * 6) + a) * 401) + w)) := ex_107.trans (gz_eq ⟨by omega, by omega⟩)
          have h_108 := rglh_13 ((((b * 6) + a) * 401) + w) (by omega) (by omega)
          exact EXi hx hb hr hlocks (fun h => absurd (show false = true from h) (by decide)) hS ((gz fl_11 ((((b * 6) + a) * 401) + w)), (madeR k ha_8 hl_9 fa_10 fl_11 op_12)) rfl rfl ⟨⟨⟨by omega, by omega⟩, ⟨fun _ => (rxh_13 b a hb0 ha0 (by omega) hor_7 w (by omega) (by omega)).2.resolve_left c_17, fun h => absurd (show 0 ≤ w ∧ w ≤ 400 from ⟨by omega, by omega⟩) h⟩, mor_7⟩, (RT.mk rgah_13 rglh_13 rxh_13)⟩ (hP.sub [3, 0, 1, 2, 4, 5] rfl) (hD.sub [3, 0, 1, 2, 4, 5] rfl rfl) dX3_seen_51
      ·
        have c_3 := (zeq (x := iZ a) (y := iZ b) rfl rfl ⟨by omega, by omega⟩ ⟨by omega, by omega⟩).mp c_3
        refine lv_iload_n hx hb dX3_seen_18 rfl (lv_at hl 3 rfl) ?_
        exact EXi hx hb hr hlocks (fun h => h) hS (w, r0) rfl rfl ⟨⟨⟨by omega, by omega⟩, ⟨fun h => (by obtain rfl : a = b := (by omega); exact (snF_s h.1).symm), fun h => absurd (show 0 ≤ w ∧ w ≤ 400 from ⟨by omega, by omega⟩) h⟩, (fun d h1 h2 h3 => h3)⟩, hRT⟩ (va_P.subT (pre := [(h, .inr (3, [.ref hs, .long r0.op, r0.vA, r0.vL])), (hs, .inr (5, fs)), (hf, .inl (k 1, 36, .inl f)), (hg, .inl (k 1, 32, .inl g))]) (pre' := [(h, .inr (3, [.ref hs, .long r0.op, r0.vA, r0.vL])), (hs, .inr (5, fs)), (hf, .inl (k 1, 36, .inl f)), (hg, .inl (k 1, 32, .inl g))]) (tl := r0.tl) hP [0, 1, 2, 3] rfl) (va_D.subT (pre := [(h, .inr (3, [.ref hs, .long r0.op, r0.vA, r0.vL])), (hs, .inr (5, fs)), (hf, .inl (k 1, 36, .inl f)), (hg, .inl (k 1, 32, .inl g))]) (pre' := [(h, .inr (3, [.ref hs, .long r0.op, r0.vA, r0.vL])), (hs, .inr (5, fs)), (hf, .inl (k 1, 36, .inl f)), (hg, .inl (k 1, 32, .inl g))]) (tl := r0.tl) hD [0, 1, 2, 3] rfl rfl) dX3_seen_19
    ·
      have c_2 := mt (zle (x := iZ w) (y := iZ 400) rfl rfl ⟨by omega, by omega⟩ wn_400).mpr c_2
      refine lv_iconst (v := iZ (-1)) hx hb dX3_seen_11 rfl ?_
      exact EXi hx hb hr hlocks (fun h => h) hS ((-1), r0) rfl rfl ⟨⟨⟨by omega, by omega⟩, ⟨fun h => absurd h (by omega), fun _ => rfl⟩, (fun d h1 h2 h3 => h3)⟩, hRT⟩ (va_P.subT (pre := [(h, .inr (3, [.ref hs, .long r0.op, r0.vA, r0.vL])), (hs, .inr (5, fs)), (hf, .inl (k 1, 36, .inl f)), (hg, .inl (k 1, 32, .inl g))]) (pre' := [(h, .inr (3, [.ref hs, .long r0.op, r0.vA, r0.vL])), (hs, .inr (5, fs)), (hf, .inl (k 1, 36, .inl f)), (hg, .inl (k 1, 32, .inl g))]) (tl := r0.tl) hP [0, 1, 2, 3] rfl) (va_D.subT (pre := [(h, .inr (3, [.ref hs, .long r0.op, r0.vA, r0.vL])), (hs, .inr (5, fs)), (hf, .inl (k 1, 36, .inl f)), (hg, .inl (k 1, 32, .inl g))]) (pre' := [(h, .inr (3, [.ref hs, .long r0.op, r0.vA, r0.vL])), (hs, .inr (5, fs)), (hf, .inl (k 1, 36, .inl f)), (hg, .inl (k 1, 32, .inl g))]) (tl := r0.tl) hD [0, 1, 2, 3] rfl rfl) dX3_seen_12
set_option maxHeartbeats 4000000 in
set_option maxRecDepth 100000 in
theorem k_echoOf (l : Launch) (D : va_G) (k : Nat → ClassId) (h hs : Nat) (r0 : Ry) {P0 : RP_} (hRT : (RT k) P0 r0) (fs : List Value) (hf hg : Nat) (f1 : fs[1]? = some (.ref hf)) (f2 : fs[2]? = some (.ref hg)) (f g : Nat → Int32) (n : Int) (hn : n ≤ 6) (hx0 : FXI f n) (ni : Int) (f4 : fs[4]? = some (.int (iZ ni))) (hni : 0 ≤ ni ∧ ni ≤ 8) (hQ0 : P0 = RX f g n ni) (a w b : Int) (ha0 : 0 ≤ a ∧ a < n) (hb0 : 0 ≤ b ∧ b < n) (hw : -2147483648 ≤ w ∧ w < 2147483648) : XD (σ := (Int × Ry)) l yX3_echoOf cX3_echoOf 4 (some .int) 2 r0 D k [.ref h, .int (iZ a), .int (iZ w), .int (iZ b)] [(h, .inr (3, [.ref hs, .long r0.op, r0.vA, r0.vL])), (hs, .inr (5, fs)), (hf, .inl (k 1, 36, .inl f)), (hg, .inl (k 1, 32, .inl g))] (fun u => u.2) (fun u => some (.int (iZ u.1))) (fun u => ((-1 ≤ u.1 ∧ u.1 ≤ 420) ∧ u.1 = arN f g ni b (arN f g ni a w b) a ∧ (∀ d : Int, 0 ≤ d → d < 36 → OB r0.op d → OB u.2.op d)) ∧ RT k (RX f g n ni) u.2) (fun u => [(h, .inr (3, [.ref hs, .long u.2.op, u.2.vA, u.2.vL])), (hs, .inr (5, fs)), (hf, .inl (k 1, 36, .inl f)), (hg, .inl (k 1, 32, .inl g))]) := by
  refine MX (by decide) (Nat.le_of_ble_eq_true rfl) (fun p e s m below meth c ls A hx hb hml hr hlocks hin hts hown hKK hP hD hS hA hl => ?_)
  have hK := hKK.1
  have hl : lv_has ls 4 [(0, .ref h), (1, .int (iZ a)), (2, .int (iZ w)), (3, .int (iZ b))] := hl
  subst hQ0
  refine lv_aload_n hx hb dX3_echoOf_0 rfl (lv_at hl 0 rfl) ?_
  refine lv_iload_n hx hb dX3_echoOf_1 rfl (lv_at hl 3 rfl) ?_
  refine lv_aload_n hx hb dX3_echoOf_2 rfl (lv_at hl 0 rfl) ?_
  refine lv_iload_n hx hb dX3_echoOf_3 rfl (lv_at hl 1 rfl) ?_
  refine lv_iload_n hx hb dX3_echoOf_4 rfl (lv_at hl 2 rfl) ?_
  refine lv_iload_n hx hb dX3_echoOf_5 rfl (lv_at hl 3 rfl) ?_
  refine CXV (r := r0) (b0 := r0.b) (As := [.int (iZ a), .int (iZ w), .int (iZ b)]) (rest := [.int (iZ b), .ref h]) (ws := [(h, .inr (3, [.ref hs, .long r0.op, r0.vA, r0.vL])), (hs, .inr (5, fs)), (hf, .inl (k 1, 36, .inl f)), (hg, .inl (k 1, 32, .inl g))]) (wc := _) (wr := []) hx hb hml hown hts hKK hP hD hS hA (fun h => h) (k_arrival l D k h hs r0 hRT fs hf hg f1 f2 f g n hn hx0 ni f4 hni rfl a w b ⟨by omega, by omega⟩ ⟨by omega, by omega⟩ ⟨by omega, by omega⟩) ci_X3_arrival qm_X3_48 ⟨Nat.le_of_ble_eq_true rfl, Nat.le_of_ble_eq_true rfl⟩ ⟨rfl, rfl⟩ [0, 1, 2, 3] [] rfl rfl rfl rfl rfl (dj rfl) 0 rfl rfl rfl hl.1 rfl (Nat.le_of_ble_eq_true rfl) dX3_echoOf_6 (fun u_1 H locs hφ hP hD hS hb1 => ?_)
  obtain ⟨z_3, r_4⟩ := u_1
  obtain ⟨hz_3, rtr_4⟩ := hφ
  dsimp only at hz_3
  obtain ⟨hz_3, vz_3, mor_4⟩ := hz_3
  have rtr_4 : RT k (RX f g n ni) r_4 := rtr_4
  have hbh_2 : r_4.b = true → r0.b = true := fun h => (fun h => h) (hb1 h)
  refine W.ceq (cells' := cz r0.b r_4.b) (slots' := sz r0.b r_4.b) rfl rfl ?_
  refine W.eq (g2 := F0 m 9 ls [.int (iZ z_3), .int (iZ b), .ref h]) rfl ?_
  refine lv_iload_n hx hb dX3_echoOf_9 rfl (lv_at hl 1 rfl) ?_
  refine CXV (r := r_4) (b0 := r0.b) (As := [.int (iZ b), .int (iZ z_3), .int (iZ a)]) (rest := []) (ws := [(h, .inr (3, [.ref hs, .long r_4.op, r_4.vA, r_4.vL])), (hs, .inr (5, fs)), (hf, .inl (k 1, 36, .inl f)), (hg, .inl (k 1, 32, .inl g))]) (wc := _) (wr := []) hx hb hml hown hts hKK hP hD hS hA hbh_2 (k_arrival l D k h hs r_4 rtr_4 fs hf hg f1 f2 f g n hn hx0 ni f4 hni rfl b z_3 a ⟨by omega, by omega⟩ ⟨by omega, by omega⟩ ⟨by omega, by omega⟩) ci_X3_arrival qm_X3_48 ⟨Nat.le_of_ble_eq_true rfl, Nat.le_of_ble_eq_true rfl⟩ ⟨rfl, rfl⟩ [0, 1, 2, 3] [] rfl rfl rfl rfl rfl (dj rfl) 0 rfl rfl rfl hl.1 rfl (Nat.le_of_ble_eq_true rfl) dX3_echoOf_10 (fun u_5 H locs hφ hP hD hS hb1 => ?_)
  obtain ⟨z_7, r_8⟩ := u_5
  obtain ⟨hz_7, rtr_8⟩ := hφ
  dsimp only at hz_7
  obtain ⟨hz_7, vz_7, mor_8⟩ := hz_7
  have rtr_8 : RT k (RX f g n ni) r_8 := rtr_8
  have hbh_6 : r_8.b = true → r0.b = true := fun h => hbh_2 (hb1 h)
  refine W.ceq (cells' := cz r0.b r_8.b) (slots' := sz r0.b r_8.b) rfl rfl ?_
  refine W.eq (g2 := F0 m 13 ls [.int (iZ z_7)]) rfl ?_
  exact EXi hx hb hr hlocks hbh_6 hS (z_7, r_8) rfl rfl ⟨⟨⟨by omega, by omega⟩, by rw [vz_7, vz_3], fun d h1 h2 h3 => mor_8 d h1 h2 (mor_4 d h1 h2 h3)⟩, rtr_8⟩ (va_P.subT (pre := [(h, .inr (3, [.ref hs, .long r_8.op, r_8.vA, r_8.vL])), (hs, .inr (5, fs)), (hf, .inl (k 1, 36, .inl f)), (hg, .inl (k 1, 32, .inl g))]) (pre' := [(h, .inr (3, [.ref hs, .long r_8.op, r_8.vA, r_8.vL])), (hs, .inr (5, fs)), (hf, .inl (k 1, 36, .inl f)), (hg, .inl (k 1, 32, .inl g))]) (tl := r_8.tl) hP [0, 1, 2, 3] rfl) (va_D.subT (pre := [(h, .inr (3, [.ref hs, .long r_8.op, r_8.vA, r_8.vL])), (hs, .inr (5, fs)), (hf, .inl (k 1, 36, .inl f)), (hg, .inl (k 1, 32, .inl g))]) (pre' := [(h, .inr (3, [.ref hs, .long r_8.op, r_8.vA, r_8.vL])), (hs, .inr (5, fs)), (hf, .inl (k 1, 36, .inl f)), (hg, .inl (k 1, 32, .inl g))]) (tl := r_8.tl) hD [0, 1, 2, 3] rfl rfl) dX3_echoOf_13
end
