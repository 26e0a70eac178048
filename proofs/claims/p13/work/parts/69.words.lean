theorem qf_X12_47 : Cond.fieldLink RX12 47 "SlowWorldsModel" "known" "[I" ∈ gw := tbt (tb6 (List.mem_of_getElem? (i := 68) rfl)) rfl
theorem qf_X12_50 : Cond.fieldLink RX12 50 "SlowWorldsModel" "tellers" "[I" ∈ gw := tbt (tb6 (List.mem_of_getElem? (i := 69) rfl)) rfl
theorem qf_X12_53 : Cond.fieldLink RX12 53 "SlowWorldsModel" "by" "[I" ∈ gw := tbt (tb6 (List.mem_of_getElem? (i := 70) rfl)) rfl
def fb_X12_lays_0 : List UInt8 := [0x03, 0x3e, 0x03, 0x36, 0x04, 0x15, 0x04, 0x10, 0x06, 0xa2, 0x00, 0x2c, 0x2a, 0xb4, 0x00, 0x2f, 0x15, 0x04, 0x15, 0x04, 0x1b, 0xa0, 0x00, 0x07, 0x1c, 0xa7, 0x00, 0x05, 0x12, 0x58, 0x4f, 0x2a, 0xb4, 0x00, 0x32, 0x15, 0x04, 0x02, 0x4f, 0x2a, 0xb4, 0x00, 0x35, 0x15, 0x04, 0x03, 0x4f, 0x84, 0x04, 0x01, 0xa7, 0xff, 0xd3, 0x02, 0x36, 0x04, 0x03, 0x36, 0x05, 0x15, 0x05, 0x2a, 0xb4, 0x00]
theorem fl_X12_lays_0 {p j : Nat} {b : UInt8} (e : p = 0 + j) (h : fb_X12_lays_0[j]? = some b) : cX12_lays.data.toList[p]? = some b := fq_l (n := 64) (show (cX12_lays.data.toList.drop 0).take 64 = fb_X12_lays_0 by decide +kernel) e h
theorem dX12_lays_0 : decode cX12_lays 0 = .ok (.iconst 0, 1) := fq1_3 (fl_X12_lays_0 (j := 0) rfl rfl)
theorem dX12_lays_1 : decode cX12_lays 1 = .ok (.istore_n 3, 1) := fq1_62 (fl_X12_lays_0 (j := 1) rfl rfl)
theorem dX12_lays_2 : decode cX12_lays 2 = .ok (.iconst 0, 1) := fq1_3 (fl_X12_lays_0 (j := 2) rfl rfl)
theorem dX12_lays_3 : decode cX12_lays 3 = .ok (.istore 4, 2) := fq2_54 (fl_X12_lays_0 (j := 3) rfl rfl) (fl_X12_lays_0 (j := 4) rfl rfl) rfl
theorem dX12_lays_5 : decode cX12_lays 5 = .ok (.iload 4, 2) := fq2_21 (fl_X12_lays_0 (j := 5) rfl rfl) (fl_X12_lays_0 (j := 6) rfl rfl) rfl
theorem dX12_lays_7 : decode cX12_lays 7 = .ok (.bipush 6, 2) := fq2_16 (fl_X12_lays_0 (j := 7) rfl rfl) (fl_X12_lays_0 (j := 8) rfl rfl) (s1p rfl (bl rfl))
theorem dX12_lays_9 : decode cX12_lays 9 = .ok (.if_icmp .ge 44, 3) := fq3_162 (fl_X12_lays_0 (j := 9) rfl rfl) (fl_X12_lays_0 (j := 10) rfl rfl) (fl_X12_lays_0 (j := 11) rfl rfl) (s2p rfl (bl rfl))
theorem dX12_lays_12 : decode cX12_lays 12 = .ok (.aload_n 0, 1) := fq1_42 (fl_X12_lays_0 (j := 12) rfl rfl)
theorem dX12_lays_13 : decode cX12_lays 13 = .ok (.getfield 47, 3) := fq3_180 (fl_X12_lays_0 (j := 13) rfl rfl) (fl_X12_lays_0 (j := 14) rfl rfl) (fl_X12_lays_0 (j := 15) rfl rfl) rfl
theorem dX12_lays_16 : decode cX12_lays 16 = .ok (.iload 4, 2) := fq2_21 (fl_X12_lays_0 (j := 16) rfl rfl) (fl_X12_lays_0 (j := 17) rfl rfl) rfl
theorem dX12_lays_18 : decode cX12_lays 18 = .ok (.iload 4, 2) := fq2_21 (fl_X12_lays_0 (j := 18) rfl rfl) (fl_X12_lays_0 (j := 19) rfl rfl) rfl
theorem dX12_lays_20 : decode cX12_lays 20 = .ok (.iload_n 1, 1) := fq1_27 (fl_X12_lays_0 (j := 20) rfl rfl)
theorem dX12_lays_21 : decode cX12_lays 21 = .ok (.if_icmp .ne 7, 3) := fq3_160 (fl_X12_lays_0 (j := 21) rfl rfl) (fl_X12_lays_0 (j := 22) rfl rfl) (fl_X12_lays_0 (j := 23) rfl rfl) (s2p rfl (bl rfl))
theorem dX12_lays_24 : decode cX12_lays 24 = .ok (.iload_n 2, 1) := fq1_28 (fl_X12_lays_0 (j := 24) rfl rfl)
theorem dX12_lays_25 : decode cX12_lays 25 = .ok (.goto 5, 3) := fq3_167 (fl_X12_lays_0 (j := 25) rfl rfl) (fl_X12_lays_0 (j := 26) rfl rfl) (fl_X12_lays_0 (j := 27) rfl rfl) (s2p rfl (bl rfl))
theorem dX12_lays_28 : decode cX12_lays 28 = .ok (.ldc 88, 2) := fq2_18 (fl_X12_lays_0 (j := 28) rfl rfl) (fl_X12_lays_0 (j := 29) rfl rfl) rfl
theorem dX12_lays_30 : decode cX12_lays 30 = .ok (.iastore, 1) := fq1_79 (fl_X12_lays_0 (j := 30) rfl rfl)
theorem dX12_lays_31 : decode cX12_lays 31 = .ok (.aload_n 0, 1) := fq1_42 (fl_X12_lays_0 (j := 31) rfl rfl)
theorem dX12_lays_32 : decode cX12_lays 32 = .ok (.getfield 50, 3) := fq3_180 (fl_X12_lays_0 (j := 32) rfl rfl) (fl_X12_lays_0 (j := 33) rfl rfl) (fl_X12_lays_0 (j := 34) rfl rfl) rfl
theorem dX12_lays_35 : decode cX12_lays 35 = .ok (.iload 4, 2) := fq2_21 (fl_X12_lays_0 (j := 35) rfl rfl) (fl_X12_lays_0 (j := 36) rfl rfl) rfl
theorem dX12_lays_37 : decode cX12_lays 37 = .ok (.iconst (-1), 1) := fq1_2 (fl_X12_lays_0 (j := 37) rfl rfl)
theorem dX12_lays_38 : decode cX12_lays 38 = .ok (.iastore, 1) := fq1_79 (fl_X12_lays_0 (j := 38) rfl rfl)
theorem dX12_lays_39 : decode cX12_lays 39 = .ok (.aload_n 0, 1) := fq1_42 (fl_X12_lays_0 (j := 39) rfl rfl)
theorem dX12_lays_40 : decode cX12_lays 40 = .ok (.getfield 53, 3) := fq3_180 (fl_X12_lays_0 (j := 40) rfl rfl) (fl_X12_lays_0 (j := 41) rfl rfl) (fl_X12_lays_0 (j := 42) rfl rfl) rfl
theorem dX12_lays_43 : decode cX12_lays 43 = .ok (.iload 4, 2) := fq2_21 (fl_X12_lays_0 (j := 43) rfl rfl) (fl_X12_lays_0 (j := 44) rfl rfl) rfl
theorem dX12_lays_45 : decode cX12_lays 45 = .ok (.iconst 0, 1) := fq1_3 (fl_X12_lays_0 (j := 45) rfl rfl)
theorem dX12_lays_46 : decode cX12_lays 46 = .ok (.iastore, 1) := fq1_79 (fl_X12_lays_0 (j := 46) rfl rfl)
theorem dX12_lays_47 : decode cX12_lays 47 = .ok (.iinc 4 1, 3) := fq3_132 (fl_X12_lays_0 (j := 47) rfl rfl) (fl_X12_lays_0 (j := 48) rfl rfl) (fl_X12_lays_0 (j := 49) rfl rfl) rfl (s1p rfl (bl rfl))
theorem dX12_lays_50 : decode cX12_lays 50 = .ok (.goto (-45), 3) := fq3_167 (fl_X12_lays_0 (j := 50) rfl rfl) (fl_X12_lays_0 (j := 51) rfl rfl) (fl_X12_lays_0 (j := 52) rfl rfl) (by decide)
theorem dX12_lays_53 : decode cX12_lays 53 = .ok (.iconst (-1), 1) := fq1_2 (fl_X12_lays_0 (j := 53) rfl rfl)
theorem dX12_lays_54 : decode cX12_lays 54 = .ok (.istore 4, 2) := fq2_54 (fl_X12_lays_0 (j := 54) rfl rfl) (fl_X12_lays_0 (j := 55) rfl rfl) rfl
theorem dX12_lays_56 : decode cX12_lays 56 = .ok (.iconst 0, 1) := fq1_3 (fl_X12_lays_0 (j := 56) rfl rfl)
theorem dX12_lays_57 : decode cX12_lays 57 = .ok (.istore 5, 2) := fq2_54 (fl_X12_lays_0 (j := 57) rfl rfl) (fl_X12_lays_0 (j := 58) rfl rfl) rfl
theorem dX12_lays_59 : decode cX12_lays 59 = .ok (.iload 5, 2) := fq2_21 (fl_X12_lays_0 (j := 59) rfl rfl) (fl_X12_lays_0 (j := 60) rfl rfl) rfl
theorem dX12_lays_61 : decode cX12_lays 61 = .ok (.aload_n 0, 1) := fq1_42 (fl_X12_lays_0 (j := 61) rfl rfl)
def fb_X12_lays_1 : List UInt8 := [0x07, 0x03, 0x2e, 0xa2, 0x00, 0x39, 0x1d, 0x15, 0x05, 0x7a, 0x04, 0x7e, 0x9a, 0x00, 0x2a, 0x2a, 0xb4, 0x00, 0x2f, 0x15, 0x05, 0x2e, 0x12, 0x58, 0xa2, 0x00, 0x1e, 0x15, 0x04, 0x02, 0x9f, 0x00, 0x14, 0x2a, 0xb4, 0x00, 0x2f, 0x15, 0x05, 0x2e, 0x2a, 0xb4, 0x00, 0x2f, 0x15, 0x04, 0x2e, 0xa2, 0x00, 0x07, 0x15, 0x05, 0x36, 0x04, 0x84, 0x05, 0x01, 0xa7, 0xff, 0xc2, 0x15, 0x04, 0x02, 0xa0]
theorem fl_X12_lays_1 {p j : Nat} {b : UInt8} (e : p = 64 + j) (h : fb_X12_lays_1[j]? = some b) : cX12_lays.data.toList[p]? = some b := fq_l (n := 64) (show (cX12_lays.data.toList.drop 64).take 64 = fb_X12_lays_1 by decide +kernel) e h
theorem dX12_lays_62 : decode cX12_lays 62 = .ok (.getfield 7, 3) := fq3_180 (fl_X12_lays_0 (j := 62) rfl rfl) (fl_X12_lays_0 (j := 63) rfl rfl) (fl_X12_lays_1 (j := 0) rfl rfl) rfl
theorem dX12_lays_65 : decode cX12_lays 65 = .ok (.iconst 0, 1) := fq1_3 (fl_X12_lays_1 (j := 1) rfl rfl)
theorem dX12_lays_66 : decode cX12_lays 66 = .ok (.iaload, 1) := fq1_46 (fl_X12_lays_1 (j := 2) rfl rfl)
theorem dX12_lays_67 : decode cX12_lays 67 = .ok (.if_icmp .ge 57, 3) := fq3_162 (fl_X12_lays_1 (j := 3) rfl rfl) (fl_X12_lays_1 (j := 4) rfl rfl) (fl_X12_lays_1 (j := 5) rfl rfl) (s2p rfl (bl rfl))
theorem dX12_lays_70 : decode cX12_lays 70 = .ok (.iload_n 3, 1) := fq1_29 (fl_X12_lays_1 (j := 6) rfl rfl)
theorem dX12_lays_71 : decode cX12_lays 71 = .ok (.iload 5, 2) := fq2_21 (fl_X12_lays_1 (j := 7) rfl rfl) (fl_X12_lays_1 (j := 8) rfl rfl) rfl
theorem dX12_lays_73 : decode cX12_lays 73 = .ok (.ishr, 1) := fq1_122 (fl_X12_lays_1 (j := 9) rfl rfl)
theorem dX12_lays_74 : decode cX12_lays 74 = .ok (.iconst 1, 1) := fq1_4 (fl_X12_lays_1 (j := 10) rfl rfl)
theorem dX12_lays_75 : decode cX12_lays 75 = .ok (.iand, 1) := fq1_126 (fl_X12_lays_1 (j := 11) rfl rfl)
theorem dX12_lays_76 : decode cX12_lays 76 = .ok (.ifCond .ne 42, 3) := fq3_154 (fl_X12_lays_1 (j := 12) rfl rfl) (fl_X12_lays_1 (j := 13) rfl rfl) (fl_X12_lays_1 (j := 14) rfl rfl) (s2p rfl (bl rfl))
theorem dX12_lays_79 : decode cX12_lays 79 = .ok (.aload_n 0, 1) := fq1_42 (fl_X12_lays_1 (j := 15) rfl rfl)
theorem dX12_lays_80 : decode cX12_lays 80 = .ok (.getfield 47, 3) := fq3_180 (fl_X12_lays_1 (j := 16) rfl rfl) (fl_X12_lays_1 (j := 17) rfl rfl) (fl_X12_lays_1 (j := 18) rfl rfl) rfl
theorem dX12_lays_83 : decode cX12_lays 83 = .ok (.iload 5, 2) := fq2_21 (fl_X12_lays_1 (j := 19) rfl rfl) (fl_X12_lays_1 (j := 20) rfl rfl) rfl
theorem dX12_lays_85 : decode cX12_lays 85 = .ok (.iaload, 1) := fq1_46 (fl_X12_lays_1 (j := 21) rfl rfl)
theorem dX12_lays_86 : decode cX12_lays 86 = .ok (.ldc 88, 2) := fq2_18 (fl_X12_lays_1 (j := 22) rfl rfl) (fl_X12_lays_1 (j := 23) rfl rfl) rfl
theorem dX12_lays_88 : decode cX12_lays 88 = .ok (.if_icmp .ge 30, 3) := fq3_162 (fl_X12_lays_1 (j := 24) rfl rfl) (fl_X12_lays_1 (j := 25) rfl rfl) (fl_X12_lays_1 (j := 26) rfl rfl) (s2p rfl (bl rfl))
theorem dX12_lays_91 : decode cX12_lays 91 = .ok (.iload 4, 2) := fq2_21 (fl_X12_lays_1 (j := 27) rfl rfl) (fl_X12_lays_1 (j := 28) rfl rfl) rfl
theorem dX12_lays_93 : decode cX12_lays 93 = .ok (.iconst (-1), 1) := fq1_2 (fl_X12_lays_1 (j := 29) rfl rfl)
theorem dX12_lays_94 : decode cX12_lays 94 = .ok (.if_icmp .eq 20, 3) := fq3_159 (fl_X12_lays_1 (j := 30) rfl rfl) (fl_X12_lays_1 (j := 31) rfl rfl) (fl_X12_lays_1 (j := 32) rfl rfl) (s2p rfl (bl rfl))
theorem dX12_lays_97 : decode cX12_lays 97 = .ok (.aload_n 0, 1) := fq1_42 (fl_X12_lays_1 (j := 33) rfl rfl)
theorem dX12_lays_98 : decode cX12_lays 98 = .ok (.getfield 47, 3) := fq3_180 (fl_X12_lays_1 (j := 34) rfl rfl) (fl_X12_lays_1 (j := 35) rfl rfl) (fl_X12_lays_1 (j := 36) rfl rfl) rfl
theorem dX12_lays_101 : decode cX12_lays 101 = .ok (.iload 5, 2) := fq2_21 (fl_X12_lays_1 (j := 37) rfl rfl) (fl_X12_lays_1 (j := 38) rfl rfl) rfl
theorem dX12_lays_103 : decode cX12_lays 103 = .ok (.iaload, 1) := fq1_46 (fl_X12_lays_1 (j := 39) rfl rfl)
theorem dX12_lays_104 : decode cX12_lays 104 = .ok (.aload_n 0, 1) := fq1_42 (fl_X12_lays_1 (j := 40) rfl rfl)
theorem dX12_lays_105 : decode cX12_lays 105 = .ok (.getfield 47, 3) := fq3_180 (fl_X12_lays_1 (j := 41) rfl rfl) (fl_X12_lays_1 (j := 42) rfl rfl) (fl_X12_lays_1 (j := 43) rfl rfl) rfl
theorem dX12_lays_108 : decode cX12_lays 108 = .ok (.iload 4, 2) := fq2_21 (fl_X12_lays_1 (j := 44) rfl rfl) (fl_X12_lays_1 (j := 45) rfl rfl) rfl
theorem dX12_lays_110 : decode cX12_lays 110 = .ok (.iaload, 1) := fq1_46 (fl_X12_lays_1 (j := 46) rfl rfl)
theorem dX12_lays_111 : decode cX12_lays 111 = .ok (.if_icmp .ge 7, 3) := fq3_162 (fl_X12_lays_1 (j := 47) rfl rfl) (fl_X12_lays_1 (j := 48) rfl rfl) (fl_X12_lays_1 (j := 49) rfl rfl) (s2p rfl (bl rfl))
theorem dX12_lays_114 : decode cX12_lays 114 = .ok (.iload 5, 2) := fq2_21 (fl_X12_lays_1 (j := 50) rfl rfl) (fl_X12_lays_1 (j := 51) rfl rfl) rfl
theorem dX12_lays_116 : decode cX12_lays 116 = .ok (.istore 4, 2) := fq2_54 (fl_X12_lays_1 (j := 52) rfl rfl) (fl_X12_lays_1 (j := 53) rfl rfl) rfl
theorem dX12_lays_118 : decode cX12_lays 118 = .ok (.iinc 5 1, 3) := fq3_132 (fl_X12_lays_1 (j := 54) rfl rfl) (fl_X12_lays_1 (j := 55) rfl rfl) (fl_X12_lays_1 (j := 56) rfl rfl) rfl (s1p rfl (bl rfl))
theorem dX12_lays_121 : decode cX12_lays 121 = .ok (.goto (-62), 3) := fq3_167 (fl_X12_lays_1 (j := 57) rfl rfl) (fl_X12_lays_1 (j := 58) rfl rfl) (fl_X12_lays_1 (j := 59) rfl rfl) (by decide)
theorem dX12_lays_124 : decode cX12_lays 124 = .ok (.iload 4, 2) := fq2_21 (fl_X12_lays_1 (j := 60) rfl rfl) (fl_X12_lays_1 (j := 61) rfl rfl) rfl
theorem dX12_lays_126 : decode cX12_lays 126 = .ok (.iconst (-1), 1) := fq1_2 (fl_X12_lays_1 (j := 62) rfl rfl)
def fb_X12_lays_2 : List UInt8 := [0x00, 0x04, 0xb1, 0x1d, 0x04, 0x15, 0x04, 0x78, 0x80, 0x3e, 0x03, 0x36, 0x05, 0x15, 0x05, 0x2a, 0xb4, 0x00, 0x07, 0x03, 0x2e, 0xa2, 0x00, 0x74, 0x2a, 0x15, 0x04, 0x2a, 0xb4, 0x00, 0x2f, 0x15, 0x04, 0x2e, 0x15, 0x05, 0xb6, 0x01, 0x18, 0x36, 0x06, 0x1d, 0x15, 0x05, 0x7a, 0x04, 0x7e, 0x04, 0x9f, 0x00, 0x53, 0x15, 0x06, 0x2a, 0xb4, 0x00, 0x2f, 0x15, 0x05, 0x2e, 0xa3, 0x00, 0x47, 0x15]
theorem fl_X12_lays_2 {p j : Nat} {b : UInt8} (e : p = 128 + j) (h : fb_X12_lays_2[j]? = some b) : cX12_lays.data.toList[p]? = some b := fq_l (n := 64) (show (cX12_lays.data.toList.drop 128).take 64 = fb_X12_lays_2 by decide +kernel) e h
theorem dX12_lays_127 : decode cX12_lays 127 = .ok (.if_icmp .ne 4, 3) := fq3_160 (fl_X12_lays_1 (j := 63) rfl rfl) (fl_X12_lays_2 (j := 0) rfl rfl) (fl_X12_lays_2 (j := 1) rfl rfl) (s2p rfl (bl rfl))
theorem dX12_lays_130 : decode cX12_lays 130 = .ok (.return_, 1) := fq1_177 (fl_X12_lays_2 (j := 2) rfl rfl)
theorem dX12_lays_131 : decode cX12_lays 131 = .ok (.iload_n 3, 1) := fq1_29 (fl_X12_lays_2 (j := 3) rfl rfl)
theorem dX12_lays_132 : decode cX12_lays 132 = .ok (.iconst 1, 1) := fq1_4 (fl_X12_lays_2 (j := 4) rfl rfl)
theorem dX12_lays_133 : decode cX12_lays 133 = .ok (.iload 4, 2) := fq2_21 (fl_X12_lays_2 (j := 5) rfl rfl) (fl_X12_lays_2 (j := 6) rfl rfl) rfl
theorem dX12_lays_135 : decode cX12_lays 135 = .ok (.ishl, 1) := fq1_120 (fl_X12_lays_2 (j := 7) rfl rfl)
theorem dX12_lays_136 : decode cX12_lays 136 = .ok (.ior, 1) := fq1_128 (fl_X12_lays_2 (j := 8) rfl rfl)
theorem dX12_lays_137 : decode cX12_lays 137 = .ok (.istore_n 3, 1) := fq1_62 (fl_X12_lays_2 (j := 9) rfl rfl)
theorem dX12_lays_138 : decode cX12_lays 138 = .ok (.iconst 0, 1) := fq1_3 (fl_X12_lays_2 (j := 10) rfl rfl)
theorem dX12_lays_139 : decode cX12_lays 139 = .ok (.istore 5, 2) := fq2_54 (fl_X12_lays_2 (j := 11) rfl rfl) (fl_X12_lays_2 (j := 12) rfl rfl) rfl
theorem dX12_lays_141 : decode cX12_lays 141 = .ok (.iload 5, 2) := fq2_21 (fl_X12_lays_2 (j := 13) rfl rfl) (fl_X12_lays_2 (j := 14) rfl rfl) rfl
theorem dX12_lays_143 : decode cX12_lays 143 = .ok (.aload_n 0, 1) := fq1_42 (fl_X12_lays_2 (j := 15) rfl rfl)
theorem dX12_lays_144 : decode cX12_lays 144 = .ok (.getfield 7, 3) := fq3_180 (fl_X12_lays_2 (j := 16) rfl rfl) (fl_X12_lays_2 (j := 17) rfl rfl) (fl_X12_lays_2 (j := 18) rfl rfl) rfl
theorem dX12_lays_147 : decode cX12_lays 147 = .ok (.iconst 0, 1) := fq1_3 (fl_X12_lays_2 (j := 19) rfl rfl)
theorem dX12_lays_148 : decode cX12_lays 148 = .ok (.iaload, 1) := fq1_46 (fl_X12_lays_2 (j := 20) rfl rfl)
theorem dX12_lays_149 : decode cX12_lays 149 = .ok (.if_icmp .ge 116, 3) := fq3_162 (fl_X12_lays_2 (j := 21) rfl rfl) (fl_X12_lays_2 (j := 22) rfl rfl) (fl_X12_lays_2 (j := 23) rfl rfl) (s2p rfl (bl rfl))
theorem dX12_lays_152 : decode cX12_lays 152 = .ok (.aload_n 0, 1) := fq1_42 (fl_X12_lays_2 (j := 24) rfl rfl)
theorem dX12_lays_153 : decode cX12_lays 153 = .ok (.iload 4, 2) := fq2_21 (fl_X12_lays_2 (j := 25) rfl rfl) (fl_X12_lays_2 (j := 26) rfl rfl) rfl
theorem dX12_lays_155 : decode cX12_lays 155 = .ok (.aload_n 0, 1) := fq1_42 (fl_X12_lays_2 (j := 27) rfl rfl)
theorem dX12_lays_156 : decode cX12_lays 156 = .ok (.getfield 47, 3) := fq3_180 (fl_X12_lays_2 (j := 28) rfl rfl) (fl_X12_lays_2 (j := 29) rfl rfl) (fl_X12_lays_2 (j := 30) rfl rfl) rfl
theorem dX12_lays_159 : decode cX12_lays 159 = .ok (.iload 4, 2) := fq2_21 (fl_X12_lays_2 (j := 31) rfl rfl) (fl_X12_lays_2 (j := 32) rfl rfl) rfl
theorem dX12_lays_161 : decode cX12_lays 161 = .ok (.iaload, 1) := fq1_46 (fl_X12_lays_2 (j := 33) rfl rfl)
theorem dX12_lays_162 : decode cX12_lays 162 = .ok (.iload 5, 2) := fq2_21 (fl_X12_lays_2 (j := 34) rfl rfl) (fl_X12_lays_2 (j := 35) rfl rfl) rfl
theorem dX12_lays_164 : decode cX12_lays 164 = .ok (.invokevirtual 280, 3) := fq3_182 (fl_X12_lays_2 (j := 36) rfl rfl) (fl_X12_lays_2 (j := 37) rfl rfl) (fl_X12_lays_2 (j := 38) rfl rfl) rfl
theorem dX12_lays_167 : decode cX12_lays 167 = .ok (.istore 6, 2) := fq2_54 (fl_X12_lays_2 (j := 39) rfl rfl) (fl_X12_lays_2 (j := 40) rfl rfl) rfl
theorem dX12_lays_169 : decode cX12_lays 169 = .ok (.iload_n 3, 1) := fq1_29 (fl_X12_lays_2 (j := 41) rfl rfl)
theorem dX12_lays_170 : decode cX12_lays 170 = .ok (.iload 5, 2) := fq2_21 (fl_X12_lays_2 (j := 42) rfl rfl) (fl_X12_lays_2 (j := 43) rfl rfl) rfl
theorem dX12_lays_172 : decode cX12_lays 172 = .ok (.ishr, 1) := fq1_122 (fl_X12_lays_2 (j := 44) rfl rfl)
theorem dX12_lays_173 : decode cX12_lays 173 = .ok (.iconst 1, 1) := fq1_4 (fl_X12_lays_2 (j := 45) rfl rfl)
theorem dX12_lays_174 : decode cX12_lays 174 = .ok (.iand, 1) := fq1_126 (fl_X12_lays_2 (j := 46) rfl rfl)
theorem dX12_lays_175 : decode cX12_lays 175 = .ok (.iconst 1, 1) := fq1_4 (fl_X12_lays_2 (j := 47) rfl rfl)
theorem dX12_lays_176 : decode cX12_lays 176 = .ok (.if_icmp .eq 83, 3) := fq3_159 (fl_X12_lays_2 (j := 48) rfl rfl) (fl_X12_lays_2 (j := 49) rfl rfl) (fl_X12_lays_2 (j := 50) rfl rfl) (s2p rfl (bl rfl))
theorem dX12_lays_179 : decode cX12_lays 179 = .ok (.iload 6, 2) := fq2_21 (fl_X12_lays_2 (j := 51) rfl rfl) (fl_X12_lays_2 (j := 52) rfl rfl) rfl
theorem dX12_lays_181 : decode cX12_lays 181 = .ok (.aload_n 0, 1) := fq1_42 (fl_X12_lays_2 (j := 53) rfl rfl)
theorem dX12_lays_182 : decode cX12_lays 182 = .ok (.getfield 47, 3) := fq3_180 (fl_X12_lays_2 (j := 54) rfl rfl) (fl_X12_lays_2 (j := 55) rfl rfl) (fl_X12_lays_2 (j := 56) rfl rfl) rfl
theorem dX12_lays_185 : decode cX12_lays 185 = .ok (.iload 5, 2) := fq2_21 (fl_X12_lays_2 (j := 57) rfl rfl) (fl_X12_lays_2 (j := 58) rfl rfl) rfl
theorem dX12_lays_187 : decode cX12_lays 187 = .ok (.iaload, 1) := fq1_46 (fl_X12_lays_2 (j := 59) rfl rfl)
theorem dX12_lays_188 : decode cX12_lays 188 = .ok (.if_icmp .gt 71, 3) := fq3_163 (fl_X12_lays_2 (j := 60) rfl rfl) (fl_X12_lays_2 (j := 61) rfl rfl) (fl_X12_lays_2 (j := 62) rfl rfl) (s2p rfl (bl rfl))
def fb_X12_lays_3 : List UInt8 := [0x06, 0x12, 0x58, 0x9f, 0x00, 0x40, 0x15, 0x06, 0x2a, 0xb4, 0x00, 0x2f, 0x15, 0x05, 0x2e, 0xa0, 0x00, 0x12, 0x15, 0x04, 0x2a, 0xb4, 0x00, 0x32, 0x15, 0x05, 0x2e, 0xa4, 0x00, 0x06, 0xa7, 0x00, 0x25, 0x2a, 0xb4, 0x00, 0x2f, 0x15, 0x05, 0x15, 0x06, 0x4f, 0x2a, 0xb4, 0x00, 0x32, 0x15, 0x05, 0x15, 0x04, 0x4f, 0x2a, 0xb4, 0x00, 0x35, 0x15, 0x05, 0x2a, 0xb4, 0x00, 0x35, 0x15, 0x04, 0x2e]
theorem fl_X12_lays_3 {p j : Nat} {b : UInt8} (e : p = 192 + j) (h : fb_X12_lays_3[j]? = some b) : cX12_lays.data.toList[p]? = some b := fq_l (n := 64) (show (cX12_lays.data.toList.drop 192).take 64 = fb_X12_lays_3 by decide +kernel) e h
theorem dX12_lays_191 : decode cX12_lays 191 = .ok (.iload 6, 2) := fq2_21 (fl_X12_lays_2 (j := 63) rfl rfl) (fl_X12_lays_3 (j := 0) rfl rfl) rfl
theorem dX12_lays_193 : decode cX12_lays 193 = .ok (.ldc 88, 2) := fq2_18 (fl_X12_lays_3 (j := 1) rfl rfl) (fl_X12_lays_3 (j := 2) rfl rfl) rfl
theorem dX12_lays_195 : decode cX12_lays 195 = .ok (.if_icmp .eq 64, 3) := fq3_159 (fl_X12_lays_3 (j := 3) rfl rfl) (fl_X12_lays_3 (j := 4) rfl rfl) (fl_X12_lays_3 (j := 5) rfl rfl) (s2p rfl (bl rfl))
theorem dX12_lays_198 : decode cX12_lays 198 = .ok (.iload 6, 2) := fq2_21 (fl_X12_lays_3 (j := 6) rfl rfl) (fl_X12_lays_3 (j := 7) rfl rfl) rfl
theorem dX12_lays_200 : decode cX12_lays 200 = .ok (.aload_n 0, 1) := fq1_42 (fl_X12_lays_3 (j := 8) rfl rfl)
theorem dX12_lays_201 : decode cX12_lays 201 = .ok (.getfield 47, 3) := fq3_180 (fl_X12_lays_3 (j := 9) rfl rfl) (fl_X12_lays_3 (j := 10) rfl rfl) (fl_X12_lays_3 (j := 11) rfl rfl) rfl
theorem dX12_lays_204 : decode cX12_lays 204 = .ok (.iload 5, 2) := fq2_21 (fl_X12_lays_3 (j := 12) rfl rfl) (fl_X12_lays_3 (j := 13) rfl rfl) rfl
theorem dX12_lays_206 : decode cX12_lays 206 = .ok (.iaload, 1) := fq1_46 (fl_X12_lays_3 (j := 14) rfl rfl)
theorem dX12_lays_207 : decode cX12_lays 207 = .ok (.if_icmp .ne 18, 3) := fq3_160 (fl_X12_lays_3 (j := 15) rfl rfl) (fl_X12_lays_3 (j := 16) rfl rfl) (fl_X12_lays_3 (j := 17) rfl rfl) (s2p rfl (bl rfl))
theorem dX12_lays_210 : decode cX12_lays 210 = .ok (.iload 4, 2) := fq2_21 (fl_X12_lays_3 (j := 18) rfl rfl) (fl_X12_lays_3 (j := 19) rfl rfl) rfl
theorem dX12_lays_212 : decode cX12_lays 212 = .ok (.aload_n 0, 1) := fq1_42 (fl_X12_lays_3 (j := 20) rfl rfl)
theorem dX12_lays_213 : decode cX12_lays 213 = .ok (.getfield 50, 3) := fq3_180 (fl_X12_lays_3 (j := 21) rfl rfl) (fl_X12_lays_3 (j := 22) rfl rfl) (fl_X12_lays_3 (j := 23) rfl rfl) rfl
theorem dX12_lays_216 : decode cX12_lays 216 = .ok (.iload 5, 2) := fq2_21 (fl_X12_lays_3 (j := 24) rfl rfl) (fl_X12_lays_3 (j := 25) rfl rfl) rfl
theorem dX12_lays_218 : decode cX12_lays 218 = .ok (.iaload, 1) := fq1_46 (fl_X12_lays_3 (j := 26) rfl rfl)
theorem dX12_lays_219 : decode cX12_lays 219 = .ok (.if_icmp .le 6, 3) := fq3_164 (fl_X12_lays_3 (j := 27) rfl rfl) (fl_X12_lays_3 (j := 28) rfl rfl) (fl_X12_lays_3 (j := 29) rfl rfl) (s2p rfl (bl rfl))
theorem dX12_lays_222 : decode cX12_lays 222 = .ok (.goto 37, 3) := fq3_167 (fl_X12_lays_3 (j := 30) rfl rfl) (fl_X12_lays_3 (j := 31) rfl rfl) (fl_X12_lays_3 (j := 32) rfl rfl) (s2p rfl (bl rfl))
theorem dX12_lays_225 : decode cX12_lays 225 = .ok (.aload_n 0, 1) := fq1_42 (fl_X12_lays_3 (j := 33) rfl rfl)
theorem dX12_lays_226 : decode cX12_lays 226 = .ok (.getfield 47, 3) := fq3_180 (fl_X12_lays_3 (j := 34) rfl rfl) (fl_X12_lays_3 (j := 35) rfl rfl) (fl_X12_lays_3 (j := 36) rfl rfl) rfl
theorem dX12_lays_229 : decode cX12_lays 229 = .ok (.iload 5, 2) := fq2_21 (fl_X12_lays_3 (j := 37) rfl rfl) (fl_X12_lays_3 (j := 38) rfl rfl) rfl
theorem dX12_lays_231 : decode cX12_lays 231 = .ok (.iload 6, 2) := fq2_21 (fl_X12_lays_3 (j := 39) rfl rfl) (fl_X12_lays_3 (j := 40) rfl rfl) rfl
theorem dX12_lays_233 : decode cX12_lays 233 = .ok (.iastore, 1) := fq1_79 (fl_X12_lays_3 (j := 41) rfl rfl)
theorem dX12_lays_234 : decode cX12_lays 234 = .ok (.aload_n 0, 1) := fq1_42 (fl_X12_lays_3 (j := 42) rfl rfl)
theorem dX12_lays_235 : decode cX12_lays 235 = .ok (.getfield 50, 3) := fq3_180 (fl_X12_lays_3 (j := 43) rfl rfl) (fl_X12_lays_3 (j := 44) rfl rfl) (fl_X12_lays_3 (j := 45) rfl rfl) rfl
theorem dX12_lays_238 : decode cX12_lays 238 = .ok (.iload 5, 2) := fq2_21 (fl_X12_lays_3 (j := 46) rfl rfl) (fl_X12_lays_3 (j := 47) rfl rfl) rfl
theorem dX12_lays_240 : decode cX12_lays 240 = .ok (.iload 4, 2) := fq2_21 (fl_X12_lays_3 (j := 48) rfl rfl) (fl_X12_lays_3 (j := 49) rfl rfl) rfl
theorem dX12_lays_242 : decode cX12_lays 242 = .ok (.iastore, 1) := fq1_79 (fl_X12_lays_3 (j := 50) rfl rfl)
theorem dX12_lays_243 : decode cX12_lays 243 = .ok (.aload_n 0, 1) := fq1_42 (fl_X12_lays_3 (j := 51) rfl rfl)
theorem dX12_lays_244 : decode cX12_lays 244 = .ok (.getfield 53, 3) := fq3_180 (fl_X12_lays_3 (j := 52) rfl rfl) (fl_X12_lays_3 (j := 53) rfl rfl) (fl_X12_lays_3 (j := 54) rfl rfl) rfl
theorem dX12_lays_247 : decode cX12_lays 247 = .ok (.iload 5, 2) := fq2_21 (fl_X12_lays_3 (j := 55) rfl rfl) (fl_X12_lays_3 (j := 56) rfl rfl) rfl
theorem dX12_lays_249 : decode cX12_lays 249 = .ok (.aload_n 0, 1) := fq1_42 (fl_X12_lays_3 (j := 57) rfl rfl)
theorem dX12_lays_250 : decode cX12_lays 250 = .ok (.getfield 53, 3) := fq3_180 (fl_X12_lays_3 (j := 58) rfl rfl) (fl_X12_lays_3 (j := 59) rfl rfl) (fl_X12_lays_3 (j := 60) rfl rfl) rfl
theorem dX12_lays_253 : decode cX12_lays 253 = .ok (.iload 4, 2) := fq2_21 (fl_X12_lays_3 (j := 61) rfl rfl) (fl_X12_lays_3 (j := 62) rfl rfl) rfl
theorem dX12_lays_255 : decode cX12_lays 255 = .ok (.iaload, 1) := fq1_46 (fl_X12_lays_3 (j := 63) rfl rfl)
def fb_X12_lays_4 : List UInt8 := [0x04, 0x60, 0x4f, 0x84, 0x05, 0x01, 0xa7, 0xff, 0x87, 0xa7, 0xff, 0x2c]
theorem fl_X12_lays_4 {p j : Nat} {b : UInt8} (e : p = 256 + j) (h : fb_X12_lays_4[j]? = some b) : cX12_lays.data.toList[p]? = some b := fq_l (n := 64) (show (cX12_lays.data.toList.drop 256).take 64 = fb_X12_lays_4 by decide +kernel) e h
theorem dX12_lays_256 : decode cX12_lays 256 = .ok (.iconst 1, 1) := fq1_4 (fl_X12_lays_4 (j := 0) rfl rfl)
theorem dX12_lays_257 : decode cX12_lays 257 = .ok (.iadd, 1) := fq1_96 (fl_X12_lays_4 (j := 1) rfl rfl)
theorem dX12_lays_258 : decode cX12_lays 258 = .ok (.iastore, 1) := fq1_79 (fl_X12_lays_4 (j := 2) rfl rfl)
theorem dX12_lays_259 : decode cX12_lays 259 = .ok (.iinc 5 1, 3) := fq3_132 (fl_X12_lays_4 (j := 3) rfl rfl) (fl_X12_lays_4 (j := 4) rfl rfl) (fl_X12_lays_4 (j := 5) rfl rfl) rfl (s1p rfl (bl rfl))
theorem dX12_lays_262 : decode cX12_lays 262 = .ok (.goto (-121), 3) := fq3_167 (fl_X12_lays_4 (j := 6) rfl rfl) (fl_X12_lays_4 (j := 7) rfl rfl) (fl_X12_lays_4 (j := 8) rfl rfl) (by decide)
theorem dX12_lays_265 : decode cX12_lays 265 = .ok (.goto (-212), 3) := fq3_167 (fl_X12_lays_4 (j := 9) rfl rfl) (fl_X12_lays_4 (j := 10) rfl rfl) (fl_X12_lays_4 (j := 11) rfl rfl) (by decide)
