section
theorem qk_X12_407 : Cond.constantLong RX12 407 (10) ∈ gw := tbt (tb9 (List.mem_of_getElem? (i := 34) rfl)) rfl
theorem qc_X12_bits : Cond.code yX12_bits cX12_bits 3 (some .int) ∈ gw := tbt (tb9 (List.mem_of_getElem? (i := 37) rfl)) rfl
theorem qt_yX12_bits : Cond.static yX12_bits ∈ gw := tbt (tb9 (List.mem_of_getElem? (i := 36) rfl)) rfl
theorem ci_X12_bits : CIs yX12_bits cX12_bits 3 (some .int) 1 := ⟨qc_X12_bits, qt_yX12_bits, qz_X12, by decide +kernel⟩
theorem qm_X12_409 : Cond.methodLink RX12 409 yX12_bits ∈ gw := tbt (tb9 (List.mem_of_getElem? (i := 35) rfl)) rfl
def fb_X12_mean_0 : List UInt8 := [0x1b, 0x85, 0x09, 0x14, 0x01, 0x8f, 0xb8, 0x01, 0x27, 0x99, 0x00, 0x1a, 0x1c, 0x85, 0x0a, 0x14, 0x01, 0x97, 0xb8, 0x01, 0x27, 0x99, 0x00, 0x0e, 0x1b, 0x1c, 0x60, 0x04, 0x64, 0x11, 0x27, 0x0f, 0xa4, 0x00, 0x09, 0x2a, 0x04, 0xb6, 0x00, 0x59, 0xac, 0x2a, 0xb4, 0x00, 0x07, 0x08, 0x2e, 0x02, 0xa0, 0x00, 0x0a, 0x2a, 0x10, 0x06, 0xb6, 0x00, 0x59, 0xac, 0x03, 0x3e, 0x1d, 0x11, 0x02, 0x08]
theorem fl_X12_mean_0 {p j : Nat} {b : UInt8} (e : p = 0 + j) (h : fb_X12_mean_0[j]? = some b) : cX12_mean.data.toList[p]? = some b := fq_l (n := 64) (show (cX12_mean.data.toList.drop 0).take 64 = fb_X12_mean_0 by decide +kernel) e h
theorem dX12_mean_0 : decode cX12_mean 0 = .ok (.iload_n 1, 1) := fq1_27 (fl_X12_mean_0 (j := 0) rfl rfl)
theorem dX12_mean_1 : decode cX12_mean 1 = .ok (.i2l, 1) := fq1_133 (fl_X12_mean_0 (j := 1) rfl rfl)
theorem dX12_mean_2 : decode cX12_mean 2 = .ok (.lconst 0, 1) := fq1_9 (fl_X12_mean_0 (j := 2) rfl rfl)
theorem dX12_mean_3 : decode cX12_mean 3 = .ok (.ldc2_w 399, 3) := fq3_20 (fl_X12_mean_0 (j := 3) rfl rfl) (fl_X12_mean_0 (j := 4) rfl rfl) (fl_X12_mean_0 (j := 5) rfl rfl) rfl
theorem dX12_mean_6 : decode cX12_mean 6 = .ok (.invokestatic 295, 3) := fq3_184 (fl_X12_mean_0 (j := 6) rfl rfl) (fl_X12_mean_0 (j := 7) rfl rfl) (fl_X12_mean_0 (j := 8) rfl rfl) rfl
theorem dX12_mean_9 : decode cX12_mean 9 = .ok (.ifCond .eq 26, 3) := fq3_153 (fl_X12_mean_0 (j := 9) rfl rfl) (fl_X12_mean_0 (j := 10) rfl rfl) (fl_X12_mean_0 (j := 11) rfl rfl) (s2p rfl (bl rfl))
theorem dX12_mean_12 : decode cX12_mean 12 = .ok (.iload_n 2, 1) := fq1_28 (fl_X12_mean_0 (j := 12) rfl rfl)
theorem dX12_mean_13 : decode cX12_mean 13 = .ok (.i2l, 1) := fq1_133 (fl_X12_mean_0 (j := 13) rfl rfl)
theorem dX12_mean_14 : decode cX12_mean 14 = .ok (.lconst 1, 1) := fq1_10 (fl_X12_mean_0 (j := 14) rfl rfl)
theorem dX12_mean_15 : decode cX12_mean 15 = .ok (.ldc2_w 407, 3) := fq3_20 (fl_X12_mean_0 (j := 15) rfl rfl) (fl_X12_mean_0 (j := 16) rfl rfl) (fl_X12_mean_0 (j := 17) rfl rfl) rfl
theorem dX12_mean_18 : decode cX12_mean 18 = .ok (.invokestatic 295, 3) := fq3_184 (fl_X12_mean_0 (j := 18) rfl rfl) (fl_X12_mean_0 (j := 19) rfl rfl) (fl_X12_mean_0 (j := 20) rfl rfl) rfl
theorem dX12_mean_21 : decode cX12_mean 21 = .ok (.ifCond .eq 14, 3) := fq3_153 (fl_X12_mean_0 (j := 21) rfl rfl) (fl_X12_mean_0 (j := 22) rfl rfl) (fl_X12_mean_0 (j := 23) rfl rfl) (s2p rfl (bl rfl))
theorem dX12_mean_24 : decode cX12_mean 24 = .ok (.iload_n 1, 1) := fq1_27 (fl_X12_mean_0 (j := 24) rfl rfl)
theorem dX12_mean_25 : decode cX12_mean 25 = .ok (.iload_n 2, 1) := fq1_28 (fl_X12_mean_0 (j := 25) rfl rfl)
theorem dX12_mean_26 : decode cX12_mean 26 = .ok (.iadd, 1) := fq1_96 (fl_X12_mean_0 (j := 26) rfl rfl)
theorem dX12_mean_27 : decode cX12_mean 27 = .ok (.iconst 1, 1) := fq1_4 (fl_X12_mean_0 (j := 27) rfl rfl)
theorem dX12_mean_28 : decode cX12_mean 28 = .ok (.isub, 1) := fq1_100 (fl_X12_mean_0 (j := 28) rfl rfl)
theorem dX12_mean_29 : decode cX12_mean 29 = .ok (.sipush 9999, 3) := fq3_17 (fl_X12_mean_0 (j := 29) rfl rfl) (fl_X12_mean_0 (j := 30) rfl rfl) (fl_X12_mean_0 (j := 31) rfl rfl) (s2p rfl (bl rfl))
theorem dX12_mean_32 : decode cX12_mean 32 = .ok (.if_icmp .le 9, 3) := fq3_164 (fl_X12_mean_0 (j := 32) rfl rfl) (fl_X12_mean_0 (j := 33) rfl rfl) (fl_X12_mean_0 (j := 34) rfl rfl) (s2p rfl (bl rfl))
theorem dX12_mean_35 : decode cX12_mean 35 = .ok (.aload_n 0, 1) := fq1_42 (fl_X12_mean_0 (j := 35) rfl rfl)
theorem dX12_mean_36 : decode cX12_mean 36 = .ok (.iconst 1, 1) := fq1_4 (fl_X12_mean_0 (j := 36) rfl rfl)
theorem dX12_mean_37 : decode cX12_mean 37 = .ok (.invokevirtual 89, 3) := fq3_182 (fl_X12_mean_0 (j := 37) rfl rfl) (fl_X12_mean_0 (j := 38) rfl rfl) (fl_X12_mean_0 (j := 39) rfl rfl) rfl
theorem dX12_mean_40 : decode cX12_mean 40 = .ok (.ireturn, 1) := fq1_172 (fl_X12_mean_0 (j := 40) rfl rfl)
theorem dX12_mean_41 : decode cX12_mean 41 = .ok (.aload_n 0, 1) := fq1_42 (fl_X12_mean_0 (j := 41) rfl rfl)
theorem dX12_mean_42 : decode cX12_mean 42 = .ok (.getfield 7, 3) := fq3_180 (fl_X12_mean_0 (j := 42) rfl rfl) (fl_X12_mean_0 (j := 43) rfl rfl) (fl_X12_mean_0 (j := 44) rfl rfl) rfl
theorem dX12_mean_45 : decode cX12_mean 45 = .ok (.iconst 5, 1) := fq1_8 (fl_X12_mean_0 (j := 45) rfl rfl)
theorem dX12_mean_46 : decode cX12_mean 46 = .ok (.iaload, 1) := fq1_46 (fl_X12_mean_0 (j := 46) rfl rfl)
theorem dX12_mean_47 : decode cX12_mean 47 = .ok (.iconst (-1), 1) := fq1_2 (fl_X12_mean_0 (j := 47) rfl rfl)
theorem dX12_mean_48 : decode cX12_mean 48 = .ok (.if_icmp .ne 10, 3) := fq3_160 (fl_X12_mean_0 (j := 48) rfl rfl) (fl_X12_mean_0 (j := 49) rfl rfl) (fl_X12_mean_0 (j := 50) rfl rfl) (s2p rfl (bl rfl))
theorem dX12_mean_51 : decode cX12_mean 51 = .ok (.aload_n 0, 1) := fq1_42 (fl_X12_mean_0 (j := 51) rfl rfl)
theorem dX12_mean_52 : decode cX12_mean 52 = .ok (.bipush 6, 2) := fq2_16 (fl_X12_mean_0 (j := 52) rfl rfl) (fl_X12_mean_0 (j := 53) rfl rfl) (s1p rfl (bl rfl))
theorem dX12_mean_54 : decode cX12_mean 54 = .ok (.invokevirtual 89, 3) := fq3_182 (fl_X12_mean_0 (j := 54) rfl rfl) (fl_X12_mean_0 (j := 55) rfl rfl) (fl_X12_mean_0 (j := 56) rfl rfl) rfl
theorem dX12_mean_57 : decode cX12_mean 57 = .ok (.ireturn, 1) := fq1_172 (fl_X12_mean_0 (j := 57) rfl rfl)
theorem dX12_mean_58 : decode cX12_mean 58 = .ok (.iconst 0, 1) := fq1_3 (fl_X12_mean_0 (j := 58) rfl rfl)
theorem dX12_mean_59 : decode cX12_mean 59 = .ok (.istore_n 3, 1) := fq1_62 (fl_X12_mean_0 (j := 59) rfl rfl)
theorem dX12_mean_60 : decode cX12_mean 60 = .ok (.iload_n 3, 1) := fq1_29 (fl_X12_mean_0 (j := 60) rfl rfl)
theorem dX12_mean_61 : decode cX12_mean 61 = .ok (.sipush 520, 3) := fq3_17 (fl_X12_mean_0 (j := 61) rfl rfl) (fl_X12_mean_0 (j := 62) rfl rfl) (fl_X12_mean_0 (j := 63) rfl rfl) (s2p rfl (bl rfl))
def fb_X12_mean_1 : List UInt8 := [0xa2, 0x00, 0x19, 0x2a, 0xb4, 0x00, 0x07, 0x11, 0x11, 0x62, 0x1d, 0x60, 0x2a, 0xb4, 0x00, 0x07, 0x1d, 0x2e, 0x4f, 0x84, 0x03, 0x01, 0xa7, 0xff, 0xe6, 0x09, 0x42, 0x03, 0x36, 0x05, 0x15, 0x05, 0x1c, 0xa2, 0x00, 0x49, 0x2a, 0x1b, 0x15, 0x05, 0x60, 0xb6, 0x01, 0x91, 0x21, 0x2a, 0xb4, 0x00, 0x07, 0x10, 0x76, 0x2a, 0xb4, 0x00, 0x07, 0x06, 0x2e, 0x60, 0x2e, 0xb8, 0x01, 0x99, 0x85, 0x61]
theorem fl_X12_mean_1 {p j : Nat} {b : UInt8} (e : p = 64 + j) (h : fb_X12_mean_1[j]? = some b) : cX12_mean.data.toList[p]? = some b := fq_l (n := 64) (show (cX12_mean.data.toList.drop 64).take 64 = fb_X12_mean_1 by decide +kernel) e h
theorem dX12_mean_64 : decode cX12_mean 64 = .ok (.if_icmp .ge 25, 3) := fq3_162 (fl_X12_mean_1 (j := 0) rfl rfl) (fl_X12_mean_1 (j := 1) rfl rfl) (fl_X12_mean_1 (j := 2) rfl rfl) (s2p rfl (bl rfl))
theorem dX12_mean_67 : decode cX12_mean 67 = .ok (.aload_n 0, 1) := fq1_42 (fl_X12_mean_1 (j := 3) rfl rfl)
theorem dX12_mean_68 : decode cX12_mean 68 = .ok (.getfield 7, 3) := fq3_180 (fl_X12_mean_1 (j := 4) rfl rfl) (fl_X12_mean_1 (j := 5) rfl rfl) (fl_X12_mean_1 (j := 6) rfl rfl) rfl
theorem dX12_mean_71 : decode cX12_mean 71 = .ok (.sipush 4450, 3) := fq3_17 (fl_X12_mean_1 (j := 7) rfl rfl) (fl_X12_mean_1 (j := 8) rfl rfl) (fl_X12_mean_1 (j := 9) rfl rfl) (s2p rfl (bl rfl))
theorem dX12_mean_74 : decode cX12_mean 74 = .ok (.iload_n 3, 1) := fq1_29 (fl_X12_mean_1 (j := 10) rfl rfl)
theorem dX12_mean_75 : decode cX12_mean 75 = .ok (.iadd, 1) := fq1_96 (fl_X12_mean_1 (j := 11) rfl rfl)
theorem dX12_mean_76 : decode cX12_mean 76 = .ok (.aload_n 0, 1) := fq1_42 (fl_X12_mean_1 (j := 12) rfl rfl)
theorem dX12_mean_77 : decode cX12_mean 77 = .ok (.getfield 7, 3) := fq3_180 (fl_X12_mean_1 (j := 13) rfl rfl) (fl_X12_mean_1 (j := 14) rfl rfl) (fl_X12_mean_1 (j := 15) rfl rfl) rfl
theorem dX12_mean_80 : decode cX12_mean 80 = .ok (.iload_n 3, 1) := fq1_29 (fl_X12_mean_1 (j := 16) rfl rfl)
theorem dX12_mean_81 : decode cX12_mean 81 = .ok (.iaload, 1) := fq1_46 (fl_X12_mean_1 (j := 17) rfl rfl)
theorem dX12_mean_82 : decode cX12_mean 82 = .ok (.iastore, 1) := fq1_79 (fl_X12_mean_1 (j := 18) rfl rfl)
theorem dX12_mean_83 : decode cX12_mean 83 = .ok (.iinc 3 1, 3) := fq3_132 (fl_X12_mean_1 (j := 19) rfl rfl) (fl_X12_mean_1 (j := 20) rfl rfl) (fl_X12_mean_1 (j := 21) rfl rfl) rfl (s1p rfl (bl rfl))
theorem dX12_mean_86 : decode cX12_mean 86 = .ok (.goto (-26), 3) := fq3_167 (fl_X12_mean_1 (j := 22) rfl rfl) (fl_X12_mean_1 (j := 23) rfl rfl) (fl_X12_mean_1 (j := 24) rfl rfl) (by decide)
theorem dX12_mean_89 : decode cX12_mean 89 = .ok (.lconst 0, 1) := fq1_9 (fl_X12_mean_1 (j := 25) rfl rfl)
theorem dX12_mean_90 : decode cX12_mean 90 = .ok (.lstore_n 3, 1) := fq1_66 (fl_X12_mean_1 (j := 26) rfl rfl)
theorem dX12_mean_91 : decode cX12_mean 91 = .ok (.iconst 0, 1) := fq1_3 (fl_X12_mean_1 (j := 27) rfl rfl)
theorem dX12_mean_92 : decode cX12_mean 92 = .ok (.istore 5, 2) := fq2_54 (fl_X12_mean_1 (j := 28) rfl rfl) (fl_X12_mean_1 (j := 29) rfl rfl) rfl
theorem dX12_mean_94 : decode cX12_mean 94 = .ok (.iload 5, 2) := fq2_21 (fl_X12_mean_1 (j := 30) rfl rfl) (fl_X12_mean_1 (j := 31) rfl rfl) rfl
theorem dX12_mean_96 : decode cX12_mean 96 = .ok (.iload_n 2, 1) := fq1_28 (fl_X12_mean_1 (j := 32) rfl rfl)
theorem dX12_mean_97 : decode cX12_mean 97 = .ok (.if_icmp .ge 73, 3) := fq3_162 (fl_X12_mean_1 (j := 33) rfl rfl) (fl_X12_mean_1 (j := 34) rfl rfl) (fl_X12_mean_1 (j := 35) rfl rfl) (s2p rfl (bl rfl))
theorem dX12_mean_100 : decode cX12_mean 100 = .ok (.aload_n 0, 1) := fq1_42 (fl_X12_mean_1 (j := 36) rfl rfl)
theorem dX12_mean_101 : decode cX12_mean 101 = .ok (.iload_n 1, 1) := fq1_27 (fl_X12_mean_1 (j := 37) rfl rfl)
theorem dX12_mean_102 : decode cX12_mean 102 = .ok (.iload 5, 2) := fq2_21 (fl_X12_mean_1 (j := 38) rfl rfl) (fl_X12_mean_1 (j := 39) rfl rfl) rfl
theorem dX12_mean_104 : decode cX12_mean 104 = .ok (.iadd, 1) := fq1_96 (fl_X12_mean_1 (j := 40) rfl rfl)
theorem dX12_mean_105 : decode cX12_mean 105 = .ok (.invokevirtual 401, 3) := fq3_182 (fl_X12_mean_1 (j := 41) rfl rfl) (fl_X12_mean_1 (j := 42) rfl rfl) (fl_X12_mean_1 (j := 43) rfl rfl) rfl
theorem dX12_mean_108 : decode cX12_mean 108 = .ok (.lload_n 3, 1) := fq1_33 (fl_X12_mean_1 (j := 44) rfl rfl)
theorem dX12_mean_109 : decode cX12_mean 109 = .ok (.aload_n 0, 1) := fq1_42 (fl_X12_mean_1 (j := 45) rfl rfl)
theorem dX12_mean_110 : decode cX12_mean 110 = .ok (.getfield 7, 3) := fq3_180 (fl_X12_mean_1 (j := 46) rfl rfl) (fl_X12_mean_1 (j := 47) rfl rfl) (fl_X12_mean_1 (j := 48) rfl rfl) rfl
theorem dX12_mean_113 : decode cX12_mean 113 = .ok (.bipush 118, 2) := fq2_16 (fl_X12_mean_1 (j := 49) rfl rfl) (fl_X12_mean_1 (j := 50) rfl rfl) (s1p rfl (bl rfl))
theorem dX12_mean_115 : decode cX12_mean 115 = .ok (.aload_n 0, 1) := fq1_42 (fl_X12_mean_1 (j := 51) rfl rfl)
theorem dX12_mean_116 : decode cX12_mean 116 = .ok (.getfield 7, 3) := fq3_180 (fl_X12_mean_1 (j := 52) rfl rfl) (fl_X12_mean_1 (j := 53) rfl rfl) (fl_X12_mean_1 (j := 54) rfl rfl) rfl
theorem dX12_mean_119 : decode cX12_mean 119 = .ok (.iconst 3, 1) := fq1_6 (fl_X12_mean_1 (j := 55) rfl rfl)
theorem dX12_mean_120 : decode cX12_mean 120 = .ok (.iaload, 1) := fq1_46 (fl_X12_mean_1 (j := 56) rfl rfl)
theorem dX12_mean_121 : decode cX12_mean 121 = .ok (.iadd, 1) := fq1_96 (fl_X12_mean_1 (j := 57) rfl rfl)
theorem dX12_mean_122 : decode cX12_mean 122 = .ok (.iaload, 1) := fq1_46 (fl_X12_mean_1 (j := 58) rfl rfl)
theorem dX12_mean_123 : decode cX12_mean 123 = .ok (.invokestatic 409, 3) := fq3_184 (fl_X12_mean_1 (j := 59) rfl rfl) (fl_X12_mean_1 (j := 60) rfl rfl) (fl_X12_mean_1 (j := 61) rfl rfl) rfl
theorem dX12_mean_126 : decode cX12_mean 126 = .ok (.i2l, 1) := fq1_133 (fl_X12_mean_1 (j := 62) rfl rfl)
theorem dX12_mean_127 : decode cX12_mean 127 = .ok (.ladd, 1) := fq1_97 (fl_X12_mean_1 (j := 63) rfl rfl)
def fb_X12_mean_2 : List UInt8 := [0x42, 0x03, 0x36, 0x06, 0x15, 0x06, 0x11, 0x02, 0x08, 0xa2, 0x00, 0x1b, 0x2a, 0xb4, 0x00, 0x07, 0x15, 0x06, 0x2a, 0xb4, 0x00, 0x07, 0x11, 0x11, 0x62, 0x15, 0x06, 0x60, 0x2e, 0x4f, 0x84, 0x06, 0x01, 0xa7, 0xff, 0xe3, 0x84, 0x05, 0x01, 0xa7, 0xff, 0xb7, 0x2a, 0x21, 0x1c, 0x85, 0xb6, 0x01, 0x67, 0xac]
theorem fl_X12_mean_2 {p j : Nat} {b : UInt8} (e : p = 128 + j) (h : fb_X12_mean_2[j]? = some b) : cX12_mean.data.toList[p]? = some b := fq_l (n := 64) (show (cX12_mean.data.toList.drop 128).take 64 = fb_X12_mean_2 by decide +kernel) e h
theorem dX12_mean_128 : decode cX12_mean 128 = .ok (.lstore_n 3, 1) := fq1_66 (fl_X12_mean_2 (j := 0) rfl rfl)
theorem dX12_mean_129 : decode cX12_mean 129 = .ok (.iconst 0, 1) := fq1_3 (fl_X12_mean_2 (j := 1) rfl rfl)
theorem dX12_mean_130 : decode cX12_mean 130 = .ok (.istore 6, 2) := fq2_54 (fl_X12_mean_2 (j := 2) rfl rfl) (fl_X12_mean_2 (j := 3) rfl rfl) rfl
theorem dX12_mean_132 : decode cX12_mean 132 = .ok (.iload 6, 2) := fq2_21 (fl_X12_mean_2 (j := 4) rfl rfl) (fl_X12_mean_2 (j := 5) rfl rfl) rfl
theorem dX12_mean_134 : decode cX12_mean 134 = .ok (.sipush 520, 3) := fq3_17 (fl_X12_mean_2 (j := 6) rfl rfl) (fl_X12_mean_2 (j := 7) rfl rfl) (fl_X12_mean_2 (j := 8) rfl rfl) (s2p rfl (bl rfl))
theorem dX12_mean_137 : decode cX12_mean 137 = .ok (.if_icmp .ge 27, 3) := fq3_162 (fl_X12_mean_2 (j := 9) rfl rfl) (fl_X12_mean_2 (j := 10) rfl rfl) (fl_X12_mean_2 (j := 11) rfl rfl) (s2p rfl (bl rfl))
theorem dX12_mean_140 : decode cX12_mean 140 = .ok (.aload_n 0, 1) := fq1_42 (fl_X12_mean_2 (j := 12) rfl rfl)
theorem dX12_mean_141 : decode cX12_mean 141 = .ok (.getfield 7, 3) := fq3_180 (fl_X12_mean_2 (j := 13) rfl rfl) (fl_X12_mean_2 (j := 14) rfl rfl) (fl_X12_mean_2 (j := 15) rfl rfl) rfl
theorem dX12_mean_144 : decode cX12_mean 144 = .ok (.iload 6, 2) := fq2_21 (fl_X12_mean_2 (j := 16) rfl rfl) (fl_X12_mean_2 (j := 17) rfl rfl) rfl
theorem dX12_mean_146 : decode cX12_mean 146 = .ok (.aload_n 0, 1) := fq1_42 (fl_X12_mean_2 (j := 18) rfl rfl)
theorem dX12_mean_147 : decode cX12_mean 147 = .ok (.getfield 7, 3) := fq3_180 (fl_X12_mean_2 (j := 19) rfl rfl) (fl_X12_mean_2 (j := 20) rfl rfl) (fl_X12_mean_2 (j := 21) rfl rfl) rfl
theorem dX12_mean_150 : decode cX12_mean 150 = .ok (.sipush 4450, 3) := fq3_17 (fl_X12_mean_2 (j := 22) rfl rfl) (fl_X12_mean_2 (j := 23) rfl rfl) (fl_X12_mean_2 (j := 24) rfl rfl) (s2p rfl (bl rfl))
theorem dX12_mean_153 : decode cX12_mean 153 = .ok (.iload 6, 2) := fq2_21 (fl_X12_mean_2 (j := 25) rfl rfl) (fl_X12_mean_2 (j := 26) rfl rfl) rfl
theorem dX12_mean_155 : decode cX12_mean 155 = .ok (.iadd, 1) := fq1_96 (fl_X12_mean_2 (j := 27) rfl rfl)
theorem dX12_mean_156 : decode cX12_mean 156 = .ok (.iaload, 1) := fq1_46 (fl_X12_mean_2 (j := 28) rfl rfl)
theorem dX12_mean_157 : decode cX12_mean 157 = .ok (.iastore, 1) := fq1_79 (fl_X12_mean_2 (j := 29) rfl rfl)
theorem dX12_mean_158 : decode cX12_mean 158 = .ok (.iinc 6 1, 3) := fq3_132 (fl_X12_mean_2 (j := 30) rfl rfl) (fl_X12_mean_2 (j := 31) rfl rfl) (fl_X12_mean_2 (j := 32) rfl rfl) rfl (s1p rfl (bl rfl))
theorem dX12_mean_161 : decode cX12_mean 161 = .ok (.goto (-29), 3) := fq3_167 (fl_X12_mean_2 (j := 33) rfl rfl) (fl_X12_mean_2 (j := 34) rfl rfl) (fl_X12_mean_2 (j := 35) rfl rfl) (by decide)
theorem dX12_mean_164 : decode cX12_mean 164 = .ok (.iinc 5 1, 3) := fq3_132 (fl_X12_mean_2 (j := 36) rfl rfl) (fl_X12_mean_2 (j := 37) rfl rfl) (fl_X12_mean_2 (j := 38) rfl rfl) rfl (s1p rfl (bl rfl))
theorem dX12_mean_167 : decode cX12_mean 167 = .ok (.goto (-73), 3) := fq3_167 (fl_X12_mean_2 (j := 39) rfl rfl) (fl_X12_mean_2 (j := 40) rfl rfl) (fl_X12_mean_2 (j := 41) rfl rfl) (by decide)
theorem dX12_mean_170 : decode cX12_mean 170 = .ok (.aload_n 0, 1) := fq1_42 (fl_X12_mean_2 (j := 42) rfl rfl)
theorem dX12_mean_171 : decode cX12_mean 171 = .ok (.lload_n 3, 1) := fq1_33 (fl_X12_mean_2 (j := 43) rfl rfl)
theorem dX12_mean_172 : decode cX12_mean 172 = .ok (.iload_n 2, 1) := fq1_28 (fl_X12_mean_2 (j := 44) rfl rfl)
theorem dX12_mean_173 : decode cX12_mean 173 = .ok (.i2l, 1) := fq1_133 (fl_X12_mean_2 (j := 45) rfl rfl)
theorem dX12_mean_174 : decode cX12_mean 174 = .ok (.invokevirtual 359, 3) := fq3_182 (fl_X12_mean_2 (j := 46) rfl rfl) (fl_X12_mean_2 (j := 47) rfl rfl) (fl_X12_mean_2 (j := 48) rfl rfl) rfl
theorem dX12_mean_177 : decode cX12_mean 177 = .ok (.ireturn, 1) := fq1_172 (fl_X12_mean_2 (j := 49) rfl rfl)
end

section
theorem M0.back {f h : Nat → Int32} (hf : M0 f) (hg : ∀ e : Int, 0 ≤ e → e < 520 → gz h e = gz f e) (h2 : ∀ e : Int, 520 ≤ e → e < 4450 → gz h e = gz f e) : M0 h :=
  M0.like (fun e a b c => by
    rcases b with b | b
    · exact hg e a (by omega)
    · exact h2 e b (by omega)) hf
end

section
theorem qf_X12_13 : Cond.fieldLink RX12 13 "SlowWorldsModel" "names" "[J" ∈ gw := tbt (tb6 (List.mem_of_getElem? (i := 45) rfl)) rfl
theorem qf_X12_412 : Cond.fieldLink RX12 412 "SlowWorldsModel" "marks" "I" ∈ gw := tbt (tb6 (List.mem_of_getElem? (i := 79) rfl)) rfl
theorem qc_X12_copies : Cond.code yX12_copies cX12_copies 4 none ∈ gw := tbt (tb9 (List.mem_of_getElem? (i := 45) rfl)) rfl
theorem qi_yX12_copies : Cond.instanceMethod yX12_copies ∈ gw := tbt (tb9 (List.mem_of_getElem? (i := 44) rfl)) rfl
theorem qs_X12_copies : Cond.selects (yX12_copies).cls yX12_copies yX12_copies ∈ gw := tb0 (List.mem_of_getElem? (i := 104) rfl) rfl
theorem ci_X12_copies : CIv yX12_copies cX12_copies 4 none 2 := ⟨qc_X12_copies, qi_yX12_copies, qs_X12_copies, qz_X12, by decide +kernel⟩
theorem qm_X12_415 : Cond.methodLink RX12 415 yX12_copies ∈ gw := tbt (tb9 (List.mem_of_getElem? (i := 42) rfl)) rfl
def fb_X12_back_0 : List UInt8 := [0x2a, 0xb4, 0x01, 0x9c, 0x9a, 0x00, 0x0a, 0x2a, 0x10, 0x06, 0xb6, 0x00, 0x51, 0xac, 0x2a, 0x2a, 0xb4, 0x01, 0x9c, 0x03, 0xb6, 0x01, 0x9f, 0x2a, 0x59, 0xb4, 0x01, 0x9c, 0x04, 0x64, 0xb5, 0x01, 0x9c, 0x2a, 0x2a, 0xb4, 0x01, 0x9c, 0xb6, 0x00, 0x55, 0xac]
theorem fl_X12_back_0 {p j : Nat} {b : UInt8} (e : p = 0 + j) (h : fb_X12_back_0[j]? = some b) : cX12_back.data.toList[p]? = some b := fq_l (n := 64) (show (cX12_back.data.toList.drop 0).take 64 = fb_X12_back_0 by decide +kernel) e h
theorem dX12_back_0 : decode cX12_back 0 = .ok (.aload_n 0, 1) := fq1_42 (fl_X12_back_0 (j := 0) rfl rfl)
theorem dX12_back_1 : decode cX12_back 1 = .ok (.getfield 412, 3) := fq3_180 (fl_X12_back_0 (j := 1) rfl rfl) (fl_X12_back_0 (j := 2) rfl rfl) (fl_X12_back_0 (j := 3) rfl rfl) rfl
theorem dX12_back_4 : decode cX12_back 4 = .ok (.ifCond .ne 10, 3) := fq3_154 (fl_X12_back_0 (j := 4) rfl rfl) (fl_X12_back_0 (j := 5) rfl rfl) (fl_X12_back_0 (j := 6) rfl rfl) (s2p rfl (bl rfl))
theorem dX12_back_7 : decode cX12_back 7 = .ok (.aload_n 0, 1) := fq1_42 (fl_X12_back_0 (j := 7) rfl rfl)
theorem dX12_back_8 : decode cX12_back 8 = .ok (.bipush 6, 2) := fq2_16 (fl_X12_back_0 (j := 8) rfl rfl) (fl_X12_back_0 (j := 9) rfl rfl) (s1p rfl (bl rfl))
theorem dX12_back_10 : decode cX12_back 10 = .ok (.invokevirtual 81, 3) := fq3_182 (fl_X12_back_0 (j := 10) rfl rfl) (fl_X12_back_0 (j := 11) rfl rfl) (fl_X12_back_0 (j := 12) rfl rfl) rfl
theorem dX12_back_13 : decode cX12_back 13 = .ok (.ireturn, 1) := fq1_172 (fl_X12_back_0 (j := 13) rfl rfl)
theorem dX12_back_14 : decode cX12_back 14 = .ok (.aload_n 0, 1) := fq1_42 (fl_X12_back_0 (j := 14) rfl rfl)
theorem dX12_back_15 : decode cX12_back 15 = .ok (.aload_n 0, 1) := fq1_42 (fl_X12_back_0 (j := 15) rfl rfl)
theorem dX12_back_16 : decode cX12_back 16 = .ok (.getfield 412, 3) := fq3_180 (fl_X12_back_0 (j := 16) rfl rfl) (fl_X12_back_0 (j := 17) rfl rfl) (fl_X12_back_0 (j := 18) rfl rfl) rfl
theorem dX12_back_19 : decode cX12_back 19 = .ok (.iconst 0, 1) := fq1_3 (fl_X12_back_0 (j := 19) rfl rfl)
theorem dX12_back_20 : decode cX12_back 20 = .ok (.invokevirtual 415, 3) := fq3_182 (fl_X12_back_0 (j := 20) rfl rfl) (fl_X12_back_0 (j := 21) rfl rfl) (fl_X12_back_0 (j := 22) rfl rfl) rfl
theorem dX12_back_23 : decode cX12_back 23 = .ok (.aload_n 0, 1) := fq1_42 (fl_X12_back_0 (j := 23) rfl rfl)
theorem dX12_back_24 : decode cX12_back 24 = .ok (.dup, 1) := fq1_89 (fl_X12_back_0 (j := 24) rfl rfl)
theorem dX12_back_25 : decode cX12_back 25 = .ok (.getfield 412, 3) := fq3_180 (fl_X12_back_0 (j := 25) rfl rfl) (fl_X12_back_0 (j := 26) rfl rfl) (fl_X12_back_0 (j := 27) rfl rfl) rfl
theorem dX12_back_28 : decode cX12_back 28 = .ok (.iconst 1, 1) := fq1_4 (fl_X12_back_0 (j := 28) rfl rfl)
theorem dX12_back_29 : decode cX12_back 29 = .ok (.isub, 1) := fq1_100 (fl_X12_back_0 (j := 29) rfl rfl)
theorem dX12_back_30 : decode cX12_back 30 = .ok (.putfield 412, 3) := fq3_181 (fl_X12_back_0 (j := 30) rfl rfl) (fl_X12_back_0 (j := 31) rfl rfl) (fl_X12_back_0 (j := 32) rfl rfl) rfl
theorem dX12_back_33 : decode cX12_back 33 = .ok (.aload_n 0, 1) := fq1_42 (fl_X12_back_0 (j := 33) rfl rfl)
theorem dX12_back_34 : decode cX12_back 34 = .ok (.aload_n 0, 1) := fq1_42 (fl_X12_back_0 (j := 34) rfl rfl)
theorem dX12_back_35 : decode cX12_back 35 = .ok (.getfield 412, 3) := fq3_180 (fl_X12_back_0 (j := 35) rfl rfl) (fl_X12_back_0 (j := 36) rfl rfl) (fl_X12_back_0 (j := 37) rfl rfl) rfl
theorem dX12_back_38 : decode cX12_back 38 = .ok (.invokevirtual 85, 3) := fq3_182 (fl_X12_back_0 (j := 38) rfl rfl) (fl_X12_back_0 (j := 39) rfl rfl) (fl_X12_back_0 (j := 40) rfl rfl) rfl
theorem dX12_back_41 : decode cX12_back 41 = .ok (.ireturn, 1) := fq1_172 (fl_X12_back_0 (j := 41) rfl rfl)
def fb_X12_copies_0 : List UInt8 := [0x03, 0x3e, 0x1d, 0x11, 0x03, 0x7a, 0xa2, 0x00, 0x21, 0x2a, 0xb4, 0x00, 0x07, 0x11, 0x03, 0x7a, 0x1c, 0x68, 0x1d, 0x60, 0x2a, 0xb4, 0x00, 0x07, 0x11, 0x03, 0x7a, 0x1b, 0x68, 0x1d, 0x60, 0x2e, 0x4f, 0x84, 0x03, 0x01, 0xa7, 0xff, 0xde, 0x03, 0x3e, 0x1d, 0x10, 0x06, 0xa2, 0x00, 0x1f, 0x2a, 0xb4, 0x00, 0x0d, 0x10, 0x06, 0x1c, 0x68, 0x1d, 0x60, 0x2a, 0xb4, 0x00, 0x0d, 0x10, 0x06, 0x1b]
theorem fl_X12_copies_0 {p j : Nat} {b : UInt8} (e : p = 0 + j) (h : fb_X12_copies_0[j]? = some b) : cX12_copies.data.toList[p]? = some b := fq_l (n := 64) (show (cX12_copies.data.toList.drop 0).take 64 = fb_X12_copies_0 by decide +kernel) e h
theorem dX12_copies_0 : decode cX12_copies 0 = .ok (.iconst 0, 1) := fq1_3 (fl_X12_copies_0 (j := 0) rfl rfl)
theorem dX12_copies_1 : decode cX12_copies 1 = .ok (.istore_n 3, 1) := fq1_62 (fl_X12_copies_0 (j := 1) rfl rfl)
theorem dX12_copies_2 : decode cX12_copies 2 = .ok (.iload_n 3, 1) := fq1_29 (fl_X12_copies_0 (j := 2) rfl rfl)
theorem dX12_copies_3 : decode cX12_copies 3 = .ok (.sipush 890, 3) := fq3_17 (fl_X12_copies_0 (j := 3) rfl rfl) (fl_X12_copies_0 (j := 4) rfl rfl) (fl_X12_copies_0 (j := 5) rfl rfl) (s2p rfl (bl rfl))
theorem dX12_copies_6 : decode cX12_copies 6 = .ok (.if_icmp .ge 33, 3) := fq3_162 (fl_X12_copies_0 (j := 6) rfl rfl) (fl_X12_copies_0 (j := 7) rfl rfl) (fl_X12_copies_0 (j := 8) rfl rfl) (s2p rfl (bl rfl))
theorem dX12_copies_9 : decode cX12_copies 9 = .ok (.aload_n 0, 1) := fq1_42 (fl_X12_copies_0 (j := 9) rfl rfl)
theorem dX12_copies_10 : decode cX12_copies 10 = .ok (.getfield 7, 3) := fq3_180 (fl_X12_copies_0 (j := 10) rfl rfl) (fl_X12_copies_0 (j := 11) rfl rfl) (fl_X12_copies_0 (j := 12) rfl rfl) rfl
theorem dX12_copies_13 : decode cX12_copies 13 = .ok (.sipush 890, 3) := fq3_17 (fl_X12_copies_0 (j := 13) rfl rfl) (fl_X12_copies_0 (j := 14) rfl rfl) (fl_X12_copies_0 (j := 15) rfl rfl) (s2p rfl (bl rfl))
theorem dX12_copies_16 : decode cX12_copies 16 = .ok (.iload_n 2, 1) := fq1_28 (fl_X12_copies_0 (j := 16) rfl rfl)
theorem dX12_copies_17 : decode cX12_copies 17 = .ok (.imul, 1) := fq1_104 (fl_X12_copies_0 (j := 17) rfl rfl)
theorem dX12_copies_18 : decode cX12_copies 18 = .ok (.iload_n 3, 1) := fq1_29 (fl_X12_copies_0 (j := 18) rfl rfl)
theorem dX12_copies_19 : decode cX12_copies 19 = .ok (.iadd, 1) := fq1_96 (fl_X12_copies_0 (j := 19) rfl rfl)
theorem dX12_copies_20 : decode cX12_copies 20 = .ok (.aload_n 0, 1) := fq1_42 (fl_X12_copies_0 (j := 20) rfl rfl)
theorem dX12_copies_21 : decode cX12_copies 21 = .ok (.getfield 7, 3) := fq3_180 (fl_X12_copies_0 (j := 21) rfl rfl) (fl_X12_copies_0 (j := 22) rfl rfl) (fl_X12_copies_0 (j := 23) rfl rfl) rfl
theorem dX12_copies_24 : decode cX12_copies 24 = .ok (.sipush 890, 3) := fq3_17 (fl_X12_copies_0 (j := 24) rfl rfl) (fl_X12_copies_0 (j := 25) rfl rfl) (fl_X12_copies_0 (j := 26) rfl rfl) (s2p rfl (bl rfl))
theorem dX12_copies_27 : decode cX12_copies 27 = .ok (.iload_n 1, 1) := fq1_27 (fl_X12_copies_0 (j := 27) rfl rfl)
theorem dX12_copies_28 : decode cX12_copies 28 = .ok (.imul, 1) := fq1_104 (fl_X12_copies_0 (j := 28) rfl rfl)
theorem dX12_copies_29 : decode cX12_copies 29 = .ok (.iload_n 3, 1) := fq1_29 (fl_X12_copies_0 (j := 29) rfl rfl)
theorem dX12_copies_30 : decode cX12_copies 30 = .ok (.iadd, 1) := fq1_96 (fl_X12_copies_0 (j := 30) rfl rfl)
theorem dX12_copies_31 : decode cX12_copies 31 = .ok (.iaload, 1) := fq1_46 (fl_X12_copies_0 (j := 31) rfl rfl)
theorem dX12_copies_32 : decode cX12_copies 32 = .ok (.iastore, 1) := fq1_79 (fl_X12_copies_0 (j := 32) rfl rfl)
theorem dX12_copies_33 : decode cX12_copies 33 = .ok (.iinc 3 1, 3) := fq3_132 (fl_X12_copies_0 (j := 33) rfl rfl) (fl_X12_copies_0 (j := 34) rfl rfl) (fl_X12_copies_0 (j := 35) rfl rfl) rfl (s1p rfl (bl rfl))
theorem dX12_copies_36 : decode cX12_copies 36 = .ok (.goto (-34), 3) := fq3_167 (fl_X12_copies_0 (j := 36) rfl rfl) (fl_X12_copies_0 (j := 37) rfl rfl) (fl_X12_copies_0 (j := 38) rfl rfl) (by decide)
theorem dX12_copies_39 : decode cX12_copies 39 = .ok (.iconst 0, 1) := fq1_3 (fl_X12_copies_0 (j := 39) rfl rfl)
theorem dX12_copies_40 : decode cX12_copies 40 = .ok (.istore_n 3, 1) := fq1_62 (fl_X12_copies_0 (j := 40) rfl rfl)
theorem dX12_copies_41 : decode cX12_copies 41 = .ok (.iload_n 3, 1) := fq1_29 (fl_X12_copies_0 (j := 41) rfl rfl)
theorem dX12_copies_42 : decode cX12_copies 42 = .ok (.bipush 6, 2) := fq2_16 (fl_X12_copies_0 (j := 42) rfl rfl) (fl_X12_copies_0 (j := 43) rfl rfl) (s1p rfl (bl rfl))
theorem dX12_copies_44 : decode cX12_copies 44 = .ok (.if_icmp .ge 31, 3) := fq3_162 (fl_X12_copies_0 (j := 44) rfl rfl) (fl_X12_copies_0 (j := 45) rfl rfl) (fl_X12_copies_0 (j := 46) rfl rfl) (s2p rfl (bl rfl))
theorem dX12_copies_47 : decode cX12_copies 47 = .ok (.aload_n 0, 1) := fq1_42 (fl_X12_copies_0 (j := 47) rfl rfl)
theorem dX12_copies_48 : decode cX12_copies 48 = .ok (.getfield 13, 3) := fq3_180 (fl_X12_copies_0 (j := 48) rfl rfl) (fl_X12_copies_0 (j := 49) rfl rfl) (fl_X12_copies_0 (j := 50) rfl rfl) rfl
theorem dX12_copies_51 : decode cX12_copies 51 = .ok (.bipush 6, 2) := fq2_16 (fl_X12_copies_0 (j := 51) rfl rfl) (fl_X12_copies_0 (j := 52) rfl rfl) (s1p rfl (bl rfl))
theorem dX12_copies_53 : decode cX12_copies 53 = .ok (.iload_n 2, 1) := fq1_28 (fl_X12_copies_0 (j := 53) rfl rfl)
theorem dX12_copies_54 : decode cX12_copies 54 = .ok (.imul, 1) := fq1_104 (fl_X12_copies_0 (j := 54) rfl rfl)
theorem dX12_copies_55 : decode cX12_copies 55 = .ok (.iload_n 3, 1) := fq1_29 (fl_X12_copies_0 (j := 55) rfl rfl)
theorem dX12_copies_56 : decode cX12_copies 56 = .ok (.iadd, 1) := fq1_96 (fl_X12_copies_0 (j := 56) rfl rfl)
theorem dX12_copies_57 : decode cX12_copies 57 = .ok (.aload_n 0, 1) := fq1_42 (fl_X12_copies_0 (j := 57) rfl rfl)
theorem dX12_copies_58 : decode cX12_copies 58 = .ok (.getfield 13, 3) := fq3_180 (fl_X12_copies_0 (j := 58) rfl rfl) (fl_X12_copies_0 (j := 59) rfl rfl) (fl_X12_copies_0 (j := 60) rfl rfl) rfl
theorem dX12_copies_61 : decode cX12_copies 61 = .ok (.bipush 6, 2) := fq2_16 (fl_X12_copies_0 (j := 61) rfl rfl) (fl_X12_copies_0 (j := 62) rfl rfl) (s1p rfl (bl rfl))
theorem dX12_copies_63 : decode cX12_copies 63 = .ok (.iload_n 1, 1) := fq1_27 (fl_X12_copies_0 (j := 63) rfl rfl)
def fb_X12_copies_1 : List UInt8 := [0x68, 0x1d, 0x60, 0x2f, 0x50, 0x84, 0x03, 0x01, 0xa7, 0xff, 0xe1, 0xb1]
theorem fl_X12_copies_1 {p j : Nat} {b : UInt8} (e : p = 64 + j) (h : fb_X12_copies_1[j]? = some b) : cX12_copies.data.toList[p]? = some b := fq_l (n := 64) (show (cX12_copies.data.toList.drop 64).take 64 = fb_X12_copies_1 by decide +kernel) e h
theorem dX12_copies_64 : decode cX12_copies 64 = .ok (.imul, 1) := fq1_104 (fl_X12_copies_1 (j := 0) rfl rfl)
theorem dX12_copies_65 : decode cX12_copies 65 = .ok (.iload_n 3, 1) := fq1_29 (fl_X12_copies_1 (j := 1) rfl rfl)
theorem dX12_copies_66 : decode cX12_copies 66 = .ok (.iadd, 1) := fq1_96 (fl_X12_copies_1 (j := 2) rfl rfl)
theorem dX12_copies_67 : decode cX12_copies 67 = .ok (.laload, 1) := fq1_47 (fl_X12_copies_1 (j := 3) rfl rfl)
theorem dX12_copies_68 : decode cX12_copies 68 = .ok (.lastore, 1) := fq1_80 (fl_X12_copies_1 (j := 4) rfl rfl)
theorem dX12_copies_69 : decode cX12_copies 69 = .ok (.iinc 3 1, 3) := fq3_132 (fl_X12_copies_1 (j := 5) rfl rfl) (fl_X12_copies_1 (j := 6) rfl rfl) (fl_X12_copies_1 (j := 7) rfl rfl) rfl (s1p rfl (bl rfl))
theorem dX12_copies_72 : decode cX12_copies 72 = .ok (.goto (-31), 3) := fq3_167 (fl_X12_copies_1 (j := 8) rfl rfl) (fl_X12_copies_1 (j := 9) rfl rfl) (fl_X12_copies_1 (j := 10) rfl rfl) (by decide)
theorem dX12_copies_75 : decode cX12_copies 75 = .ok (.return_, 1) := fq1_177 (fl_X12_copies_1 (j := 11) rfl rfl)
def fb_X12_mark_0 : List UInt8 := [0x2a, 0xb4, 0x01, 0x9c, 0x06, 0xa0, 0x00, 0x09, 0x2a, 0x07, 0xb6, 0x00, 0x51, 0xac, 0x2a, 0x59, 0xb4, 0x01, 0x9c, 0x04, 0x60, 0xb5, 0x01, 0x9c, 0x2a, 0x03, 0x2a, 0xb4, 0x01, 0x9c, 0xb6, 0x01, 0x9f, 0x2a, 0x2a, 0xb4, 0x01, 0x9c, 0xb6, 0x00, 0x55, 0xac]
theorem fl_X12_mark_0 {p j : Nat} {b : UInt8} (e : p = 0 + j) (h : fb_X12_mark_0[j]? = some b) : cX12_mark.data.toList[p]? = some b := fq_l (n := 64) (show (cX12_mark.data.toList.drop 0).take 64 = fb_X12_mark_0 by decide +kernel) e h
theorem dX12_mark_0 : decode cX12_mark 0 = .ok (.aload_n 0, 1) := fq1_42 (fl_X12_mark_0 (j := 0) rfl rfl)
theorem dX12_mark_1 : decode cX12_mark 1 = .ok (.getfield 412, 3) := fq3_180 (fl_X12_mark_0 (j := 1) rfl rfl) (fl_X12_mark_0 (j := 2) rfl rfl) (fl_X12_mark_0 (j := 3) rfl rfl) rfl
theorem dX12_mark_4 : decode cX12_mark 4 = .ok (.iconst 3, 1) := fq1_6 (fl_X12_mark_0 (j := 4) rfl rfl)
theorem dX12_mark_5 : decode cX12_mark 5 = .ok (.if_icmp .ne 9, 3) := fq3_160 (fl_X12_mark_0 (j := 5) rfl rfl) (fl_X12_mark_0 (j := 6) rfl rfl) (fl_X12_mark_0 (j := 7) rfl rfl) (s2p rfl (bl rfl))
theorem dX12_mark_8 : decode cX12_mark 8 = .ok (.aload_n 0, 1) := fq1_42 (fl_X12_mark_0 (j := 8) rfl rfl)
theorem dX12_mark_9 : decode cX12_mark 9 = .ok (.iconst 4, 1) := fq1_7 (fl_X12_mark_0 (j := 9) rfl rfl)
theorem dX12_mark_10 : decode cX12_mark 10 = .ok (.invokevirtual 81, 3) := fq3_182 (fl_X12_mark_0 (j := 10) rfl rfl) (fl_X12_mark_0 (j := 11) rfl rfl) (fl_X12_mark_0 (j := 12) rfl rfl) rfl
theorem dX12_mark_13 : decode cX12_mark 13 = .ok (.ireturn, 1) := fq1_172 (fl_X12_mark_0 (j := 13) rfl rfl)
theorem dX12_mark_14 : decode cX12_mark 14 = .ok (.aload_n 0, 1) := fq1_42 (fl_X12_mark_0 (j := 14) rfl rfl)
theorem dX12_mark_15 : decode cX12_mark 15 = .ok (.dup, 1) := fq1_89 (fl_X12_mark_0 (j := 15) rfl rfl)
theorem dX12_mark_16 : decode cX12_mark 16 = .ok (.getfield 412, 3) := fq3_180 (fl_X12_mark_0 (j := 16) rfl rfl) (fl_X12_mark_0 (j := 17) rfl rfl) (fl_X12_mark_0 (j := 18) rfl rfl) rfl
theorem dX12_mark_19 : decode cX12_mark 19 = .ok (.iconst 1, 1) := fq1_4 (fl_X12_mark_0 (j := 19) rfl rfl)
theorem dX12_mark_20 : decode cX12_mark 20 = .ok (.iadd, 1) := fq1_96 (fl_X12_mark_0 (j := 20) rfl rfl)
theorem dX12_mark_21 : decode cX12_mark 21 = .ok (.putfield 412, 3) := fq3_181 (fl_X12_mark_0 (j := 21) rfl rfl) (fl_X12_mark_0 (j := 22) rfl rfl) (fl_X12_mark_0 (j := 23) rfl rfl) rfl
theorem dX12_mark_24 : decode cX12_mark 24 = .ok (.aload_n 0, 1) := fq1_42 (fl_X12_mark_0 (j := 24) rfl rfl)
theorem dX12_mark_25 : decode cX12_mark 25 = .ok (.iconst 0, 1) := fq1_3 (fl_X12_mark_0 (j := 25) rfl rfl)
theorem dX12_mark_26 : decode cX12_mark 26 = .ok (.aload_n 0, 1) := fq1_42 (fl_X12_mark_0 (j := 26) rfl rfl)
theorem dX12_mark_27 : decode cX12_mark 27 = .ok (.getfield 412, 3) := fq3_180 (fl_X12_mark_0 (j := 27) rfl rfl) (fl_X12_mark_0 (j := 28) rfl rfl) (fl_X12_mark_0 (j := 29) rfl rfl) rfl
theorem dX12_mark_30 : decode cX12_mark 30 = .ok (.invokevirtual 415, 3) := fq3_182 (fl_X12_mark_0 (j := 30) rfl rfl) (fl_X12_mark_0 (j := 31) rfl rfl) (fl_X12_mark_0 (j := 32) rfl rfl) rfl
theorem dX12_mark_33 : decode cX12_mark 33 = .ok (.aload_n 0, 1) := fq1_42 (fl_X12_mark_0 (j := 33) rfl rfl)
theorem dX12_mark_34 : decode cX12_mark 34 = .ok (.aload_n 0, 1) := fq1_42 (fl_X12_mark_0 (j := 34) rfl rfl)
theorem dX12_mark_35 : decode cX12_mark 35 = .ok (.getfield 412, 3) := fq3_180 (fl_X12_mark_0 (j := 35) rfl rfl) (fl_X12_mark_0 (j := 36) rfl rfl) (fl_X12_mark_0 (j := 37) rfl rfl) rfl
theorem dX12_mark_38 : decode cX12_mark 38 = .ok (.invokevirtual 85, 3) := fq3_182 (fl_X12_mark_0 (j := 38) rfl rfl) (fl_X12_mark_0 (j := 39) rfl rfl) (fl_X12_mark_0 (j := 40) rfl rfl) rfl
theorem dX12_mark_41 : decode cX12_mark 41 = .ok (.ireturn, 1) := fq1_172 (fl_X12_mark_0 (j := 41) rfl rfl)
def fb_X12_plain_0 : List UInt8 := [0x03, 0x3d, 0x1c, 0x11, 0x03, 0x7a, 0xa2, 0x00, 0x12, 0x2a, 0xb4, 0x00, 0x07, 0x1b, 0x1c, 0x60, 0x03, 0x4f, 0x84, 0x02, 0x01, 0xa7, 0xff, 0xed, 0x2a, 0xb4, 0x00, 0x07, 0x1b, 0x08, 0x60, 0x02, 0x4f, 0xb1]
theorem fl_X12_plain_0 {p j : Nat} {b : UInt8} (e : p = 0 + j) (h : fb_X12_plain_0[j]? = some b) : cX12_plain.data.toList[p]? = some b := fq_l (n := 64) (show (cX12_plain.data.toList.drop 0).take 64 = fb_X12_plain_0 by decide +kernel) e h
theorem dX12_plain_0 : decode cX12_plain 0 = .ok (.iconst 0, 1) := fq1_3 (fl_X12_plain_0 (j := 0) rfl rfl)
theorem dX12_plain_1 : decode cX12_plain 1 = .ok (.istore_n 2, 1) := fq1_61 (fl_X12_plain_0 (j := 1) rfl rfl)
theorem dX12_plain_2 : decode cX12_plain 2 = .ok (.iload_n 2, 1) := fq1_28 (fl_X12_plain_0 (j := 2) rfl rfl)
theorem dX12_plain_3 : decode cX12_plain 3 = .ok (.sipush 890, 3) := fq3_17 (fl_X12_plain_0 (j := 3) rfl rfl) (fl_X12_plain_0 (j := 4) rfl rfl) (fl_X12_plain_0 (j := 5) rfl rfl) (s2p rfl (bl rfl))
theorem dX12_plain_6 : decode cX12_plain 6 = .ok (.if_icmp .ge 18, 3) := fq3_162 (fl_X12_plain_0 (j := 6) rfl rfl) (fl_X12_plain_0 (j := 7) rfl rfl) (fl_X12_plain_0 (j := 8) rfl rfl) (s2p rfl (bl rfl))
theorem dX12_plain_9 : decode cX12_plain 9 = .ok (.aload_n 0, 1) := fq1_42 (fl_X12_plain_0 (j := 9) rfl rfl)
theorem dX12_plain_10 : decode cX12_plain 10 = .ok (.getfield 7, 3) := fq3_180 (fl_X12_plain_0 (j := 10) rfl rfl) (fl_X12_plain_0 (j := 11) rfl rfl) (fl_X12_plain_0 (j := 12) rfl rfl) rfl
theorem dX12_plain_13 : decode cX12_plain 13 = .ok (.iload_n 1, 1) := fq1_27 (fl_X12_plain_0 (j := 13) rfl rfl)
theorem dX12_plain_14 : decode cX12_plain 14 = .ok (.iload_n 2, 1) := fq1_28 (fl_X12_plain_0 (j := 14) rfl rfl)
theorem dX12_plain_15 : decode cX12_plain 15 = .ok (.iadd, 1) := fq1_96 (fl_X12_plain_0 (j := 15) rfl rfl)
theorem dX12_plain_16 : decode cX12_plain 16 = .ok (.iconst 0, 1) := fq1_3 (fl_X12_plain_0 (j := 16) rfl rfl)
theorem dX12_plain_17 : decode cX12_plain 17 = .ok (.iastore, 1) := fq1_79 (fl_X12_plain_0 (j := 17) rfl rfl)
theorem dX12_plain_18 : decode cX12_plain 18 = .ok (.iinc 2 1, 3) := fq3_132 (fl_X12_plain_0 (j := 18) rfl rfl) (fl_X12_plain_0 (j := 19) rfl rfl) (fl_X12_plain_0 (j := 20) rfl rfl) rfl (s1p rfl (bl rfl))
theorem dX12_plain_21 : decode cX12_plain 21 = .ok (.goto (-19), 3) := fq3_167 (fl_X12_plain_0 (j := 21) rfl rfl) (fl_X12_plain_0 (j := 22) rfl rfl) (fl_X12_plain_0 (j := 23) rfl rfl) (by decide)
theorem dX12_plain_24 : decode cX12_plain 24 = .ok (.aload_n 0, 1) := fq1_42 (fl_X12_plain_0 (j := 24) rfl rfl)
theorem dX12_plain_25 : decode cX12_plain 25 = .ok (.getfield 7, 3) := fq3_180 (fl_X12_plain_0 (j := 25) rfl rfl) (fl_X12_plain_0 (j := 26) rfl rfl) (fl_X12_plain_0 (j := 27) rfl rfl) rfl
theorem dX12_plain_28 : decode cX12_plain 28 = .ok (.iload_n 1, 1) := fq1_27 (fl_X12_plain_0 (j := 28) rfl rfl)
theorem dX12_plain_29 : decode cX12_plain 29 = .ok (.iconst 5, 1) := fq1_8 (fl_X12_plain_0 (j := 29) rfl rfl)
theorem dX12_plain_30 : decode cX12_plain 30 = .ok (.iadd, 1) := fq1_96 (fl_X12_plain_0 (j := 30) rfl rfl)
theorem dX12_plain_31 : decode cX12_plain 31 = .ok (.iconst (-1), 1) := fq1_2 (fl_X12_plain_0 (j := 31) rfl rfl)
theorem dX12_plain_32 : decode cX12_plain 32 = .ok (.iastore, 1) := fq1_79 (fl_X12_plain_0 (j := 32) rfl rfl)
theorem dX12_plain_33 : decode cX12_plain 33 = .ok (.return_, 1) := fq1_177 (fl_X12_plain_0 (j := 33) rfl rfl)
end

section
set_option maxHeartbeats 4000000 in
set_option maxRecDepth 100000 in
theorem m_plain (l : Launch) (D : va_G) (k : Nat → ClassId) (fs : List Value) (hm : Nat) (Ma : Nat) (Af : Nat → Int32) (x : Int) (f0 : fs[0]? = some (.ref Ma)) (h9x : 0 ≤ x ∧ x ≤ 4450) : WD (σ := ((Int) × (Int64) × ((Nat → Int32)) × (Unit))) l yX12_plain cX12_plain 3 none 0 0 0 D k [.ref hm, .int (iZ x)] [(hm, .inr (12, fs)), (Ma, .inl (k 1, 5340, .inl Af))] (fun _ => none) (fun u => (∀ e : Int, 0 ≤ e → e < 890 → gz u.2.2.1 (x + e) = if e = 5 then -1 else 0) ∧ ∀ j : Int, 0 ≤ j → (j < x ∨ x + 890 ≤ j) → gz u.2.2.1 j = gz Af j) (fun u => [(hm, .inr (12, fs)), (Ma, .inl (k 1, 5340, .inl u.2.2.1))]) := by
  refine MW (by decide) (Nat.le_of_ble_eq_true rfl) (fun p e s m below meth c ls A hx hb hml hr hlocks hin hts hown hKK hP hD hS hA hl => ?_)
  have hK := hKK.1
  have hl : lv_has ls 3 [(0, .ref hm), (1, .int (iZ x))] := hl
  refine lv_iconst (v := iZ 0) hx hb dX12_plain_0 rfl ?_
  refine lv_istore_n (lv' := [(2, .int (iZ 0)), (0, .ref hm), (1, .int (iZ x))]) hx hb dX12_plain_1 rfl hl (bl rfl) rfl (fun ls hl => ?_)
  have HL2 : ∀ (fu : Nat) (v2_2 : Int) (Afq2 : Nat → Int32) (H : Heap) (locs : List Loc) (ls : Array Slot), ((889) + 2 - v2_2) < (fu : Int) → ((0 ≤ v2_2 ∧ v2_2 ≤ (889) + 1)) → (∀ e : Int, 0 ≤ e → e < v2_2 → gz Afq2 (x + e) = 0) → (∀ e : Int, 0 ≤ e → (e < x ∨ x + v2_2 ≤ e) → gz Afq2 e = gz Af e) → va_P D vwCl [(hm, .inr (12, fs)), (Ma, .inl (k 1, 5340, .inl Afq2))] H → va_D A [(hm, .inr (12, fs)), (Ma, .inl (k 1, 5340, .inl Afq2))] → va_S A s.heap H locs → lv_has ls 3 [(2, .int (iZ v2_2)), (0, .ref hm), (1, .int (iZ x))] → W p l e (rj 0 0 0) s m [.ref hm, .int (iZ x)].toArray below meth c H locs 0 0 (MQ below (QW (σ := ((Int) × (Int64) × ((Nat → Int32)) × (Unit))) (fun _ => none) (fun u => (∀ e : Int, 0 ≤ e → e < 890 → gz u.2.2.1 (x + e) = if e = 5 then -1 else 0) ∧ ∀ j : Int, 0 ≤ j → (j < x ∨ x + 890 ≤ j) → gz u.2.2.1 j = gz Af j) (fun u => [(hm, .inr (12, fs)), (Ma, .inl (k 1, 5340, .inl u.2.2.1))]) D A) [.ref hm, .int (iZ x)].toArray s 0 0 A) (F0 m 2 ls []) := by
    intro fu
    induction fu with
    | zero => intro v2_2 Afq2 H locs ls hμ2 hi2 hw1 hk1 hP hD hS hl; exact absurd hμ2 (by omega)
    | succ fu ih2 =>
      intro v2_2 Afq2 H locs ls hμ2 hi2 hw1 hk1 hP hD hS hl
      refine lv_iload_n hx hb dX12_plain_2 rfl (lv_at hl 0 rfl) ?_
      refine lv_sipush (v := iZ 890) hx hb dX12_plain_3 sip_890 ?_
      refine lv_icmp_ge (tgt := 24) hx hb dX12_plain_6 rfl (fun c_1 => ?_) (fun c_1 => ?_)
      ·
        have c_1 := (zle (x := iZ 890) (y := iZ v2_2) rfl rfl wn_890 ⟨by omega, by omega⟩).mp c_1
        refine lv_aload_n hx hb dX12_plain_24 rfl (lv_at hl 1 rfl) ?_
        refine va_get (D := D) (ci := 12) (v := .ref Ma) (C := RX12) (T := TX12) (N := 36) hx hb hts iX12 hown hK hP 0 rfl rfl 0 (bl rfl) (hts _ qf_X12_7) (fun _ h => h) f0 dX12_plain_25 ?_
        refine lv_iload_n hx hb dX12_plain_28 rfl (lv_at hl 2 rfl) ?_
        refine lv_iconst (v := iZ 5) hx hb dX12_plain_29 rfl ?_
        refine lv_iadd hx hb dX12_plain_30 ?_
        refine lv_topi (fun x_2 ex_2 => ?_)
        obtain rfl : x_2 = iZ (x + 5) := ex_2.trans (iZ_add x 5)
        refine lv_iconst (v := iZ (-1)) hx hb dX12_plain_31 rfl ?_
        refine va_iast hx hb hK hP hD hS 1 1 rfl rfl (zin (e := (x + 5)) (n := 5340) ⟨by omega, by omega⟩ (bl rfl)) dX12_plain_32 (fun H locs hP hD hS => ?_)
        obtain ⟨f_3, hf_3⟩ : ∃ gg9, gg9 = upd Afq2 (iZ (x + 5)).toNatClampNeg (iZ (-1)) := ⟨_, rfl⟩
        rw [← hf_3] at hP hD
        exact EWv hx hb hr hlocks hS (0, 0, f_3, ()) rfl (show (∀ e : Int, 0 ≤ e → e < 890 → gz f_3 (x + e) = if e = 5 then -1 else 0) ∧ ∀ j : Int, 0 ≤ j → (j < x ∨ x + 890 ≤ j) → gz f_3 j = gz Af j from ⟨fun e h1 h2 => by have c1 := gz_upc (j := x + e) hf_3 ⟨by omega, by omega⟩ ⟨by omega, by omega⟩ (by omega); have := hw1 e h1 (by omega); by_cases h5 : e = 5; rw [if_pos h5]; omega; rw [if_neg h5]; omega, fun j h1 h2 => by have c1 := gz_upc (j := j) hf_3 ⟨by omega, by omega⟩ ⟨by omega, by omega⟩ (by omega); have := hk1 j h1 (by omega); omega⟩) (hP.sub [0, 1] rfl) (hD.sub [0, 1] rfl rfl) dX12_plain_33
      ·
        have c_1 := mt (zle (x := iZ 890) (y := iZ v2_2) rfl rfl wn_890 ⟨by omega, by omega⟩).mpr c_1
        refine lv_aload_n hx hb dX12_plain_9 rfl (lv_at hl 1 rfl) ?_
        refine va_get (D := D) (ci := 12) (v := .ref Ma) (C := RX12) (T := TX12) (N := 36) hx hb hts iX12 hown hK hP 0 rfl rfl 0 (bl rfl) (hts _ qf_X12_7) (fun _ h => h) f0 dX12_plain_10 ?_
        refine lv_iload_n hx hb dX12_plain_13 rfl (lv_at hl 2 rfl) ?_
        refine lv_iload_n hx hb dX12_plain_14 rfl (lv_at hl 0 rfl) ?_
        refine lv_iadd hx hb dX12_plain_15 ?_
        refine lv_topi (fun x_4 ex_4 => ?_)
        obtain rfl : x_4 = iZ (x + v2_2) := ex_4.trans (iZ_add x v2_2)
        refine lv_iconst (v := iZ 0) hx hb dX12_plain_16 rfl ?_
        refine va_iast hx hb hK hP hD hS 1 1 rfl rfl (zin (e := (x + v2_2)) (n := 5340) ⟨by omega, by omega⟩ (bl rfl)) dX12_plain_17 (fun H locs hP hD hS => ?_)
        obtain ⟨f_5, hf_5⟩ : ∃ gg9, gg9 = upd Afq2 (iZ (x + v2_2)).toNatClampNeg (iZ 0) := ⟨_, rfl⟩
        rw [← hf_5] at hP hD
        refine lv_iinc (v := iZ (v2_2 + 1)) (lv' := [(2, .int (iZ (v2_2 + 1))), (0, .ref hm), (1, .int (iZ x))]) hx hb dX12_plain_18 hl (k := 0) rfl (iZ_add v2_2 1) (by decide) rfl (fun ls hl => ?_)
        refine lv_goto (tgt := 2) hx hb dX12_plain_21 rfl ?_
        exact ih2  (v2_2 + 1) f_5 _ _ _ (by omega) (show (0 ≤ (v2_2 + 1) ∧ (v2_2 + 1) ≤ (889) + 1) from ⟨by omega, by omega⟩) (show ∀ e : Int, 0 ≤ e → e < (v2_2 + 1) → gz f_5 (x + e) = 0 from (fun e h1 h2 => by have c1 := gz_upc (j := x + e) hf_5 ⟨by omega, by omega⟩ ⟨by omega, by omega⟩ (by omega); rcases Int.lt_or_eq_of_le (show e ≤ v2_2 by omega) with h3 | h3; have := hw1 e h1 h3; omega; omega)) (show ∀ e : Int, 0 ≤ e → (e < x ∨ x + (v2_2 + 1) ≤ e) → gz f_5 e = gz Af e from (fun e h1 h2 => by have c1 := gz_upc (j := e) hf_5 ⟨by omega, by omega⟩ ⟨by omega, by omega⟩ (by omega); have := hk1 e h1 (by omega); omega)) (hP.sub [0, 1] rfl) (hD.sub [0, 1] rfl rfl) hS (lv_sub hl [0, 1, 2] rfl)
  exact HL2 893 0 Af _ _ _ (by omega) (show (0 ≤ 0 ∧ 0 ≤ (889) + 1) from ⟨by omega, by omega⟩) (show ∀ e : Int, 0 ≤ e → e < 0 → gz Af (x + e) = 0 from (fun e h1 h2 => absurd h1 (by omega))) (show ∀ e : Int, 0 ≤ e → (e < x ∨ x + 0 ≤ e) → gz Af e = gz Af e from (fun e h1 h2 => rfl)) (hP.sub [0, 1] rfl) (hD.sub [0, 1] rfl rfl) hS (lv_sub hl [0, 1, 2] rfl)
theorem gl_up {f g : Nat → Int64} {i j : Int} {v : Int64} (h : g = vp_updL f (iZ i).toNatClampNeg v) (hi : 0 ≤ i ∧ i < 2147483648) (hj : 0 ≤ j) : (j = i ∧ g j.toNat = v) ∨ (¬ j = i ∧ g j.toNat = f j.toNat) := by
  rw [h, zcl hi]
  by_cases c : j = i
  · exact Or.inl ⟨c, by rw [c]; exact if_pos rfl⟩
  · exact Or.inr ⟨c, if_neg (by omega)⟩
set_option maxHeartbeats 4000000 in
set_option maxRecDepth 100000 in
theorem m_copies (l : Launch) (D : va_G) (k : Nat → ClassId) (fs : List Value) (hm : Nat) (Ma : Nat) (Mn : Nat) (Af : Nat → Int32) (Nf : Nat → Int64) (x : Int) (y : Int) (f0 : fs[0]? = some (.ref Ma)) (f1 : fs[1]? = some (.ref Mn)) (h9x : 0 ≤ x ∧ x ≤ 3) (h9y : 0 ≤ y ∧ y ≤ 3) (hne : ¬ x = y) : WD (σ := ((Int) × (Int64) × ((Nat → Int32)) × ((Nat → Int64)))) l yX12_copies cX12_copies 4 none 0 0 0 D k [.ref hm, .int (iZ x), .int (iZ y)] [(hm, .inr (12, fs)), (Ma, .inl (k 1, 5340, .inl Af)), (Mn, .inl (k 2, 36, .inr (.inl Nf)))] (fun _ => none) (fun u => ((∀ e : Int, 0 ≤ e → e < 890 → gz u.2.2.1 (890 * y + e) = gz Af (890 * x + e)) ∧ ∀ j : Int, 0 ≤ j → (j < 890 * y ∨ 890 * y + 890 ≤ j) → gz u.2.2.1 j = gz Af j) ∧ ((∀ e : Int, 0 ≤ e → e < 6 → u.2.2.2 (6 * y + e).toNat = Nf (6 * x + e).toNat) ∧ ∀ j : Int, 0 ≤ j → (j < 6 * y ∨ 6 * y + 6 ≤ j) → u.2.2.2 j.toNat = Nf j.toNat)) (fun u => [(hm, .inr (12, fs)), (Ma, .inl (k 1, 5340, .inl u.2.2.1)), (Mn, .inl (k 2, 36, .inr (.inl u.2.2.2)))]) := by
  refine MW (by decide) (Nat.le_of_ble_eq_true rfl) (fun p e s m below meth c ls A hx hb hml hr hlocks hin hts hown hKK hP hD hS hA hl => ?_)
  have hK := hKK.1
  have hl : lv_has ls 4 [(0, .ref hm), (1, .int (iZ x)), (2, .int (iZ y))] := hl
  refine lv_iconst (v := iZ 0) hx hb dX12_copies_0 rfl ?_
  refine lv_istore_n (lv' := [(3, .int (iZ 0)), (0, .ref hm), (1, .int (iZ x)), (2, .int (iZ y))]) hx hb dX12_copies_1 rfl hl (bl rfl) rfl (fun ls hl => ?_)
  have HL2 : ∀ (fu : Nat) (v3_2 : Int) (Afq2 : Nat → Int32) (H : Heap) (locs : List Loc) (ls : Array Slot), ((889) + 2 - v3_2) < (fu : Int) → ((0 ≤ v3_2 ∧ v3_2 ≤ (889) + 1)) → (∀ e : Int, 0 ≤ e → e < v3_2 → gz Afq2 (890 * y + e) = gz Af (890 * x + e)) → (∀ e : Int, 0 ≤ e → (e < 890 * y ∨ 890 * y + v3_2 ≤ e) → gz Afq2 e = gz Af e) → va_P D vwCl [(hm, .inr (12, fs)), (Ma, .inl (k 1, 5340, .inl Afq2)), (Mn, .inl (k 2, 36, .inr (.inl Nf)))] H → va_D A [(hm, .inr (12, fs)), (Ma, .inl (k 1, 5340, .inl Afq2)), (Mn, .inl (k 2, 36, .inr (.inl Nf)))] → va_S A s.heap H locs → lv_has ls 4 [(3, .int (iZ v3_2)), (0, .ref hm), (1, .int (iZ x)), (2, .int (iZ y))] → W p l e (rj 0 0 0) s m [.ref hm, .int (iZ x), .int (iZ y)].toArray below meth c H locs 0 0 (MQ below (QW (σ := ((Int) × (Int64) × ((Nat → Int32)) × ((Nat → Int64)))) (fun _ => none) (fun u => ((∀ e : Int, 0 ≤ e → e < 890 → gz u.2.2.1 (890 * y + e) = gz Af (890 * x + e)) ∧ ∀ j : Int, 0 ≤ j → (j < 890 * y ∨ 890 * y + 890 ≤ j) → gz u.2.2.1 j = gz Af j) ∧ ((∀ e : Int, 0 ≤ e → e < 6 → u.2.2.2 (6 * y + e).toNat = Nf (6 * x + e).toNat) ∧ ∀ j : Int, 0 ≤ j → (j < 6 * y ∨ 6 * y + 6 ≤ j) → u.2.2.2 j.toNat = Nf j.toNat)) (fun u => [(hm, .inr (12, fs)), (Ma, .inl (k 1, 5340, .inl u.2.2.1)), (Mn, .inl (k 2, 36, .inr (.inl u.2.2.2)))]) D A) [.ref hm, .int (iZ x), .int (iZ y)].toArray s 0 0 A) (F0 m 2 ls []) := by
    intro fu
    induction fu with
    | zero => intro v3_2 Afq2 H locs ls hμ2 hi2 hw1 hk1 hP hD hS hl; exact absurd hμ2 (by omega)
    | succ fu ih2 =>
      intro v3_2 Afq2 H locs ls hμ2 hi2 hw1 hk1 hP hD hS hl
      refine lv_iload_n hx hb dX12_copies_2 rfl (lv_at hl 0 rfl) ?_
      refine lv_sipush (v := iZ 890) hx hb dX12_copies_3 sip_890 ?_
      refine lv_icmp_ge (tgt := 39) hx hb dX12_copies_6 rfl (fun c_1 => ?_) (fun c_1 => ?_)
      ·
        have c_1 := (zle (x := iZ 890) (y := iZ v3_2) rfl rfl wn_890 ⟨by omega, by omega⟩).mp c_1
        refine lv_iconst (v := iZ 0) hx hb dX12_copies_39 rfl ?_
        refine lv_istore_n (lv' := [(3, .int (iZ 0)), (0, .ref hm), (1, .int (iZ x)), (2, .int (iZ y))]) hx hb dX12_copies_40 rfl hl (bl rfl) rfl (fun ls hl => ?_)
        have HL41 : ∀ (fu : Nat) (v3_41 : Int) (Nfq41 : Nat → Int64) (H : Heap) (locs : List Loc) (ls : Array Slot), ((5) + 2 - v3_41) < (fu : Int) → ((0 ≤ v3_41 ∧ v3_41 ≤ (5) + 1)) → (∀ e : Int, 0 ≤ e → e < v3_41 → Nfq41 (6 * y + e).toNat = Nf (6 * x + e).toNat) → (∀ j : Int, 0 ≤ j → (j < 6 * y ∨ 6 * y + v3_41 ≤ j) → Nfq41 j.toNat = Nf j.toNat) → va_P D vwCl [(hm, .inr (12, fs)), (Ma, .inl (k 1, 5340, .inl Afq2)), (Mn, .inl (k 2, 36, .inr (.inl Nfq41)))] H → va_D A [(hm, .inr (12, fs)), (Ma, .inl (k 1, 5340, .inl Afq2)), (Mn, .inl (k 2, 36, .inr (.inl Nfq41)))] → va_S A s.heap H locs → lv_has ls 4 [(3, .int (iZ v3_41)), (0, .ref hm), (1, .int (iZ x)), (2, .int (iZ y))] → W p l e (rj 0 0 0) s m [.ref hm, .int (iZ x), .int (iZ y)].toArray below meth c H locs 0 0 (MQ below (QW (σ := ((Int) × (Int64) × ((Nat → Int32)) × ((Nat → Int64)))) (fun _ => none) (fun u => ((∀ e : Int, 0 ≤ e → e < 890 → gz u.2.2.1 (890 * y + e) = gz Af (890 * x + e)) ∧ ∀ j : Int, 0 ≤ j → (j < 890 * y ∨ 890 * y + 890 ≤ j) → gz u.2.2.1 j = gz Af j) ∧ ((∀ e : Int, 0 ≤ e → e < 6 → u.2.2.2 (6 * y + e).toNat = Nf (6 * x + e).toNat) ∧ ∀ j : Int, 0 ≤ j → (j < 6 * y ∨ 6 * y + 6 ≤ j) → u.2.2.2 j.toNat = Nf j.toNat)) (fun u => [(hm, .inr (12, fs)), (Ma, .inl (k 1, 5340, .inl u.2.2.1)), (Mn, .inl (k 2, 36, .inr (.inl u.2.2.2)))]) D A) [.ref hm, .int (iZ x), .int (iZ y)].toArray s 0 0 A) (F0 m 41 ls []) := by
          intro fu
          induction fu with
          | zero => intro v3_41 Nfq41 H locs ls hμ41 hi41 hw2 hk2 hP hD hS hl; exact absurd hμ41 (by omega)
          | succ fu ih41 =>
            intro v3_41 Nfq41 H locs ls hμ41 hi41 hw2 hk2 hP hD hS hl
            refine lv_iload_n hx hb dX12_copies_41 rfl (lv_at hl 0 rfl) ?_
            refine lv_bipush (v := iZ 6) hx hb dX12_copies_42 bip_6 ?_
            refine lv_icmp_ge (tgt := 75) hx hb dX12_copies_44 rfl (fun c_2 => ?_) (fun c_2 => ?_)
            ·
              have c_2 := (zle (x := iZ 6) (y := iZ v3_41) rfl rfl wn_6 ⟨by omega, by omega⟩).mp c_2
              exact EWv hx hb hr hlocks hS (0, 0, Afq2, Nfq41) rfl ⟨(show (∀ e : Int, 0 ≤ e → e < 890 → gz Afq2 (890 * y + e) = gz Af (890 * x + e)) ∧ ∀ j : Int, 0 ≤ j → (j < 890 * y ∨ 890 * y + 890 ≤ j) → gz Afq2 j = gz Af j from ⟨fun e h1 h2 => hw1 e h1 (by omega), fun j h1 h2 => hk1 j h1 (by omega)⟩), (show (∀ e : Int, 0 ≤ e → e < 6 → Nfq41 (6 * y + e).toNat = Nf (6 * x + e).toNat) ∧ ∀ j : Int, 0 ≤ j → (j < 6 * y ∨ 6 * y + 6 ≤ j) → Nfq41 j.toNat = Nf j.toNat from ⟨fun e h1 h2 => hw2 e h1 (by omega), fun j h1 h2 => hk2 j h1 (by omega)⟩)⟩ (hP.sub [0, 1, 2] rfl) (hD.sub [0, 1, 2] rfl rfl) dX12_copies_75
            ·
              have c_2 := mt (zle (x := iZ 6) (y := iZ v3_41) rfl rfl wn_6 ⟨by omega, by omega⟩).mpr c_2
              refine lv_aload_n hx hb dX12_copies_47 rfl (lv_at hl 1 rfl) ?_
              refine va_get (D := D) (ci := 12) (v := .ref Mn) (C := RX12) (T := TX12) (N := 36) hx hb hts iX12 hown hK hP 0 rfl rfl 1 (bl rfl) (hts _ qf_X12_13) (fun _ h => h) f1 dX12_copies_48 ?_
              refine lv_bipush (v := iZ 6) hx hb dX12_copies_51 bip_6 ?_
              refine lv_iload_n hx hb dX12_copies_53 rfl (lv_at hl 3 rfl) ?_
              refine lv_imul hx hb dX12_copies_54 ?_
              refine lv_topi (fun x_3 ex_3 => ?_)
              obtain rfl : x_3 = iZ (6 * y) := ex_3.trans (iZ_mul 6 y)
              refine lv_iload_n hx hb dX12_copies_55 rfl (lv_at hl 0 rfl) ?_
              refine lv_iadd hx hb dX12_copies_56 ?_
              refine lv_topi (fun x_4 ex_4 => ?_)
              obtain rfl : x_4 = iZ ((6 * y) + v3_41) := ex_4.trans (iZ_add (6 * y) v3_41)
              refine lv_aload_n hx hb dX12_copies_57 rfl (lv_at hl 1 rfl) ?_
              refine va_get (D := D) (ci := 12) (v := .ref Mn) (C := RX12) (T := TX12) (N := 36) hx hb hts iX12 hown hK hP 0 rfl rfl 1 (bl rfl) (hts _ qf_X12_13) (fun _ h => h) f1 dX12_copies_58 ?_
              refine lv_bipush (v := iZ 6) hx hb dX12_copies_61 bip_6 ?_
              refine lv_iload_n hx hb dX12_copies_63 rfl (lv_at hl 2 rfl) ?_
              refine lv_imul hx hb dX12_copies_64 ?_
              refine lv_topi (fun x_5 ex_5 => ?_)
              obtain rfl : x_5 = iZ (6 * x) := ex_5.trans (iZ_mul 6 x)
              refine lv_iload_n hx hb dX12_copies_65 rfl (lv_at hl 0 rfl) ?_
              refine lv_iadd hx hb dX12_copies_66 ?_
              refine lv_topi (fun x_6 ex_6 => ?_)
              obtain rfl : x_6 = iZ ((6 * x) + v3_41) := ex_6.trans (iZ_add (6 * x) v3_41)
              refine va_lald hx hb hK hP 2 2 rfl rfl (zin (e := ((6 * x) + v3_41)) (n := 36) ⟨by omega, by omega⟩ (bl rfl)) dX12_copies_67 ?_
              refine lv_topl (fun y_7 ey_7 => ?_)
              refine va_last hx hb hK hP hD hS 2 2 rfl rfl (zin (e := ((6 * y) + v3_41)) (n := 36) ⟨by omega, by omega⟩ (bl rfl)) dX12_copies_68 (fun H locs hP hD hS => ?_)
              obtain ⟨f_8, hf_8⟩ : ∃ gg9, gg9 = vp_updL Nfq41 (iZ ((6 * y) + v3_41)).toNatClampNeg y_7 := ⟨_, rfl⟩
              rw [← hf_8] at hP hD
              refine lv_iinc (v := iZ (v3_41 + 1)) (lv' := [(3, .int (iZ (v3_41 + 1))), (0, .ref hm), (1, .int (iZ x)), (2, .int (iZ y))]) hx hb dX12_copies_69 hl (k := 0) rfl (iZ_add v3_41 1) (by decide) rfl (fun ls hl => ?_)
              refine lv_goto (tgt := 41) hx hb dX12_copies_72 rfl ?_
              exact ih41  (v3_41 + 1) f_8 _ _ _ (by omega) (show (0 ≤ (v3_41 + 1) ∧ (v3_41 + 1) ≤ (5) + 1) from ⟨by omega, by omega⟩) (show ∀ e : Int, 0 ≤ e → e < (v3_41 + 1) → f_8 (6 * y + e).toNat = Nf (6 * x + e).toNat from (fun e h1 h2 => (gl_up (j := 6 * y + e) hf_8 ⟨by omega, by omega⟩ (by omega)).elim (fun c => c.2.trans (ey_7.trans (by rw [zcl ⟨by omega, by omega⟩, show e = v3_41 from (by omega)]; exact hk2 (6 * x + v3_41) (by omega) (by omega)))) (fun c => c.2.trans (hw2 e h1 (by omega))))) (show ∀ j : Int, 0 ≤ j → (j < 6 * y ∨ 6 * y + (v3_41 + 1) ≤ j) → f_8 j.toNat = Nf j.toNat from (fun j h1 h2 => (gl_up (j := j) hf_8 ⟨by omega, by omega⟩ h1).elim (fun c => absurd c.1 (by omega)) (fun c => c.2.trans (hk2 j h1 (by omega))))) (hP.sub [0, 1, 2] rfl) (hD.sub [0, 1, 2] rfl rfl) hS (lv_sub hl [0, 1, 2, 3] rfl)
        exact HL41 9 0 Nf _ _ _ (by omega) (show (0 ≤ 0 ∧ 0 ≤ (5) + 1) from ⟨by omega, by omega⟩) (show ∀ e : Int, 0 ≤ e → e < 0 → Nf (6 * y + e).toNat = Nf (6 * x + e).toNat from (fun e h1 h2 => absurd h1 (by omega))) (show ∀ j : Int, 0 ≤ j → (j < 6 * y ∨ 6 * y + 0 ≤ j) → Nf j.toNat = Nf j.toNat from (fun j h1 h2 => rfl)) (hP.sub [0, 1, 2] rfl) (hD.sub [0, 1, 2] rfl rfl) hS (lv_sub hl [0, 1, 2, 3] rfl)
      ·
        have c_1 := mt (zle (x := iZ 890) (y := iZ v3_2) rfl rfl wn_890 ⟨by omega, by omega⟩).mpr c_1
        refine lv_aload_n hx hb dX12_copies_9 rfl (lv_at hl 1 rfl) ?_
        refine va_get (D := D) (ci := 12) (v := .ref Ma) (C := RX12) (T := TX12) (N := 36) hx hb hts iX12 hown hK hP 0 rfl rfl 0 (bl rfl) (hts _ qf_X12_7) (fun _ h => h) f0 dX12_copies_10 ?_
        refine lv_sipush (v := iZ 890) hx hb dX12_copies_13 sip_890 ?_
        refine lv_iload_n hx hb dX12_copies_16 rfl (lv_at hl 3 rfl) ?_
        refine lv_imul hx hb dX12_copies_17 ?_
        refine lv_topi (fun x_9 ex_9 => ?_)
        obtain rfl : x_9 = iZ (890 * y) := ex_9.trans (iZ_mul 890 y)
        refine lv_iload_n hx hb dX12_copies_18 rfl (lv_at hl 0 rfl) ?_
        refine lv_iadd hx hb dX12_copies_19 ?_
        refine lv_topi (fun x_10 ex_10 => ?_)
        obtain rfl : x_10 = iZ ((890 * y) + v3_2) := ex_10.trans (iZ_add (890 * y) v3_2)
        refine lv_aload_n hx hb dX12_copies_20 rfl (lv_at hl 1 rfl) ?_
        refine va_get (D := D) (ci := 12) (v := .ref Ma) (C := RX12) (T := TX12) (N := 36) hx hb hts iX12 hown hK hP 0 rfl rfl 0 (bl rfl) (hts _ qf_X12_7) (fun _ h => h) f0 dX12_copies_21 ?_
        refine lv_sipush (v := iZ 890) hx hb dX12_copies_24 sip_890 ?_
        refine lv_iload_n hx hb dX12_copies_27 rfl (lv_at hl 2 rfl) ?_
        refine lv_imul hx hb dX12_copies_28 ?_
        refine lv_topi (fun x_11 ex_11 => ?_)
        obtain rfl : x_11 = iZ (890 * x) := ex_11.trans (iZ_mul 890 x)
        refine lv_iload_n hx hb dX12_copies_29 rfl (lv_at hl 0 rfl) ?_
        refine lv_iadd hx hb dX12_copies_30 ?_
        refine lv_topi (fun x_12 ex_12 => ?_)
        obtain rfl : x_12 = iZ ((890 * x) + v3_2) := ex_12.trans (iZ_add (890 * x) v3_2)
        refine va_iald hx hb hK hP 1 1 rfl rfl (zin (e := ((890 * x) + v3_2)) (n := 5340) ⟨by omega, by omega⟩ (bl rfl)) dX12_copies_31 ?_
        refine lv_topi (fun x_13 ex_13 => ?_)
        obtain rfl : x_13 = iZ (gz Afq2 ((890 * x) + v3_2)) := ex_13.trans (gz_eq ⟨by omega, by omega⟩)
        have h_14 := gz_rg Afq2 ((890 * x) + v3_2)
        refine va_iast hx hb hK hP hD hS 1 1 rfl rfl (zin (e := ((890 * y) + v3_2)) (n := 5340) ⟨by omega, by omega⟩ (bl rfl)) dX12_copies_32 (fun H locs hP hD hS => ?_)
        obtain ⟨f_15, hf_15⟩ : ∃ gg9, gg9 = upd Afq2 (iZ ((890 * y) + v3_2)).toNatClampNeg (iZ (gz Afq2 ((890 * x) + v3_2))) := ⟨_, rfl⟩
        rw [← hf_15] at hP hD
        refine lv_iinc (v := iZ (v3_2 + 1)) (lv' := [(3, .int (iZ (v3_2 + 1))), (0, .ref hm), (1, .int (iZ x)), (2, .int (iZ y))]) hx hb dX12_copies_33 hl (k := 0) rfl (iZ_add v3_2 1) (by decide) rfl (fun ls hl => ?_)
        refine lv_goto (tgt := 2) hx hb dX12_copies_36 rfl ?_
        exact ih2  (v3_2 + 1) f_15 _ _ _ (by omega) (show (0 ≤ (v3_2 + 1) ∧ (v3_2 + 1) ≤ (889) + 1) from ⟨by omega, by omega⟩) (show ∀ e : Int, 0 ≤ e → e < (v3_2 + 1) → gz f_15 (890 * y + e) = gz Af (890 * x + e) from (fun e h1 h2 => by have c1 := gz_upc (j := 890 * y + e) hf_15 ⟨by omega, by omega⟩ ⟨by omega, by omega⟩ (by omega); rcases Int.lt_or_eq_of_le (show e ≤ v3_2 by omega) with h3 | h3; have := hw1 e h1 h3; omega; rw [h3] at c1 ⊢; have c2 := hk1 (890 * x + v3_2) (by omega) (by omega); omega)) (show ∀ e : Int, 0 ≤ e → (e < 890 * y ∨ 890 * y + (v3_2 + 1) ≤ e) → gz f_15 e = gz Af e from (fun e h1 h2 => by have c1 := gz_upc (j := e) hf_15 ⟨by omega, by omega⟩ ⟨by omega, by omega⟩ (by omega); have := hk1 e h1 (by omega); omega)) (hP.sub [0, 1, 2] rfl) (hD.sub [0, 1, 2] rfl rfl) hS (lv_sub hl [0, 1, 2, 3] rfl)
  exact HL2 893 0 Af _ _ _ (by omega) (show (0 ≤ 0 ∧ 0 ≤ (889) + 1) from ⟨by omega, by omega⟩) (show ∀ e : Int, 0 ≤ e → e < 0 → gz Af (890 * y + e) = gz Af (890 * x + e) from (fun e h1 h2 => absurd h1 (by omega))) (show ∀ e : Int, 0 ≤ e → (e < 890 * y ∨ 890 * y + 0 ≤ e) → gz Af e = gz Af e from (fun e h1 h2 => rfl)) (hP.sub [0, 1, 2] rfl) (hD.sub [0, 1, 2] rfl rfl) hS (lv_sub hl [0, 1, 2, 3] rfl)
/-- what is kept of the marks -/
def MK (f : Nat → Int32) (n : Int) : Prop := ∀ m : Int, 1 ≤ m → m ≤ n → M0 (sh f (890 * m))
theorem MK.keep {f g : Nat → Int32} {n : Int} (hn : n ≤ 3) (h : MK f n) (hg : ∀ e : Int, 890 ≤ e → e < 3560 → gz g e = gz f e) : MK g n := fun m h1 h2 =>
  M0.like (fun e a _ c => by rw [gz_sh (by omega) a, gz_sh (by omega) a]; exact hg _ (by omega) (by omega)) (h m h1 h2)
theorem MK.mark {f g : Nat → Int32} {n : Int} (hn : 0 ≤ n ∧ n < 3) (hf : M0 f) (h : MK f n) (h1 : ∀ e : Int, 0 ≤ e → e < 890 → gz g (890 * (n + 1) + e) = gz f (890 * 0 + e)) (h2 : ∀ j : Int, 0 ≤ j → (j < 890 * (n + 1) ∨ 890 * (n + 1) + 890 ≤ j) → gz g j = gz f j) : MK g (n + 1) ∧ M0 g := by
  refine ⟨fun m a b => ?_, M0.like (fun e a b c => h2 e a (by omega)) hf⟩
  rcases Int.lt_or_eq_of_le b with q | q
  · exact M0.like (fun e a2 _ c => by rw [gz_sh (by omega) a2, gz_sh (by omega) a2]; exact h2 _ (by omega) (by omega)) (h m a (by omega))
  · exact M0.like (fun e a2 _ c => by rw [q, gz_sh (by omega) a2, h1 e a2 (by omega)]; congr 1; omega) hf
theorem MK.back {f g : Nat → Int32} {n : Int} (hn : 1 ≤ n ∧ n ≤ 3) (h : MK f n) (h1 : ∀ e : Int, 0 ≤ e → e < 890 → gz g (890 * 0 + e) = gz f (890 * n + e)) (h2 : ∀ j : Int, 0 ≤ j → (j < 890 * 0 ∨ 890 * 0 + 890 ≤ j) → gz g j = gz f j) : MK g (n - 1) ∧ M0 g := by
  refine ⟨fun m a b => M0.like (fun e a2 _ c => by rw [gz_sh (by omega) a2, gz_sh (by omega) a2]; exact h2 _ (by omega) (by omega)) (h m a (by omega)), M0.like (fun e a2 _ c => ?_) (h n hn.1 (Int.le_refl n))⟩
  have := h1 e a2 (by omega)
  rw [show 890 * 0 + e = e by omega] at this
  rw [this, gz_sh (by omega) a2]
set_option maxHeartbeats 4000000 in
set_option maxRecDepth 100000 in
theorem q_mark (l : Launch) (D : va_G) (k : Nat → ClassId) (hm : Nat) (Ma : Nat) (Mn : Nat) (Ms : Nat) (My : Nat) (Mt : Nat) (Mp : Nat) (Mx : Nat) (Mo : Nat) (Mk : Nat) (Ml : Nat) (Mb : Nat) (Mh : Nat) (Mc : Nat) (Mz : Nat) (Mr : Nat) (Mq : Nat) (Mst : Int) (Mtd : Int) (Msz : Int) (Mtk : Int) (Mfr : Int) (Men : Int) (Mva : Int) (Mfk : Int) (Mfp : Int) (Mfs : Int) (Mse : Int) (Mlt : Int) (Mdp : Int) (Mct : Int) (Mdr : Int) (Mrs : Int) (Mit : Int) (Mmk : Int) (Mtp : Int64) (Mbt : Int64) (Af : Nat → Int32) (Nf : Nat → Int64) (hM : M0 Af) (hmk : 0 ≤ Mmk ∧ Mmk ≤ 3) (hMK : MK Af Mmk) : WD (σ := ((Int × Int × Int) × (Int64) × ((Nat → Int32)) × ((Nat → Int64)))) l yX12_mark cX12_mark 1 (some .int) 1 0 0 D k [.ref hm] [(hm, .inr (12, [.ref Ma, .ref Mn, .int (iZ Mst), .long Mtp, .long Mbt, .ref Ms, .ref My, .ref Mt, .ref Mp, .ref Mx, .int (iZ Mtd), .int (iZ Msz), .int (iZ Mtk), .int (iZ Mfr), .int (iZ Men), .int (iZ Mva), .int (iZ Mfk), .int (iZ Mfp), .int (iZ Mfs), .int (iZ Mse), .int (iZ Mlt), .ref Mo, .int (iZ Mdp), .int (iZ Mct), .ref Mk, .ref Ml, .ref Mb, .ref Mh, .ref Mc, .int (iZ Mdr), .int (iZ Mrs), .ref Mz, .ref Mr, .ref Mq, .int (iZ Mit), .int (iZ Mmk)])), (Ma, .inl (k 1, 5340, .inl Af)), (Mn, .inl (k 2, 36, .inr (.inl Nf)))] (fun u => some (.int (iZ u.1.1))) (fun u => (0 ≤ u.1.2.2 ∧ u.1.2.2 ≤ 3) ∧ (MK u.2.2.1 u.1.2.2 ∧ M0 u.2.2.1) ∧ ((Mmk = 3 ∧ u.1.1 = -1 ∧ u.1.2.2 = 3) ∨ (Mmk < 3 ∧ u.1.1 = Mmk + 1 ∧ u.1.2.2 = Mmk + 1)) ∧ (((Mmk : Int) < 3 → (∀ e : Int, 0 ≤ e → e < 6 → u.2.2.2 (6 * (Mmk + 1) + e).toNat = Nf e.toNat) ∧ ∀ j : Int, 0 ≤ j → (j < 6 * (Mmk + 1) ∨ 6 * (Mmk + 1) + 6 ≤ j) → u.2.2.2 j.toNat = Nf j.toNat) ∧ (¬ (Mmk : Int) < 3 → u.2.2.2 = Nf)) ∧ (((Mmk : Int) < 3 → (∀ e : Int, 0 ≤ e → e < 890 → gz u.2.2.1 (890 * (Mmk + 1) + e) = gz Af e) ∧ ∀ j : Int, 0 ≤ j → (j < 890 * (Mmk + 1) ∨ 890 * (Mmk + 1) + 890 ≤ j) → gz u.2.2.1 j = gz Af j) ∧ (¬ (Mmk : Int) < 3 → u.2.2.1 = Af))) (fun u => [(hm, .inr (12, [.ref Ma, .ref Mn, .int (iZ u.1.2.1), .long Mtp, .long Mbt, .ref Ms, .ref My, .ref Mt, .ref Mp, .ref Mx, .int (iZ Mtd), .int (iZ Msz), .int (iZ Mtk), .int (iZ Mfr), .int (iZ Men), .int (iZ Mva), .int (iZ Mfk), .int (iZ Mfp), .int (iZ Mfs), .int (iZ Mse), .int (iZ Mlt), .ref Mo, .int (iZ Mdp), .int (iZ Mct), .ref Mk, .ref Ml, .ref Mb, .ref Mh, .ref Mc, .int (iZ Mdr), .int (iZ Mrs), .ref Mz, .ref Mr, .ref Mq, .int (iZ Mit), .int (iZ u.1.2.2)])), (Ma, .inl (k 1, 5340, .inl u.2.2.1)), (Mn, .inl (k 2, 36, .inr (.inl u.2.2.2)))]) := by
  refine MW (by decide) (Nat.le_of_ble_eq_true rfl) (fun p e s m below meth c ls A hx hb hml hr hlocks hin hts hown hKK hP hD hS hA hl => ?_)
  have hK := hKK.1
  have hl : lv_has ls 1 [(0, .ref hm)] := hl
  obtain ⟨m0, m1, m3, m4, m5, mF, mO, mS⟩ := id hM
  refine lv_aload_n hx hb dX12_mark_0 rfl (lv_at hl 0 rfl) ?_
  refine va_get (D := D) (ci := 12) (v := .int (iZ Mmk)) (C := RX12) (T := TX12) (N := 36) hx hb hts iX12 hown hK hP 0 rfl rfl 35 (bl rfl) (hts _ qf_X12_412) (fun _ h => h) rfl dX12_mark_1 ?_
  refine lv_iconst (v := iZ 3) hx hb dX12_mark_4 rfl ?_
  refine lv_icmp_ne (tgt := 14) hx hb dX12_mark_5 rfl (fun c_1 => ?_) (fun c_1 => ?_)
  ·
    have c_1 := mt (zeq (x := iZ Mmk) (y := iZ 3) rfl rfl ⟨by omega, by omega⟩ wn_3).mpr c_1
    refine lv_aload_n hx hb dX12_mark_14 rfl (lv_at hl 0 rfl) ?_
    refine lv_dup hx hb dX12_mark_15 rfl ?_
    refine va_get (D := D) (ci := 12) (v := .int (iZ Mmk)) (C := RX12) (T := TX12) (N := 36) hx hb hts iX12 hown hK hP 0 rfl rfl 35 (bl rfl) (hts _ qf_X12_412) (fun _ h => h) rfl dX12_mark_16 ?_
    refine lv_iconst (v := iZ 1) hx hb dX12_mark_19 rfl ?_
    refine lv_iadd hx hb dX12_mark_20 ?_
    refine lv_topi (fun x_2 ex_2 => ?_)
    obtain rfl : x_2 = iZ (Mmk + 1) := ex_2.trans (iZ_add Mmk 1)
    refine va_put (D := D) (ci := 12) (v := .int (iZ (Mmk + 1))) (ty := .int) (C := RX12) (T := TX12) (N := 36) hx hb hts iX12 tyX12 tyX12_ok nmX12 hown hK hP hD hS 0 rfl rfl 35 (bl rfl) (hts _ qf_X12_412) (fun _ h => h) rfl (by decide +kernel) rfl rfl (Nat.le_of_ble_eq_true rfl) dX12_mark_21 (fun H locs hP hD hS => ?_)
    refine lv_aload_n hx hb dX12_mark_24 rfl (lv_at hl 0 rfl) ?_
    refine lv_iconst (v := iZ 0) hx hb dX12_mark_25 rfl ?_
    refine lv_aload_n hx hb dX12_mark_26 rfl (lv_at hl 0 rfl) ?_
    refine va_get (D := D) (ci := 12) (v := .int (iZ (Mmk + 1))) (C := RX12) (T := TX12) (N := 36) hx hb hts iX12 hown hK hP 0 rfl rfl 35 (bl rfl) (hts _ qf_X12_412) (fun _ h => h) rfl dX12_mark_27 ?_
    refine CWV (As := [.int (iZ 0), .int (iZ (Mmk + 1))]) (rest := []) (wc := _) (wr := []) hx hb hml hown hts hKK hP hD hS hA (m_copies l D k ([.ref Ma, .ref Mn, .int (iZ Mst), .long Mtp, .long Mbt, .ref Ms, .ref My, .ref Mt, .ref Mp, .ref Mx, .int (iZ Mtd), .int (iZ Msz), .int (iZ Mtk), .int (iZ Mfr), .int (iZ Men), .int (iZ Mva), .int (iZ Mfk), .int (iZ Mfp), .int (iZ Mfs), .int (iZ Mse), .int (iZ Mlt), .ref Mo, .int (iZ Mdp), .int (iZ Mct), .ref Mk, .ref Ml, .ref Mb, .ref Mh, .ref Mc, .int (iZ Mdr), .int (iZ Mrs), .ref Mz, .ref Mr, .ref Mq, .int (iZ Mit), .int (iZ (Mmk + 1))]) hm Ma Mn Af Nf 0 (Mmk + 1) rfl rfl ⟨by omega, by omega⟩ ⟨by omega, by omega⟩ (by omega)) ci_X12_copies qm_X12_415 ⟨Nat.le_of_ble_eq_true rfl, Nat.le_of_ble_eq_true rfl⟩ ⟨Nat.le_of_ble_eq_true rfl, Nat.le_of_ble_eq_true rfl⟩ [0, 1, 2] [] rfl rfl rfl rfl rfl (dj rfl) 0 rfl rfl rfl hl.1 rfl (Nat.le_of_ble_eq_true rfl) dX12_mark_30 (fun u_3 H locs hφ hP hD hS => ?_)
    obtain ⟨p_4, p_5⟩ : ((∀ e : Int, 0 ≤ e → e < 890 → gz u_3.2.2.1 (890 * (Mmk + 1) + e) = gz Af (890 * 0 + e)) ∧ ∀ j : Int, 0 ≤ j → (j < 890 * (Mmk + 1) ∨ 890 * (Mmk + 1) + 890 ≤ j) → gz u_3.2.2.1 j = gz Af j) ∧ ((∀ e : Int, 0 ≤ e → e < 6 → u_3.2.2.2 (6 * (Mmk + 1) + e).toNat = Nf (6 * 0 + e).toNat) ∧ ∀ j : Int, 0 ≤ j → (j < 6 * (Mmk + 1) ∨ 6 * (Mmk + 1) + 6 ≤ j) → u_3.2.2.2 j.toNat = Nf j.toNat) := hφ
    refine W.eq (g2 := F0 m 33 ls []) rfl ?_
    refine lv_aload_n hx hb dX12_mark_33 rfl (lv_at hl 0 rfl) ?_
    refine lv_aload_n hx hb dX12_mark_34 rfl (lv_at hl 0 rfl) ?_
    refine va_get (D := D) (ci := 12) (v := .int (iZ (Mmk + 1))) (C := RX12) (T := TX12) (N := 36) hx hb hts iX12 hown hK hP 0 rfl rfl 35 (bl rfl) (hts _ qf_X12_412) (fun _ h => h) rfl dX12_mark_35 ?_
    refine CWV (As := [.int (iZ (Mmk + 1))]) (rest := []) (wc := _) (wr := [(Ma, .inl (k 1, 5340, .inl u_3.2.2.1)), (Mn, .inl (k 2, 36, .inr (.inl u_3.2.2.2)))]) hx hb hml hown hts hKK hP hD hS hA (m_gives l D k hm Ma Mn Ms My Mt Mp Mx Mo Mk Ml Mb Mh Mc Mz Mr Mq Mst Mtd Msz Mtk Mfr Men Mva Mfk Mfp Mfs Mse Mlt Mdp Mct Mdr Mrs Mit (Mmk + 1) Mtp Mbt (Mmk + 1)) ci_X12_gives qm_X12_85 ⟨Nat.le_of_ble_eq_true rfl, Nat.le_of_ble_eq_true rfl⟩ ⟨Nat.le_of_ble_eq_true rfl, Nat.le_of_ble_eq_true rfl⟩ [0] [1, 2] rfl rfl rfl rfl rfl (dj rfl) 0 rfl rfl rfl hl.1 rfl (Nat.le_of_ble_eq_true rfl) dX12_mark_38 (fun u_6 H locs hφ hP hD hS => ?_)
    refine W.eq (g2 := F0 m 41 ls [.int (iZ (Mmk + 1))]) rfl ?_
    exact EWi hx hb hr hlocks hS (((Mmk + 1), 0, (Mmk + 1)), 0, u_3.2.2.1, u_3.2.2.2) rfl ⟨(show 0 ≤ (Mmk + 1) ∧ (Mmk + 1) ≤ 3 from (by omega)), (show MK u_3.2.2.1 (Mmk + 1) ∧ M0 u_3.2.2.1 from (MK.mark (n := Mmk) ⟨by omega, by omega⟩ hM hMK p_4.1 p_4.2)), (show (Mmk = 3 ∧ (Mmk + 1) = -1 ∧ (Mmk + 1) = 3) ∨ (Mmk < 3 ∧ (Mmk + 1) = Mmk + 1 ∧ (Mmk + 1) = Mmk + 1) from (by omega)), (show ((Mmk : Int) < 3 → (∀ e : Int, 0 ≤ e → e < 6 → u_3.2.2.2 (6 * (Mmk + 1) + e).toNat = Nf e.toNat) ∧ ∀ j : Int, 0 ≤ j → (j < 6 * (Mmk + 1) ∨ 6 * (Mmk + 1) + 6 ≤ j) → u_3.2.2.2 j.toNat = Nf j.toNat) ∧ (¬ (Mmk : Int) < 3 → u_3.2.2.2 = Nf) from ⟨fun _ => ⟨fun e h1 h2 => by have h9 := p_5.1 e h1 h2; rw [show 6 * 0 + e = e by omega] at h9; exact h9, p_5.2⟩, fun h => absurd (show Mmk < 3 from (by omega)) h⟩), (show ((Mmk : Int) < 3 → (∀ e : Int, 0 ≤ e → e < 890 → gz u_3.2.2.1 (890 * (Mmk + 1) + e) = gz Af e) ∧ ∀ j : Int, 0 ≤ j → (j < 890 * (Mmk + 1) ∨ 890 * (Mmk + 1) + 890 ≤ j) → gz u_3.2.2.1 j = gz Af j) ∧ (¬ (Mmk : Int) < 3 → u_3.2.2.1 = Af) from ⟨fun _ => ⟨fun e h1 h2 => by have h9 := p_4.1 e h1 h2; rw [show 890 * 0 + e = e by omega] at h9; exact h9, p_4.2⟩, fun h => absurd (show Mmk < 3 from (by omega)) h⟩)⟩ (hP.sub [2, 0, 1] rfl) (hD.sub [2, 0, 1] rfl rfl) dX12_mark_41
  ·
    have c_1 := (zeq (x := iZ Mmk) (y := iZ 3) rfl rfl ⟨by omega, by omega⟩ wn_3).mp c_1
    refine lv_aload_n hx hb dX12_mark_8 rfl (lv_at hl 0 rfl) ?_
    refine lv_iconst (v := iZ 4) hx hb dX12_mark_9 rfl ?_
    refine CWV (As := [.int (iZ 4)]) (rest := []) (wc := _) (wr := [(Ma, .inl (k 1, 5340, .inl Af)), (Mn, .inl (k 2, 36, .inr (.inl Nf)))]) hx hb hml hown hts hKK hP hD hS hA (m_refuse l D k hm Ma Mn Ms My Mt Mp Mx Mo Mk Ml Mb Mh Mc Mz Mr Mq Mst Mtd Msz Mtk Mfr Men Mva Mfk Mfp Mfs Mse Mlt Mdp Mct Mdr Mrs Mit Mmk Mtp Mbt 4) ci_X12_refuse qm_X12_81 ⟨Nat.le_of_ble_eq_true rfl, Nat.le_of_ble_eq_true rfl⟩ ⟨Nat.le_of_ble_eq_true rfl, Nat.le_of_ble_eq_true rfl⟩ [0] [1, 2] rfl rfl rfl rfl rfl (dj rfl) 0 rfl rfl rfl hl.1 rfl (Nat.le_of_ble_eq_true rfl) dX12_mark_10 (fun u_7 H locs hφ hP hD hS => ?_)
    refine W.eq (g2 := F0 m 13 ls [.int (iZ (-1))]) rfl ?_
    exact EWi hx hb hr hlocks hS (((-1), 4, Mmk), 0, Af, Nf) rfl ⟨(show 0 ≤ Mmk ∧ Mmk ≤ 3 from (by omega)), (show MK Af Mmk ∧ M0 Af from ⟨hMK, hM⟩), (show (Mmk = 3 ∧ (-1) = -1 ∧ Mmk = 3) ∨ (Mmk < 3 ∧ (-1) = Mmk + 1 ∧ Mmk = Mmk + 1) from (by omega)), (show ((Mmk : Int) < 3 → (∀ e : Int, 0 ≤ e → e < 6 → Nf (6 * (Mmk + 1) + e).toNat = Nf e.toNat) ∧ ∀ j : Int, 0 ≤ j → (j < 6 * (Mmk + 1) ∨ 6 * (Mmk + 1) + 6 ≤ j) → Nf j.toNat = Nf j.toNat) ∧ (¬ (Mmk : Int) < 3 → Nf = Nf) from ⟨fun h => absurd h (by omega), fun _ => rfl⟩), (show ((Mmk : Int) < 3 → (∀ e : Int, 0 ≤ e → e < 890 → gz Af (890 * (Mmk + 1) + e) = gz Af e) ∧ ∀ j : Int, 0 ≤ j → (j < 890 * (Mmk + 1) ∨ 890 * (Mmk + 1) + 890 ≤ j) → gz Af j = gz Af j) ∧ (¬ (Mmk : Int) < 3 → Af = Af) from ⟨fun h => absurd h (by omega), fun _ => rfl⟩)⟩ (hP.sub [2, 0, 1] rfl) (hD.sub [2, 0, 1] rfl rfl) dX12_mark_13
set_option maxHeartbeats 4000000 in
set_option maxRecDepth 100000 in
theorem q_back (l : Launch) (D : va_G) (k : Nat → ClassId) (hm : Nat) (Ma : Nat) (Mn : Nat) (Ms : Nat) (My : Nat) (Mt : Nat) (Mp : Nat) (Mx : Nat) (Mo : Nat) (Mk : Nat) (Ml : Nat) (Mb : Nat) (Mh : Nat) (Mc : Nat) (Mz : Nat) (Mr : Nat) (Mq : Nat) (Mst : Int) (Mtd : Int) (Msz : Int) (Mtk : Int) (Mfr : Int) (Men : Int) (Mva : Int) (Mfk : Int) (Mfp : Int) (Mfs : Int) (Mse : Int) (Mlt : Int) (Mdp : Int) (Mct : Int) (Mdr : Int) (Mrs : Int) (Mit : Int) (Mmk : Int) (Mtp : Int64) (Mbt : Int64) (Af : Nat → Int32) (Nf : Nat → Int64) (hM : M0 Af) (hmk : 0 ≤ Mmk ∧ Mmk ≤ 3) (hMK : MK Af Mmk) : WD (σ := ((Int × Int × Int) × (Int64) × ((Nat → Int32)) × ((Nat → Int64)))) l yX12_back cX12_back 1 (some .int) 1 0 0 D k [.ref hm] [(hm, .inr (12, [.ref Ma, .ref Mn, .int (iZ Mst), .long Mtp, .long Mbt, .ref Ms, .ref My, .ref Mt, .ref Mp, .ref Mx, .int (iZ Mtd), .int (iZ Msz), .int (iZ Mtk), .int (iZ Mfr), .int (iZ Men), .int (iZ Mva), .int (iZ Mfk), .int (iZ Mfp), .int (iZ Mfs), .int (iZ Mse), .int (iZ Mlt), .ref Mo, .int (iZ Mdp), .int (iZ Mct), .ref Mk, .ref Ml, .ref Mb, .ref Mh, .ref Mc, .int (iZ Mdr), .int (iZ Mrs), .ref Mz, .ref Mr, .ref Mq, .int (iZ Mit), .int (iZ Mmk)])), (Ma, .inl (k 1, 5340, .inl Af)), (Mn, .inl (k 2, 36, .inr (.inl Nf)))] (fun u => some (.int (iZ u.1.1))) (fun u => (0 ≤ u.1.2.2 ∧ u.1.2.2 ≤ 3) ∧ (MK u.2.2.1 u.1.2.2 ∧ M0 u.2.2.1) ∧ ((Mmk = 0 ∧ u.1.1 = -1 ∧ u.1.2.2 = 0) ∨ (0 < Mmk ∧ u.1.1 = Mmk - 1 ∧ u.1.2.2 = Mmk - 1)) ∧ ((0 < (Mmk : Int) → (∀ e : Int, 0 ≤ e → e < 6 → u.2.2.2 e.toNat = Nf (6 * Mmk + e).toNat) ∧ ∀ j : Int, 6 ≤ j → u.2.2.2 j.toNat = Nf j.toNat) ∧ (¬ 0 < (Mmk : Int) → u.2.2.2 = Nf)) ∧ ((0 < (Mmk : Int) → (∀ e : Int, 0 ≤ e → e < 890 → gz u.2.2.1 e = gz Af (890 * Mmk + e)) ∧ ∀ j : Int, 890 ≤ j → gz u.2.2.1 j = gz Af j) ∧ (¬ 0 < (Mmk : Int) → u.2.2.1 = Af))) (fun u => [(hm, .inr (12, [.ref Ma, .ref Mn, .int (iZ u.1.2.1), .long Mtp, .long Mbt, .ref Ms, .ref My, .ref Mt, .ref Mp, .ref Mx, .int (iZ Mtd), .int (iZ Msz), .int (iZ Mtk), .int (iZ Mfr), .int (iZ Men), .int (iZ Mva), .int (iZ Mfk), .int (iZ Mfp), .int (iZ Mfs), .int (iZ Mse), .int (iZ Mlt), .ref Mo, .int (iZ Mdp), .int (iZ Mct), .ref Mk, .ref Ml, .ref Mb, .ref Mh, .ref Mc, .int (iZ Mdr), .int (iZ Mrs), .ref Mz, .ref Mr, .ref Mq, .int (iZ Mit), .int (iZ u.1.2.2)])), (Ma, .inl (k 1, 5340, .inl u.2.2.1)), (Mn, .inl (k 2, 36, .inr (.inl u.2.2.2)))]) := by
  refine MW (by decide) (Nat.le_of_ble_eq_true rfl) (fun p e s m below meth c ls A hx hb hml hr hlocks hin hts hown hKK hP hD hS hA hl => ?_)
  have hK := hKK.1
  have hl : lv_has ls 1 [(0, .ref hm)] := hl
  obtain ⟨m0, m1, m3, m4, m5, mF, mO, mS⟩ := id hM
  refine lv_aload_n hx hb dX12_back_0 rfl (lv_at hl 0 rfl) ?_
  refine va_get (D := D) (ci := 12) (v := .int (iZ Mmk)) (C := RX12) (T := TX12) (N := 36) hx hb hts iX12 hown hK hP 0 rfl rfl 35 (bl rfl) (hts _ qf_X12_412) (fun _ h => h) rfl dX12_back_1 ?_
  refine lv_if_ne (tgt := 14) hx hb dX12_back_4 rfl (fun c_1 => ?_) (fun c_1 => ?_)
  ·
    have c_1 := mt (zeq (x := iZ Mmk) (y := iZ 0) rfl rfl ⟨by omega, by omega⟩ wn_0).mpr c_1
    refine lv_aload_n hx hb dX12_back_14 rfl (lv_at hl 0 rfl) ?_
    refine lv_aload_n hx hb dX12_back_15 rfl (lv_at hl 0 rfl) ?_
    refine va_get (D := D) (ci := 12) (v := .int (iZ Mmk)) (C := RX12) (T := TX12) (N := 36) hx hb hts iX12 hown hK hP 0 rfl rfl 35 (bl rfl) (hts _ qf_X12_412) (fun _ h => h) rfl dX12_back_16 ?_
    refine lv_iconst (v := iZ 0) hx hb dX12_back_19 rfl ?_
    refine CWV (As := [.int (iZ Mmk), .int (iZ 0)]) (rest := []) (wc := _) (wr := []) hx hb hml hown hts hKK hP hD hS hA (m_copies l D k ([.ref Ma, .ref Mn, .int (iZ Mst), .long Mtp, .long Mbt, .ref Ms, .ref My, .ref Mt, .ref Mp, .ref Mx, .int (iZ Mtd), .int (iZ Msz), .int (iZ Mtk), .int (iZ Mfr), .int (iZ Men), .int (iZ Mva), .int (iZ Mfk), .int (iZ Mfp), .int (iZ Mfs), .int (iZ Mse), .int (iZ Mlt), .ref Mo, .int (iZ Mdp), .int (iZ Mct), .ref Mk, .ref Ml, .ref Mb, .ref Mh, .ref Mc, .int (iZ Mdr), .int (iZ Mrs), .ref Mz, .ref Mr, .ref Mq, .int (iZ Mit), .int (iZ Mmk)]) hm Ma Mn Af Nf Mmk 0 rfl rfl ⟨by omega, by omega⟩ ⟨by omega, by omega⟩ (by omega)) ci_X12_copies qm_X12_415 ⟨Nat.le_of_ble_eq_true rfl, Nat.le_of_ble_eq_true rfl⟩ ⟨Nat.le_of_ble_eq_true rfl, Nat.le_of_ble_eq_true rfl⟩ [0, 1, 2] [] rfl rfl rfl rfl rfl (dj rfl) 0 rfl rfl rfl hl.1 rfl (Nat.le_of_ble_eq_true rfl) dX12_back_20 (fun u_2 H locs hφ hP hD hS => ?_)
    obtain ⟨p_3, p_4⟩ : ((∀ e : Int, 0 ≤ e → e < 890 → gz u_2.2.2.1 (890 * 0 + e) = gz Af (890 * Mmk + e)) ∧ ∀ j : Int, 0 ≤ j → (j < 890 * 0 ∨ 890 * 0 + 890 ≤ j) → gz u_2.2.2.1 j = gz Af j) ∧ ((∀ e : Int, 0 ≤ e → e < 6 → u_2.2.2.2 (6 * 0 + e).toNat = Nf (6 * Mmk + e).toNat) ∧ ∀ j : Int, 0 ≤ j → (j < 6 * 0 ∨ 6 * 0 + 6 ≤ j) → u_2.2.2.2 j.toNat = Nf j.toNat) := hφ
    refine W.eq (g2 := F0 m 23 ls []) rfl ?_
    refine lv_aload_n hx hb dX12_back_23 rfl (lv_at hl 0 rfl) ?_
    refine lv_dup hx hb dX12_back_24 rfl ?_
    refine va_get (D := D) (ci := 12) (v := .int (iZ Mmk)) (C := RX12) (T := TX12) (N := 36) hx hb hts iX12 hown hK hP 0 rfl rfl 35 (bl rfl) (hts _ qf_X12_412) (fun _ h => h) rfl dX12_back_25 ?_
    refine lv_iconst (v := iZ 1) hx hb dX12_back_28 rfl ?_
    refine lv_isub hx hb dX12_back_29 ?_
    refine lv_topi (fun x_5 ex_5 => ?_)
    obtain rfl : x_5 = iZ (Mmk - 1) := ex_5.trans (iZ_sub Mmk 1)
    refine va_put (D := D) (ci := 12) (v := .int (iZ (Mmk - 1))) (ty := .int) (C := RX12) (T := TX12) (N := 36) hx hb hts iX12 tyX12 tyX12_ok nmX12 hown hK hP hD hS 0 rfl rfl 35 (bl rfl) (hts _ qf_X12_412) (fun _ h => h) rfl (by decide +kernel) rfl rfl (Nat.le_of_ble_eq_true rfl) dX12_back_30 (fun H locs hP hD hS => ?_)
    refine lv_aload_n hx hb dX12_back_33 rfl (lv_at hl 0 rfl) ?_
    refine lv_aload_n hx hb dX12_back_34 rfl (lv_at hl 0 rfl) ?_
    refine va_get (D := D) (ci := 12) (v := .int (iZ (Mmk - 1))) (C := RX12) (T := TX12) (N := 36) hx hb hts iX12 hown hK hP 0 rfl rfl 35 (bl rfl) (hts _ qf_X12_412) (fun _ h => h) rfl dX12_back_35 ?_
    refine CWV (As := [.int (iZ (Mmk - 1))]) (rest := []) (wc := _) (wr := [(Ma, .inl (k 1, 5340, .inl u_2.2.2.1)), (Mn, .inl (k 2, 36, .inr (.inl u_2.2.2.2)))]) hx hb hml hown hts hKK hP hD hS hA (m_gives l D k hm Ma Mn Ms My Mt Mp Mx Mo Mk Ml Mb Mh Mc Mz Mr Mq Mst Mtd Msz Mtk Mfr Men Mva Mfk Mfp Mfs Mse Mlt Mdp Mct Mdr Mrs Mit (Mmk - 1) Mtp Mbt (Mmk - 1)) ci_X12_gives qm_X12_85 ⟨Nat.le_of_ble_eq_true rfl, Nat.le_of_ble_eq_true rfl⟩ ⟨Nat.le_of_ble_eq_true rfl, Nat.le_of_ble_eq_true rfl⟩ [0] [1, 2] rfl rfl rfl rfl rfl (dj rfl) 0 rfl rfl rfl hl.1 rfl (Nat.le_of_ble_eq_true rfl) dX12_back_38 (fun u_6 H locs hφ hP hD hS => ?_)
    refine W.eq (g2 := F0 m 41 ls [.int (iZ (Mmk - 1))]) rfl ?_
    exact EWi hx hb hr hlocks hS (((Mmk - 1), 0, (Mmk - 1)), 0, u_2.2.2.1, u_2.2.2.2) rfl ⟨(show 0 ≤ (Mmk - 1) ∧ (Mmk - 1) ≤ 3 from (by omega)), (show MK u_2.2.2.1 (Mmk - 1) ∧ M0 u_2.2.2.1 from (MK.back (n := Mmk) ⟨by omega, by omega⟩ hMK p_3.1 p_3.2)), (show (Mmk = 0 ∧ (Mmk - 1) = -1 ∧ (Mmk - 1) = 0) ∨ (0 < Mmk ∧ (Mmk - 1) = Mmk - 1 ∧ (Mmk - 1) = Mmk - 1) from (by omega)), (show (0 < (Mmk : Int) → (∀ e : Int, 0 ≤ e → e < 6 → u_2.2.2.2 e.toNat = Nf (6 * Mmk + e).toNat) ∧ ∀ j : Int, 6 ≤ j → u_2.2.2.2 j.toNat = Nf j.toNat) ∧ (¬ 0 < (Mmk : Int) → u_2.2.2.2 = Nf) from ⟨fun _ => ⟨fun e h1 h2 => by have h9 := p_4.1 e h1 h2; rw [show 6 * 0 + e = e by omega] at h9; exact h9, fun j h1 => p_4.2 j (by omega) (by omega)⟩, fun h => absurd (show 0 < Mmk from (by omega)) h⟩), (show (0 < (Mmk : Int) → (∀ e : Int, 0 ≤ e → e < 890 → gz u_2.2.2.1 e = gz Af (890 * Mmk + e)) ∧ ∀ j : Int, 890 ≤ j → gz u_2.2.2.1 j = gz Af j) ∧ (¬ 0 < (Mmk : Int) → u_2.2.2.1 = Af) from ⟨fun _ => ⟨fun e h1 h2 => by have h9 := p_3.1 e h1 h2; rw [show 890 * 0 + e = e by omega] at h9; exact h9, fun j h1 => p_3.2 j (by omega) (by omega)⟩, fun h => absurd (show 0 < Mmk from (by omega)) h⟩)⟩ (hP.sub [2, 0, 1] rfl) (hD.sub [2, 0, 1] rfl rfl) dX12_back_41
  ·
    have c_1 := (zeq (x := iZ Mmk) (y := iZ 0) rfl rfl ⟨by omega, by omega⟩ wn_0).mp c_1
    refine lv_aload_n hx hb dX12_back_7 rfl (lv_at hl 0 rfl) ?_
    refine lv_bipush (v := iZ 6) hx hb dX12_back_8 bip_6 ?_
    refine CWV (As := [.int (iZ 6)]) (rest := []) (wc := _) (wr := [(Ma, .inl (k 1, 5340, .inl Af)), (Mn, .inl (k 2, 36, .inr (.inl Nf)))]) hx hb hml hown hts hKK hP hD hS hA (m_refuse l D k hm Ma Mn Ms My Mt Mp Mx Mo Mk Ml Mb Mh Mc Mz Mr Mq Mst Mtd Msz Mtk Mfr Men Mva Mfk Mfp Mfs Mse Mlt Mdp Mct Mdr Mrs Mit Mmk Mtp Mbt 6) ci_X12_refuse qm_X12_81 ⟨Nat.le_of_ble_eq_true rfl, Nat.le_of_ble_eq_true rfl⟩ ⟨Nat.le_of_ble_eq_true rfl, Nat.le_of_ble_eq_true rfl⟩ [0] [1, 2] rfl rfl rfl rfl rfl (dj rfl) 0 rfl rfl rfl hl.1 rfl (Nat.le_of_ble_eq_true rfl) dX12_back_10 (fun u_7 H locs hφ hP hD hS => ?_)
    refine W.eq (g2 := F0 m 13 ls [.int (iZ (-1))]) rfl ?_
    exact EWi hx hb hr hlocks hS (((-1), 6, Mmk), 0, Af, Nf) rfl ⟨(show 0 ≤ Mmk ∧ Mmk ≤ 3 from (by omega)), (show MK Af Mmk ∧ M0 Af from ⟨hMK, hM⟩), (show (Mmk = 0 ∧ (-1) = -1 ∧ Mmk = 0) ∨ (0 < Mmk ∧ (-1) = Mmk - 1 ∧ Mmk = Mmk - 1) from (by omega)), (show (0 < (Mmk : Int) → (∀ e : Int, 0 ≤ e → e < 6 → Nf e.toNat = Nf (6 * Mmk + e).toNat) ∧ ∀ j : Int, 6 ≤ j → Nf j.toNat = Nf j.toNat) ∧ (¬ 0 < (Mmk : Int) → Nf = Nf) from ⟨fun h => absurd h (by omega), fun _ => rfl⟩), (show (0 < (Mmk : Int) → (∀ e : Int, 0 ≤ e → e < 890 → gz Af e = gz Af (890 * Mmk + e)) ∧ ∀ j : Int, 890 ≤ j → gz Af j = gz Af j) ∧ (¬ 0 < (Mmk : Int) → Af = Af) from ⟨fun h => absurd h (by omega), fun _ => rfl⟩)⟩ (hP.sub [2, 0, 1] rfl) (hD.sub [2, 0, 1] rfl rfl) dX12_back_13
end
