section
theorem qc_X12_fashionSeen : Cond.code yX12_fashionSeen cX12_fashionSeen 5 (some .int) ∈ gw := tbt (tb8 (List.mem_of_getElem? (i := 199) rfl)) rfl
theorem qi_yX12_fashionSeen : Cond.instanceMethod yX12_fashionSeen ∈ gw := tbt (tb8 (List.mem_of_getElem? (i := 198) rfl)) rfl
theorem qs_X12_fashionSeen : Cond.selects (yX12_fashionSeen).cls yX12_fashionSeen yX12_fashionSeen ∈ gw := tb0 (List.mem_of_getElem? (i := 95) rfl) rfl
theorem ci_X12_fashionSeen : CIv yX12_fashionSeen cX12_fashionSeen 5 (some .int) 3 := ⟨qc_X12_fashionSeen, qi_yX12_fashionSeen, qs_X12_fashionSeen, qz_X12, by decide +kernel⟩
theorem qm_X12_366 : Cond.methodLink RX12 366 yX12_fashionSeen ∈ gw := tbt (tb8 (List.mem_of_getElem? (i := 196) rfl)) rfl
theorem qf_X12_380 : Cond.fieldLink RX12 380 "SlowWorldsModel" "drawn" "I" ∈ gw := tbt (tb6 (List.mem_of_getElem? (i := 73) rfl)) rfl
theorem qk_X12_383 : Cond.constant RX12 383 (65536) ∈ gw := tbt (tb9 (List.mem_of_getElem? (i := 17) rfl)) rfl
def fb_X12_bits_0 : List UInt8 := [0x03, 0x3c, 0x1a, 0x3d, 0x1c, 0x99, 0x00, 0x0f, 0x84, 0x01, 0x01, 0x1c, 0x1c, 0x04, 0x64, 0x7e, 0x3d, 0xa7, 0xff, 0xf3, 0x1b, 0xac]
theorem fl_X12_bits_0 {p j : Nat} {b : UInt8} (e : p = 0 + j) (h : fb_X12_bits_0[j]? = some b) : cX12_bits.data.toList[p]? = some b := fq_l (n := 64) (show (cX12_bits.data.toList.drop 0).take 64 = fb_X12_bits_0 by decide +kernel) e h
theorem dX12_bits_0 : decode cX12_bits 0 = .ok (.iconst 0, 1) := fq1_3 (fl_X12_bits_0 (j := 0) rfl rfl)
theorem dX12_bits_1 : decode cX12_bits 1 = .ok (.istore_n 1, 1) := fq1_60 (fl_X12_bits_0 (j := 1) rfl rfl)
theorem dX12_bits_2 : decode cX12_bits 2 = .ok (.iload_n 0, 1) := fq1_26 (fl_X12_bits_0 (j := 2) rfl rfl)
theorem dX12_bits_3 : decode cX12_bits 3 = .ok (.istore_n 2, 1) := fq1_61 (fl_X12_bits_0 (j := 3) rfl rfl)
theorem dX12_bits_4 : decode cX12_bits 4 = .ok (.iload_n 2, 1) := fq1_28 (fl_X12_bits_0 (j := 4) rfl rfl)
theorem dX12_bits_5 : decode cX12_bits 5 = .ok (.ifCond .eq 15, 3) := fq3_153 (fl_X12_bits_0 (j := 5) rfl rfl) (fl_X12_bits_0 (j := 6) rfl rfl) (fl_X12_bits_0 (j := 7) rfl rfl) (s2p rfl (bl rfl))
theorem dX12_bits_8 : decode cX12_bits 8 = .ok (.iinc 1 1, 3) := fq3_132 (fl_X12_bits_0 (j := 8) rfl rfl) (fl_X12_bits_0 (j := 9) rfl rfl) (fl_X12_bits_0 (j := 10) rfl rfl) rfl (s1p rfl (bl rfl))
theorem dX12_bits_11 : decode cX12_bits 11 = .ok (.iload_n 2, 1) := fq1_28 (fl_X12_bits_0 (j := 11) rfl rfl)
theorem dX12_bits_12 : decode cX12_bits 12 = .ok (.iload_n 2, 1) := fq1_28 (fl_X12_bits_0 (j := 12) rfl rfl)
theorem dX12_bits_13 : decode cX12_bits 13 = .ok (.iconst 1, 1) := fq1_4 (fl_X12_bits_0 (j := 13) rfl rfl)
theorem dX12_bits_14 : decode cX12_bits 14 = .ok (.isub, 1) := fq1_100 (fl_X12_bits_0 (j := 14) rfl rfl)
theorem dX12_bits_15 : decode cX12_bits 15 = .ok (.iand, 1) := fq1_126 (fl_X12_bits_0 (j := 15) rfl rfl)
theorem dX12_bits_16 : decode cX12_bits 16 = .ok (.istore_n 2, 1) := fq1_61 (fl_X12_bits_0 (j := 16) rfl rfl)
theorem dX12_bits_17 : decode cX12_bits 17 = .ok (.goto (-13), 3) := fq3_167 (fl_X12_bits_0 (j := 17) rfl rfl) (fl_X12_bits_0 (j := 18) rfl rfl) (fl_X12_bits_0 (j := 19) rfl rfl) (by decide)
theorem dX12_bits_20 : decode cX12_bits 20 = .ok (.iload_n 1, 1) := fq1_27 (fl_X12_bits_0 (j := 20) rfl rfl)
theorem dX12_bits_21 : decode cX12_bits 21 = .ok (.ireturn, 1) := fq1_172 (fl_X12_bits_0 (j := 21) rfl rfl)
def fb_X12_draw_0 : List UInt8 := [0x2a, 0x2a, 0xb4, 0x01, 0x7c, 0x11, 0x0b, 0x4d, 0x68, 0x11, 0x2b, 0x55, 0x60, 0x13, 0x01, 0x7f, 0x70, 0xb5, 0x01, 0x7c, 0x2a, 0xb4, 0x01, 0x7c, 0x10, 0x08, 0x6c, 0x10, 0x10, 0x70, 0xac]
theorem fl_X12_draw_0 {p j : Nat} {b : UInt8} (e : p = 0 + j) (h : fb_X12_draw_0[j]? = some b) : cX12_draw.data.toList[p]? = some b := fq_l (n := 64) (show (cX12_draw.data.toList.drop 0).take 64 = fb_X12_draw_0 by decide +kernel) e h
theorem dX12_draw_0 : decode cX12_draw 0 = .ok (.aload_n 0, 1) := fq1_42 (fl_X12_draw_0 (j := 0) rfl rfl)
theorem dX12_draw_1 : decode cX12_draw 1 = .ok (.aload_n 0, 1) := fq1_42 (fl_X12_draw_0 (j := 1) rfl rfl)
theorem dX12_draw_2 : decode cX12_draw 2 = .ok (.getfield 380, 3) := fq3_180 (fl_X12_draw_0 (j := 2) rfl rfl) (fl_X12_draw_0 (j := 3) rfl rfl) (fl_X12_draw_0 (j := 4) rfl rfl) rfl
theorem dX12_draw_5 : decode cX12_draw 5 = .ok (.sipush 2893, 3) := fq3_17 (fl_X12_draw_0 (j := 5) rfl rfl) (fl_X12_draw_0 (j := 6) rfl rfl) (fl_X12_draw_0 (j := 7) rfl rfl) (s2p rfl (bl rfl))
theorem dX12_draw_8 : decode cX12_draw 8 = .ok (.imul, 1) := fq1_104 (fl_X12_draw_0 (j := 8) rfl rfl)
theorem dX12_draw_9 : decode cX12_draw 9 = .ok (.sipush 11093, 3) := fq3_17 (fl_X12_draw_0 (j := 9) rfl rfl) (fl_X12_draw_0 (j := 10) rfl rfl) (fl_X12_draw_0 (j := 11) rfl rfl) (s2p rfl (bl rfl))
theorem dX12_draw_12 : decode cX12_draw 12 = .ok (.iadd, 1) := fq1_96 (fl_X12_draw_0 (j := 12) rfl rfl)
theorem dX12_draw_13 : decode cX12_draw 13 = .ok (.ldc_w 383, 3) := fq3_19 (fl_X12_draw_0 (j := 13) rfl rfl) (fl_X12_draw_0 (j := 14) rfl rfl) (fl_X12_draw_0 (j := 15) rfl rfl) rfl
theorem dX12_draw_16 : decode cX12_draw 16 = .ok (.irem, 1) := fq1_112 (fl_X12_draw_0 (j := 16) rfl rfl)
theorem dX12_draw_17 : decode cX12_draw 17 = .ok (.putfield 380, 3) := fq3_181 (fl_X12_draw_0 (j := 17) rfl rfl) (fl_X12_draw_0 (j := 18) rfl rfl) (fl_X12_draw_0 (j := 19) rfl rfl) rfl
theorem dX12_draw_20 : decode cX12_draw 20 = .ok (.aload_n 0, 1) := fq1_42 (fl_X12_draw_0 (j := 20) rfl rfl)
theorem dX12_draw_21 : decode cX12_draw 21 = .ok (.getfield 380, 3) := fq3_180 (fl_X12_draw_0 (j := 21) rfl rfl) (fl_X12_draw_0 (j := 22) rfl rfl) (fl_X12_draw_0 (j := 23) rfl rfl) rfl
theorem dX12_draw_24 : decode cX12_draw 24 = .ok (.bipush 8, 2) := fq2_16 (fl_X12_draw_0 (j := 24) rfl rfl) (fl_X12_draw_0 (j := 25) rfl rfl) (s1p rfl (bl rfl))
theorem dX12_draw_26 : decode cX12_draw 26 = .ok (.idiv, 1) := fq1_108 (fl_X12_draw_0 (j := 26) rfl rfl)
theorem dX12_draw_27 : decode cX12_draw 27 = .ok (.bipush 16, 2) := fq2_16 (fl_X12_draw_0 (j := 27) rfl rfl) (fl_X12_draw_0 (j := 28) rfl rfl) (s1p rfl (bl rfl))
theorem dX12_draw_29 : decode cX12_draw 29 = .ok (.irem, 1) := fq1_112 (fl_X12_draw_0 (j := 29) rfl rfl)
theorem dX12_draw_30 : decode cX12_draw 30 = .ok (.ireturn, 1) := fq1_172 (fl_X12_draw_0 (j := 30) rfl rfl)
def fb_X12_goes_0 : List UInt8 := [0x2a, 0xb4, 0x00, 0x07, 0x06, 0x2e, 0x11, 0x01, 0x90, 0xa0, 0x00, 0x05, 0x03, 0xac, 0x2a, 0xb4, 0x00, 0x07, 0x06, 0x2e, 0x04, 0x60, 0x3c, 0x03, 0x3d, 0x03, 0x3e, 0x1d, 0x2a, 0xb4, 0x00, 0x07, 0x03, 0x2e, 0xa2, 0x00, 0x6f, 0x03, 0x36, 0x04, 0x03, 0x36, 0x05, 0x15, 0x05, 0x2a, 0xb4, 0x00, 0x07, 0x03, 0x2e, 0xa2, 0x00, 0x36, 0x15, 0x05, 0x1d, 0xa0, 0x00, 0x07, 0x02, 0xa7, 0x00, 0x0b]
theorem fl_X12_goes_0 {p j : Nat} {b : UInt8} (e : p = 0 + j) (h : fb_X12_goes_0[j]? = some b) : cX12_goes.data.toList[p]? = some b := fq_l (n := 64) (show (cX12_goes.data.toList.drop 0).take 64 = fb_X12_goes_0 by decide +kernel) e h
theorem dX12_goes_0 : decode cX12_goes 0 = .ok (.aload_n 0, 1) := fq1_42 (fl_X12_goes_0 (j := 0) rfl rfl)
theorem dX12_goes_1 : decode cX12_goes 1 = .ok (.getfield 7, 3) := fq3_180 (fl_X12_goes_0 (j := 1) rfl rfl) (fl_X12_goes_0 (j := 2) rfl rfl) (fl_X12_goes_0 (j := 3) rfl rfl) rfl
theorem dX12_goes_4 : decode cX12_goes 4 = .ok (.iconst 3, 1) := fq1_6 (fl_X12_goes_0 (j := 4) rfl rfl)
theorem dX12_goes_5 : decode cX12_goes 5 = .ok (.iaload, 1) := fq1_46 (fl_X12_goes_0 (j := 5) rfl rfl)
theorem dX12_goes_6 : decode cX12_goes 6 = .ok (.sipush 400, 3) := fq3_17 (fl_X12_goes_0 (j := 6) rfl rfl) (fl_X12_goes_0 (j := 7) rfl rfl) (fl_X12_goes_0 (j := 8) rfl rfl) (s2p rfl (bl rfl))
theorem dX12_goes_9 : decode cX12_goes 9 = .ok (.if_icmp .ne 5, 3) := fq3_160 (fl_X12_goes_0 (j := 9) rfl rfl) (fl_X12_goes_0 (j := 10) rfl rfl) (fl_X12_goes_0 (j := 11) rfl rfl) (s2p rfl (bl rfl))
theorem dX12_goes_12 : decode cX12_goes 12 = .ok (.iconst 0, 1) := fq1_3 (fl_X12_goes_0 (j := 12) rfl rfl)
theorem dX12_goes_13 : decode cX12_goes 13 = .ok (.ireturn, 1) := fq1_172 (fl_X12_goes_0 (j := 13) rfl rfl)
theorem dX12_goes_14 : decode cX12_goes 14 = .ok (.aload_n 0, 1) := fq1_42 (fl_X12_goes_0 (j := 14) rfl rfl)
theorem dX12_goes_15 : decode cX12_goes 15 = .ok (.getfield 7, 3) := fq3_180 (fl_X12_goes_0 (j := 15) rfl rfl) (fl_X12_goes_0 (j := 16) rfl rfl) (fl_X12_goes_0 (j := 17) rfl rfl) rfl
theorem dX12_goes_18 : decode cX12_goes 18 = .ok (.iconst 3, 1) := fq1_6 (fl_X12_goes_0 (j := 18) rfl rfl)
theorem dX12_goes_19 : decode cX12_goes 19 = .ok (.iaload, 1) := fq1_46 (fl_X12_goes_0 (j := 19) rfl rfl)
theorem dX12_goes_20 : decode cX12_goes 20 = .ok (.iconst 1, 1) := fq1_4 (fl_X12_goes_0 (j := 20) rfl rfl)
theorem dX12_goes_21 : decode cX12_goes 21 = .ok (.iadd, 1) := fq1_96 (fl_X12_goes_0 (j := 21) rfl rfl)
theorem dX12_goes_22 : decode cX12_goes 22 = .ok (.istore_n 1, 1) := fq1_60 (fl_X12_goes_0 (j := 22) rfl rfl)
theorem dX12_goes_23 : decode cX12_goes 23 = .ok (.iconst 0, 1) := fq1_3 (fl_X12_goes_0 (j := 23) rfl rfl)
theorem dX12_goes_24 : decode cX12_goes 24 = .ok (.istore_n 2, 1) := fq1_61 (fl_X12_goes_0 (j := 24) rfl rfl)
theorem dX12_goes_25 : decode cX12_goes 25 = .ok (.iconst 0, 1) := fq1_3 (fl_X12_goes_0 (j := 25) rfl rfl)
theorem dX12_goes_26 : decode cX12_goes 26 = .ok (.istore_n 3, 1) := fq1_62 (fl_X12_goes_0 (j := 26) rfl rfl)
theorem dX12_goes_27 : decode cX12_goes 27 = .ok (.iload_n 3, 1) := fq1_29 (fl_X12_goes_0 (j := 27) rfl rfl)
theorem dX12_goes_28 : decode cX12_goes 28 = .ok (.aload_n 0, 1) := fq1_42 (fl_X12_goes_0 (j := 28) rfl rfl)
theorem dX12_goes_29 : decode cX12_goes 29 = .ok (.getfield 7, 3) := fq3_180 (fl_X12_goes_0 (j := 29) rfl rfl) (fl_X12_goes_0 (j := 30) rfl rfl) (fl_X12_goes_0 (j := 31) rfl rfl) rfl
theorem dX12_goes_32 : decode cX12_goes 32 = .ok (.iconst 0, 1) := fq1_3 (fl_X12_goes_0 (j := 32) rfl rfl)
theorem dX12_goes_33 : decode cX12_goes 33 = .ok (.iaload, 1) := fq1_46 (fl_X12_goes_0 (j := 33) rfl rfl)
theorem dX12_goes_34 : decode cX12_goes 34 = .ok (.if_icmp .ge 111, 3) := fq3_162 (fl_X12_goes_0 (j := 34) rfl rfl) (fl_X12_goes_0 (j := 35) rfl rfl) (fl_X12_goes_0 (j := 36) rfl rfl) (s2p rfl (bl rfl))
theorem dX12_goes_37 : decode cX12_goes 37 = .ok (.iconst 0, 1) := fq1_3 (fl_X12_goes_0 (j := 37) rfl rfl)
theorem dX12_goes_38 : decode cX12_goes 38 = .ok (.istore 4, 2) := fq2_54 (fl_X12_goes_0 (j := 38) rfl rfl) (fl_X12_goes_0 (j := 39) rfl rfl) rfl
theorem dX12_goes_40 : decode cX12_goes 40 = .ok (.iconst 0, 1) := fq1_3 (fl_X12_goes_0 (j := 40) rfl rfl)
theorem dX12_goes_41 : decode cX12_goes 41 = .ok (.istore 5, 2) := fq2_54 (fl_X12_goes_0 (j := 41) rfl rfl) (fl_X12_goes_0 (j := 42) rfl rfl) rfl
theorem dX12_goes_43 : decode cX12_goes 43 = .ok (.iload 5, 2) := fq2_21 (fl_X12_goes_0 (j := 43) rfl rfl) (fl_X12_goes_0 (j := 44) rfl rfl) rfl
theorem dX12_goes_45 : decode cX12_goes 45 = .ok (.aload_n 0, 1) := fq1_42 (fl_X12_goes_0 (j := 45) rfl rfl)
theorem dX12_goes_46 : decode cX12_goes 46 = .ok (.getfield 7, 3) := fq3_180 (fl_X12_goes_0 (j := 46) rfl rfl) (fl_X12_goes_0 (j := 47) rfl rfl) (fl_X12_goes_0 (j := 48) rfl rfl) rfl
theorem dX12_goes_49 : decode cX12_goes 49 = .ok (.iconst 0, 1) := fq1_3 (fl_X12_goes_0 (j := 49) rfl rfl)
theorem dX12_goes_50 : decode cX12_goes 50 = .ok (.iaload, 1) := fq1_46 (fl_X12_goes_0 (j := 50) rfl rfl)
theorem dX12_goes_51 : decode cX12_goes 51 = .ok (.if_icmp .ge 54, 3) := fq3_162 (fl_X12_goes_0 (j := 51) rfl rfl) (fl_X12_goes_0 (j := 52) rfl rfl) (fl_X12_goes_0 (j := 53) rfl rfl) (s2p rfl (bl rfl))
theorem dX12_goes_54 : decode cX12_goes 54 = .ok (.iload 5, 2) := fq2_21 (fl_X12_goes_0 (j := 54) rfl rfl) (fl_X12_goes_0 (j := 55) rfl rfl) rfl
theorem dX12_goes_56 : decode cX12_goes 56 = .ok (.iload_n 3, 1) := fq1_29 (fl_X12_goes_0 (j := 56) rfl rfl)
theorem dX12_goes_57 : decode cX12_goes 57 = .ok (.if_icmp .ne 7, 3) := fq3_160 (fl_X12_goes_0 (j := 57) rfl rfl) (fl_X12_goes_0 (j := 58) rfl rfl) (fl_X12_goes_0 (j := 59) rfl rfl) (s2p rfl (bl rfl))
theorem dX12_goes_60 : decode cX12_goes 60 = .ok (.iconst (-1), 1) := fq1_2 (fl_X12_goes_0 (j := 60) rfl rfl)
theorem dX12_goes_61 : decode cX12_goes 61 = .ok (.goto 11, 3) := fq3_167 (fl_X12_goes_0 (j := 61) rfl rfl) (fl_X12_goes_0 (j := 62) rfl rfl) (fl_X12_goes_0 (j := 63) rfl rfl) (s2p rfl (bl rfl))
def fb_X12_goes_1 : List UInt8 := [0x2a, 0x1d, 0x15, 0x05, 0x1b, 0xb6, 0x01, 0x6e, 0x36, 0x06, 0x15, 0x04, 0x15, 0x06, 0x04, 0xa0, 0x00, 0x07, 0x04, 0xa7, 0x00, 0x0d, 0x15, 0x06, 0x9a, 0x00, 0x07, 0x02, 0xa7, 0x00, 0x04, 0x03, 0x60, 0x36, 0x04, 0x84, 0x05, 0x01, 0xa7, 0xff, 0xc5, 0x1c, 0x15, 0x04, 0x9e, 0x00, 0x07, 0x04, 0xa7, 0x00, 0x17, 0x15, 0x04, 0x9c, 0x00, 0x07, 0x03, 0xa7, 0x00, 0x0e, 0x2a, 0x1d, 0x2a, 0xb4]
theorem fl_X12_goes_1 {p j : Nat} {b : UInt8} (e : p = 64 + j) (h : fb_X12_goes_1[j]? = some b) : cX12_goes.data.toList[p]? = some b := fq_l (n := 64) (show (cX12_goes.data.toList.drop 64).take 64 = fb_X12_goes_1 by decide +kernel) e h
theorem dX12_goes_64 : decode cX12_goes 64 = .ok (.aload_n 0, 1) := fq1_42 (fl_X12_goes_1 (j := 0) rfl rfl)
theorem dX12_goes_65 : decode cX12_goes 65 = .ok (.iload_n 3, 1) := fq1_29 (fl_X12_goes_1 (j := 1) rfl rfl)
theorem dX12_goes_66 : decode cX12_goes 66 = .ok (.iload 5, 2) := fq2_21 (fl_X12_goes_1 (j := 2) rfl rfl) (fl_X12_goes_1 (j := 3) rfl rfl) rfl
theorem dX12_goes_68 : decode cX12_goes 68 = .ok (.iload_n 1, 1) := fq1_27 (fl_X12_goes_1 (j := 4) rfl rfl)
theorem dX12_goes_69 : decode cX12_goes 69 = .ok (.invokevirtual 366, 3) := fq3_182 (fl_X12_goes_1 (j := 5) rfl rfl) (fl_X12_goes_1 (j := 6) rfl rfl) (fl_X12_goes_1 (j := 7) rfl rfl) rfl
theorem dX12_goes_72 : decode cX12_goes 72 = .ok (.istore 6, 2) := fq2_54 (fl_X12_goes_1 (j := 8) rfl rfl) (fl_X12_goes_1 (j := 9) rfl rfl) rfl
theorem dX12_goes_74 : decode cX12_goes 74 = .ok (.iload 4, 2) := fq2_21 (fl_X12_goes_1 (j := 10) rfl rfl) (fl_X12_goes_1 (j := 11) rfl rfl) rfl
theorem dX12_goes_76 : decode cX12_goes 76 = .ok (.iload 6, 2) := fq2_21 (fl_X12_goes_1 (j := 12) rfl rfl) (fl_X12_goes_1 (j := 13) rfl rfl) rfl
theorem dX12_goes_78 : decode cX12_goes 78 = .ok (.iconst 1, 1) := fq1_4 (fl_X12_goes_1 (j := 14) rfl rfl)
theorem dX12_goes_79 : decode cX12_goes 79 = .ok (.if_icmp .ne 7, 3) := fq3_160 (fl_X12_goes_1 (j := 15) rfl rfl) (fl_X12_goes_1 (j := 16) rfl rfl) (fl_X12_goes_1 (j := 17) rfl rfl) (s2p rfl (bl rfl))
theorem dX12_goes_82 : decode cX12_goes 82 = .ok (.iconst 1, 1) := fq1_4 (fl_X12_goes_1 (j := 18) rfl rfl)
theorem dX12_goes_83 : decode cX12_goes 83 = .ok (.goto 13, 3) := fq3_167 (fl_X12_goes_1 (j := 19) rfl rfl) (fl_X12_goes_1 (j := 20) rfl rfl) (fl_X12_goes_1 (j := 21) rfl rfl) (s2p rfl (bl rfl))
theorem dX12_goes_86 : decode cX12_goes 86 = .ok (.iload 6, 2) := fq2_21 (fl_X12_goes_1 (j := 22) rfl rfl) (fl_X12_goes_1 (j := 23) rfl rfl) rfl
theorem dX12_goes_88 : decode cX12_goes 88 = .ok (.ifCond .ne 7, 3) := fq3_154 (fl_X12_goes_1 (j := 24) rfl rfl) (fl_X12_goes_1 (j := 25) rfl rfl) (fl_X12_goes_1 (j := 26) rfl rfl) (s2p rfl (bl rfl))
theorem dX12_goes_91 : decode cX12_goes 91 = .ok (.iconst (-1), 1) := fq1_2 (fl_X12_goes_1 (j := 27) rfl rfl)
theorem dX12_goes_92 : decode cX12_goes 92 = .ok (.goto 4, 3) := fq3_167 (fl_X12_goes_1 (j := 28) rfl rfl) (fl_X12_goes_1 (j := 29) rfl rfl) (fl_X12_goes_1 (j := 30) rfl rfl) (s2p rfl (bl rfl))
theorem dX12_goes_95 : decode cX12_goes 95 = .ok (.iconst 0, 1) := fq1_3 (fl_X12_goes_1 (j := 31) rfl rfl)
theorem dX12_goes_96 : decode cX12_goes 96 = .ok (.iadd, 1) := fq1_96 (fl_X12_goes_1 (j := 32) rfl rfl)
theorem dX12_goes_97 : decode cX12_goes 97 = .ok (.istore 4, 2) := fq2_54 (fl_X12_goes_1 (j := 33) rfl rfl) (fl_X12_goes_1 (j := 34) rfl rfl) rfl
theorem dX12_goes_99 : decode cX12_goes 99 = .ok (.iinc 5 1, 3) := fq3_132 (fl_X12_goes_1 (j := 35) rfl rfl) (fl_X12_goes_1 (j := 36) rfl rfl) (fl_X12_goes_1 (j := 37) rfl rfl) rfl (s1p rfl (bl rfl))
theorem dX12_goes_102 : decode cX12_goes 102 = .ok (.goto (-59), 3) := fq3_167 (fl_X12_goes_1 (j := 38) rfl rfl) (fl_X12_goes_1 (j := 39) rfl rfl) (fl_X12_goes_1 (j := 40) rfl rfl) (by decide)
theorem dX12_goes_105 : decode cX12_goes 105 = .ok (.iload_n 2, 1) := fq1_28 (fl_X12_goes_1 (j := 41) rfl rfl)
theorem dX12_goes_106 : decode cX12_goes 106 = .ok (.iload 4, 2) := fq2_21 (fl_X12_goes_1 (j := 42) rfl rfl) (fl_X12_goes_1 (j := 43) rfl rfl) rfl
theorem dX12_goes_108 : decode cX12_goes 108 = .ok (.ifCond .le 7, 3) := fq3_158 (fl_X12_goes_1 (j := 44) rfl rfl) (fl_X12_goes_1 (j := 45) rfl rfl) (fl_X12_goes_1 (j := 46) rfl rfl) (s2p rfl (bl rfl))
theorem dX12_goes_111 : decode cX12_goes 111 = .ok (.iconst 1, 1) := fq1_4 (fl_X12_goes_1 (j := 47) rfl rfl)
theorem dX12_goes_112 : decode cX12_goes 112 = .ok (.goto 23, 3) := fq3_167 (fl_X12_goes_1 (j := 48) rfl rfl) (fl_X12_goes_1 (j := 49) rfl rfl) (fl_X12_goes_1 (j := 50) rfl rfl) (s2p rfl (bl rfl))
theorem dX12_goes_115 : decode cX12_goes 115 = .ok (.iload 4, 2) := fq2_21 (fl_X12_goes_1 (j := 51) rfl rfl) (fl_X12_goes_1 (j := 52) rfl rfl) rfl
theorem dX12_goes_117 : decode cX12_goes 117 = .ok (.ifCond .ge 7, 3) := fq3_156 (fl_X12_goes_1 (j := 53) rfl rfl) (fl_X12_goes_1 (j := 54) rfl rfl) (fl_X12_goes_1 (j := 55) rfl rfl) (s2p rfl (bl rfl))
theorem dX12_goes_120 : decode cX12_goes 120 = .ok (.iconst 0, 1) := fq1_3 (fl_X12_goes_1 (j := 56) rfl rfl)
theorem dX12_goes_121 : decode cX12_goes 121 = .ok (.goto 14, 3) := fq3_167 (fl_X12_goes_1 (j := 57) rfl rfl) (fl_X12_goes_1 (j := 58) rfl rfl) (fl_X12_goes_1 (j := 59) rfl rfl) (s2p rfl (bl rfl))
theorem dX12_goes_124 : decode cX12_goes 124 = .ok (.aload_n 0, 1) := fq1_42 (fl_X12_goes_1 (j := 60) rfl rfl)
theorem dX12_goes_125 : decode cX12_goes 125 = .ok (.iload_n 3, 1) := fq1_29 (fl_X12_goes_1 (j := 61) rfl rfl)
theorem dX12_goes_126 : decode cX12_goes 126 = .ok (.aload_n 0, 1) := fq1_42 (fl_X12_goes_1 (j := 62) rfl rfl)
def fb_X12_goes_2 : List UInt8 := [0x00, 0x07, 0x06, 0x2e, 0xb6, 0x01, 0x6b, 0x1d, 0x78, 0x80, 0x3d, 0x84, 0x03, 0x01, 0xa7, 0xff, 0x8d, 0x2a, 0xb4, 0x00, 0x07, 0x10, 0x76, 0x1b, 0x60, 0x1c, 0x4f, 0x2a, 0xb4, 0x00, 0x07, 0x06, 0x1b, 0x4f, 0x04, 0xac]
theorem fl_X12_goes_2 {p j : Nat} {b : UInt8} (e : p = 128 + j) (h : fb_X12_goes_2[j]? = some b) : cX12_goes.data.toList[p]? = some b := fq_l (n := 64) (show (cX12_goes.data.toList.drop 128).take 64 = fb_X12_goes_2 by decide +kernel) e h
theorem dX12_goes_127 : decode cX12_goes 127 = .ok (.getfield 7, 3) := fq3_180 (fl_X12_goes_1 (j := 63) rfl rfl) (fl_X12_goes_2 (j := 0) rfl rfl) (fl_X12_goes_2 (j := 1) rfl rfl) rfl
theorem dX12_goes_130 : decode cX12_goes 130 = .ok (.iconst 3, 1) := fq1_6 (fl_X12_goes_2 (j := 2) rfl rfl)
theorem dX12_goes_131 : decode cX12_goes 131 = .ok (.iaload, 1) := fq1_46 (fl_X12_goes_2 (j := 3) rfl rfl)
theorem dX12_goes_132 : decode cX12_goes 132 = .ok (.invokevirtual 363, 3) := fq3_182 (fl_X12_goes_2 (j := 4) rfl rfl) (fl_X12_goes_2 (j := 5) rfl rfl) (fl_X12_goes_2 (j := 6) rfl rfl) rfl
theorem dX12_goes_135 : decode cX12_goes 135 = .ok (.iload_n 3, 1) := fq1_29 (fl_X12_goes_2 (j := 7) rfl rfl)
theorem dX12_goes_136 : decode cX12_goes 136 = .ok (.ishl, 1) := fq1_120 (fl_X12_goes_2 (j := 8) rfl rfl)
theorem dX12_goes_137 : decode cX12_goes 137 = .ok (.ior, 1) := fq1_128 (fl_X12_goes_2 (j := 9) rfl rfl)
theorem dX12_goes_138 : decode cX12_goes 138 = .ok (.istore_n 2, 1) := fq1_61 (fl_X12_goes_2 (j := 10) rfl rfl)
theorem dX12_goes_139 : decode cX12_goes 139 = .ok (.iinc 3 1, 3) := fq3_132 (fl_X12_goes_2 (j := 11) rfl rfl) (fl_X12_goes_2 (j := 12) rfl rfl) (fl_X12_goes_2 (j := 13) rfl rfl) rfl (s1p rfl (bl rfl))
theorem dX12_goes_142 : decode cX12_goes 142 = .ok (.goto (-115), 3) := fq3_167 (fl_X12_goes_2 (j := 14) rfl rfl) (fl_X12_goes_2 (j := 15) rfl rfl) (fl_X12_goes_2 (j := 16) rfl rfl) (by decide)
theorem dX12_goes_145 : decode cX12_goes 145 = .ok (.aload_n 0, 1) := fq1_42 (fl_X12_goes_2 (j := 17) rfl rfl)
theorem dX12_goes_146 : decode cX12_goes 146 = .ok (.getfield 7, 3) := fq3_180 (fl_X12_goes_2 (j := 18) rfl rfl) (fl_X12_goes_2 (j := 19) rfl rfl) (fl_X12_goes_2 (j := 20) rfl rfl) rfl
theorem dX12_goes_149 : decode cX12_goes 149 = .ok (.bipush 118, 2) := fq2_16 (fl_X12_goes_2 (j := 21) rfl rfl) (fl_X12_goes_2 (j := 22) rfl rfl) (s1p rfl (bl rfl))
theorem dX12_goes_151 : decode cX12_goes 151 = .ok (.iload_n 1, 1) := fq1_27 (fl_X12_goes_2 (j := 23) rfl rfl)
theorem dX12_goes_152 : decode cX12_goes 152 = .ok (.iadd, 1) := fq1_96 (fl_X12_goes_2 (j := 24) rfl rfl)
theorem dX12_goes_153 : decode cX12_goes 153 = .ok (.iload_n 2, 1) := fq1_28 (fl_X12_goes_2 (j := 25) rfl rfl)
theorem dX12_goes_154 : decode cX12_goes 154 = .ok (.iastore, 1) := fq1_79 (fl_X12_goes_2 (j := 26) rfl rfl)
theorem dX12_goes_155 : decode cX12_goes 155 = .ok (.aload_n 0, 1) := fq1_42 (fl_X12_goes_2 (j := 27) rfl rfl)
theorem dX12_goes_156 : decode cX12_goes 156 = .ok (.getfield 7, 3) := fq3_180 (fl_X12_goes_2 (j := 28) rfl rfl) (fl_X12_goes_2 (j := 29) rfl rfl) (fl_X12_goes_2 (j := 30) rfl rfl) rfl
theorem dX12_goes_159 : decode cX12_goes 159 = .ok (.iconst 3, 1) := fq1_6 (fl_X12_goes_2 (j := 31) rfl rfl)
theorem dX12_goes_160 : decode cX12_goes 160 = .ok (.iload_n 1, 1) := fq1_27 (fl_X12_goes_2 (j := 32) rfl rfl)
theorem dX12_goes_161 : decode cX12_goes 161 = .ok (.iastore, 1) := fq1_79 (fl_X12_goes_2 (j := 33) rfl rfl)
theorem dX12_goes_162 : decode cX12_goes 162 = .ok (.iconst 1, 1) := fq1_4 (fl_X12_goes_2 (j := 34) rfl rfl)
theorem dX12_goes_163 : decode cX12_goes 163 = .ok (.ireturn, 1) := fq1_172 (fl_X12_goes_2 (j := 35) rfl rfl)
def fb_X12_orders_0 : List UInt8 := [0x2a, 0xb4, 0x00, 0x07, 0x07, 0x2e, 0x10, 0x14, 0xa0, 0x00, 0x05, 0x03, 0xac, 0x2a, 0xb4, 0x00, 0x07, 0x2a, 0xb4, 0x00, 0x07, 0x07, 0x2e, 0xb8, 0x01, 0x3b, 0x1b, 0x4f, 0x2a, 0xb4, 0x00, 0x07, 0x2a, 0xb4, 0x00, 0x07, 0x07, 0x2e, 0xb8, 0x01, 0x3b, 0x04, 0x60, 0x2a, 0xb4, 0x00, 0x07, 0x06, 0x2e, 0x4f, 0x2a, 0xb4, 0x00, 0x07, 0x07, 0x5c, 0x2e, 0x04, 0x60, 0x4f, 0x04, 0xac]
theorem fl_X12_orders_0 {p j : Nat} {b : UInt8} (e : p = 0 + j) (h : fb_X12_orders_0[j]? = some b) : cX12_orders.data.toList[p]? = some b := fq_l (n := 64) (show (cX12_orders.data.toList.drop 0).take 64 = fb_X12_orders_0 by decide +kernel) e h
theorem dX12_orders_0 : decode cX12_orders 0 = .ok (.aload_n 0, 1) := fq1_42 (fl_X12_orders_0 (j := 0) rfl rfl)
theorem dX12_orders_1 : decode cX12_orders 1 = .ok (.getfield 7, 3) := fq3_180 (fl_X12_orders_0 (j := 1) rfl rfl) (fl_X12_orders_0 (j := 2) rfl rfl) (fl_X12_orders_0 (j := 3) rfl rfl) rfl
theorem dX12_orders_4 : decode cX12_orders 4 = .ok (.iconst 4, 1) := fq1_7 (fl_X12_orders_0 (j := 4) rfl rfl)
theorem dX12_orders_5 : decode cX12_orders 5 = .ok (.iaload, 1) := fq1_46 (fl_X12_orders_0 (j := 5) rfl rfl)
theorem dX12_orders_6 : decode cX12_orders 6 = .ok (.bipush 20, 2) := fq2_16 (fl_X12_orders_0 (j := 6) rfl rfl) (fl_X12_orders_0 (j := 7) rfl rfl) (s1p rfl (bl rfl))
theorem dX12_orders_8 : decode cX12_orders 8 = .ok (.if_icmp .ne 5, 3) := fq3_160 (fl_X12_orders_0 (j := 8) rfl rfl) (fl_X12_orders_0 (j := 9) rfl rfl) (fl_X12_orders_0 (j := 10) rfl rfl) (s2p rfl (bl rfl))
theorem dX12_orders_11 : decode cX12_orders 11 = .ok (.iconst 0, 1) := fq1_3 (fl_X12_orders_0 (j := 11) rfl rfl)
theorem dX12_orders_12 : decode cX12_orders 12 = .ok (.ireturn, 1) := fq1_172 (fl_X12_orders_0 (j := 12) rfl rfl)
theorem dX12_orders_13 : decode cX12_orders 13 = .ok (.aload_n 0, 1) := fq1_42 (fl_X12_orders_0 (j := 13) rfl rfl)
theorem dX12_orders_14 : decode cX12_orders 14 = .ok (.getfield 7, 3) := fq3_180 (fl_X12_orders_0 (j := 14) rfl rfl) (fl_X12_orders_0 (j := 15) rfl rfl) (fl_X12_orders_0 (j := 16) rfl rfl) rfl
theorem dX12_orders_17 : decode cX12_orders 17 = .ok (.aload_n 0, 1) := fq1_42 (fl_X12_orders_0 (j := 17) rfl rfl)
theorem dX12_orders_18 : decode cX12_orders 18 = .ok (.getfield 7, 3) := fq3_180 (fl_X12_orders_0 (j := 18) rfl rfl) (fl_X12_orders_0 (j := 19) rfl rfl) (fl_X12_orders_0 (j := 20) rfl rfl) rfl
theorem dX12_orders_21 : decode cX12_orders 21 = .ok (.iconst 4, 1) := fq1_7 (fl_X12_orders_0 (j := 21) rfl rfl)
theorem dX12_orders_22 : decode cX12_orders 22 = .ok (.iaload, 1) := fq1_46 (fl_X12_orders_0 (j := 22) rfl rfl)
theorem dX12_orders_23 : decode cX12_orders 23 = .ok (.invokestatic 315, 3) := fq3_184 (fl_X12_orders_0 (j := 23) rfl rfl) (fl_X12_orders_0 (j := 24) rfl rfl) (fl_X12_orders_0 (j := 25) rfl rfl) rfl
theorem dX12_orders_26 : decode cX12_orders 26 = .ok (.iload_n 1, 1) := fq1_27 (fl_X12_orders_0 (j := 26) rfl rfl)
theorem dX12_orders_27 : decode cX12_orders 27 = .ok (.iastore, 1) := fq1_79 (fl_X12_orders_0 (j := 27) rfl rfl)
theorem dX12_orders_28 : decode cX12_orders 28 = .ok (.aload_n 0, 1) := fq1_42 (fl_X12_orders_0 (j := 28) rfl rfl)
theorem dX12_orders_29 : decode cX12_orders 29 = .ok (.getfield 7, 3) := fq3_180 (fl_X12_orders_0 (j := 29) rfl rfl) (fl_X12_orders_0 (j := 30) rfl rfl) (fl_X12_orders_0 (j := 31) rfl rfl) rfl
theorem dX12_orders_32 : decode cX12_orders 32 = .ok (.aload_n 0, 1) := fq1_42 (fl_X12_orders_0 (j := 32) rfl rfl)
theorem dX12_orders_33 : decode cX12_orders 33 = .ok (.getfield 7, 3) := fq3_180 (fl_X12_orders_0 (j := 33) rfl rfl) (fl_X12_orders_0 (j := 34) rfl rfl) (fl_X12_orders_0 (j := 35) rfl rfl) rfl
theorem dX12_orders_36 : decode cX12_orders 36 = .ok (.iconst 4, 1) := fq1_7 (fl_X12_orders_0 (j := 36) rfl rfl)
theorem dX12_orders_37 : decode cX12_orders 37 = .ok (.iaload, 1) := fq1_46 (fl_X12_orders_0 (j := 37) rfl rfl)
theorem dX12_orders_38 : decode cX12_orders 38 = .ok (.invokestatic 315, 3) := fq3_184 (fl_X12_orders_0 (j := 38) rfl rfl) (fl_X12_orders_0 (j := 39) rfl rfl) (fl_X12_orders_0 (j := 40) rfl rfl) rfl
theorem dX12_orders_41 : decode cX12_orders 41 = .ok (.iconst 1, 1) := fq1_4 (fl_X12_orders_0 (j := 41) rfl rfl)
theorem dX12_orders_42 : decode cX12_orders 42 = .ok (.iadd, 1) := fq1_96 (fl_X12_orders_0 (j := 42) rfl rfl)
theorem dX12_orders_43 : decode cX12_orders 43 = .ok (.aload_n 0, 1) := fq1_42 (fl_X12_orders_0 (j := 43) rfl rfl)
theorem dX12_orders_44 : decode cX12_orders 44 = .ok (.getfield 7, 3) := fq3_180 (fl_X12_orders_0 (j := 44) rfl rfl) (fl_X12_orders_0 (j := 45) rfl rfl) (fl_X12_orders_0 (j := 46) rfl rfl) rfl
theorem dX12_orders_47 : decode cX12_orders 47 = .ok (.iconst 3, 1) := fq1_6 (fl_X12_orders_0 (j := 47) rfl rfl)
theorem dX12_orders_48 : decode cX12_orders 48 = .ok (.iaload, 1) := fq1_46 (fl_X12_orders_0 (j := 48) rfl rfl)
theorem dX12_orders_49 : decode cX12_orders 49 = .ok (.iastore, 1) := fq1_79 (fl_X12_orders_0 (j := 49) rfl rfl)
theorem dX12_orders_50 : decode cX12_orders 50 = .ok (.aload_n 0, 1) := fq1_42 (fl_X12_orders_0 (j := 50) rfl rfl)
theorem dX12_orders_51 : decode cX12_orders 51 = .ok (.getfield 7, 3) := fq3_180 (fl_X12_orders_0 (j := 51) rfl rfl) (fl_X12_orders_0 (j := 52) rfl rfl) (fl_X12_orders_0 (j := 53) rfl rfl) rfl
theorem dX12_orders_54 : decode cX12_orders 54 = .ok (.iconst 4, 1) := fq1_7 (fl_X12_orders_0 (j := 54) rfl rfl)
theorem dX12_orders_55 : decode cX12_orders 55 = .ok (.dup2, 1) := fq1_92 (fl_X12_orders_0 (j := 55) rfl rfl)
theorem dX12_orders_56 : decode cX12_orders 56 = .ok (.iaload, 1) := fq1_46 (fl_X12_orders_0 (j := 56) rfl rfl)
theorem dX12_orders_57 : decode cX12_orders 57 = .ok (.iconst 1, 1) := fq1_4 (fl_X12_orders_0 (j := 57) rfl rfl)
theorem dX12_orders_58 : decode cX12_orders 58 = .ok (.iadd, 1) := fq1_96 (fl_X12_orders_0 (j := 58) rfl rfl)
theorem dX12_orders_59 : decode cX12_orders 59 = .ok (.iastore, 1) := fq1_79 (fl_X12_orders_0 (j := 59) rfl rfl)
theorem dX12_orders_60 : decode cX12_orders 60 = .ok (.iconst 1, 1) := fq1_4 (fl_X12_orders_0 (j := 60) rfl rfl)
theorem dX12_orders_61 : decode cX12_orders 61 = .ok (.ireturn, 1) := fq1_172 (fl_X12_orders_0 (j := 61) rfl rfl)
def fb_X12_wears_0 : List UInt8 := [0x2a, 0xb4, 0x00, 0x07, 0x10, 0x76, 0x2a, 0xb4, 0x00, 0x07, 0x06, 0x2e, 0x60, 0x2a, 0xb4, 0x00, 0x07, 0x10, 0x76, 0x2a, 0xb4, 0x00, 0x07, 0x06, 0x2e, 0x60, 0x2e, 0x04, 0x1b, 0x78, 0x02, 0x82, 0x7e, 0x1c, 0x1b, 0x78, 0x80, 0x4f, 0xb1]
theorem fl_X12_wears_0 {p j : Nat} {b : UInt8} (e : p = 0 + j) (h : fb_X12_wears_0[j]? = some b) : cX12_wears.data.toList[p]? = some b := fq_l (n := 64) (show (cX12_wears.data.toList.drop 0).take 64 = fb_X12_wears_0 by decide +kernel) e h
theorem dX12_wears_0 : decode cX12_wears 0 = .ok (.aload_n 0, 1) := fq1_42 (fl_X12_wears_0 (j := 0) rfl rfl)
theorem dX12_wears_1 : decode cX12_wears 1 = .ok (.getfield 7, 3) := fq3_180 (fl_X12_wears_0 (j := 1) rfl rfl) (fl_X12_wears_0 (j := 2) rfl rfl) (fl_X12_wears_0 (j := 3) rfl rfl) rfl
theorem dX12_wears_4 : decode cX12_wears 4 = .ok (.bipush 118, 2) := fq2_16 (fl_X12_wears_0 (j := 4) rfl rfl) (fl_X12_wears_0 (j := 5) rfl rfl) (s1p rfl (bl rfl))
theorem dX12_wears_6 : decode cX12_wears 6 = .ok (.aload_n 0, 1) := fq1_42 (fl_X12_wears_0 (j := 6) rfl rfl)
theorem dX12_wears_7 : decode cX12_wears 7 = .ok (.getfield 7, 3) := fq3_180 (fl_X12_wears_0 (j := 7) rfl rfl) (fl_X12_wears_0 (j := 8) rfl rfl) (fl_X12_wears_0 (j := 9) rfl rfl) rfl
theorem dX12_wears_10 : decode cX12_wears 10 = .ok (.iconst 3, 1) := fq1_6 (fl_X12_wears_0 (j := 10) rfl rfl)
theorem dX12_wears_11 : decode cX12_wears 11 = .ok (.iaload, 1) := fq1_46 (fl_X12_wears_0 (j := 11) rfl rfl)
theorem dX12_wears_12 : decode cX12_wears 12 = .ok (.iadd, 1) := fq1_96 (fl_X12_wears_0 (j := 12) rfl rfl)
theorem dX12_wears_13 : decode cX12_wears 13 = .ok (.aload_n 0, 1) := fq1_42 (fl_X12_wears_0 (j := 13) rfl rfl)
theorem dX12_wears_14 : decode cX12_wears 14 = .ok (.getfield 7, 3) := fq3_180 (fl_X12_wears_0 (j := 14) rfl rfl) (fl_X12_wears_0 (j := 15) rfl rfl) (fl_X12_wears_0 (j := 16) rfl rfl) rfl
theorem dX12_wears_17 : decode cX12_wears 17 = .ok (.bipush 118, 2) := fq2_16 (fl_X12_wears_0 (j := 17) rfl rfl) (fl_X12_wears_0 (j := 18) rfl rfl) (s1p rfl (bl rfl))
theorem dX12_wears_19 : decode cX12_wears 19 = .ok (.aload_n 0, 1) := fq1_42 (fl_X12_wears_0 (j := 19) rfl rfl)
theorem dX12_wears_20 : decode cX12_wears 20 = .ok (.getfield 7, 3) := fq3_180 (fl_X12_wears_0 (j := 20) rfl rfl) (fl_X12_wears_0 (j := 21) rfl rfl) (fl_X12_wears_0 (j := 22) rfl rfl) rfl
theorem dX12_wears_23 : decode cX12_wears 23 = .ok (.iconst 3, 1) := fq1_6 (fl_X12_wears_0 (j := 23) rfl rfl)
theorem dX12_wears_24 : decode cX12_wears 24 = .ok (.iaload, 1) := fq1_46 (fl_X12_wears_0 (j := 24) rfl rfl)
theorem dX12_wears_25 : decode cX12_wears 25 = .ok (.iadd, 1) := fq1_96 (fl_X12_wears_0 (j := 25) rfl rfl)
theorem dX12_wears_26 : decode cX12_wears 26 = .ok (.iaload, 1) := fq1_46 (fl_X12_wears_0 (j := 26) rfl rfl)
theorem dX12_wears_27 : decode cX12_wears 27 = .ok (.iconst 1, 1) := fq1_4 (fl_X12_wears_0 (j := 27) rfl rfl)
theorem dX12_wears_28 : decode cX12_wears 28 = .ok (.iload_n 1, 1) := fq1_27 (fl_X12_wears_0 (j := 28) rfl rfl)
theorem dX12_wears_29 : decode cX12_wears 29 = .ok (.ishl, 1) := fq1_120 (fl_X12_wears_0 (j := 29) rfl rfl)
theorem dX12_wears_30 : decode cX12_wears 30 = .ok (.iconst (-1), 1) := fq1_2 (fl_X12_wears_0 (j := 30) rfl rfl)
theorem dX12_wears_31 : decode cX12_wears 31 = .ok (.ixor, 1) := fq1_130 (fl_X12_wears_0 (j := 31) rfl rfl)
theorem dX12_wears_32 : decode cX12_wears 32 = .ok (.iand, 1) := fq1_126 (fl_X12_wears_0 (j := 32) rfl rfl)
theorem dX12_wears_33 : decode cX12_wears 33 = .ok (.iload_n 2, 1) := fq1_28 (fl_X12_wears_0 (j := 33) rfl rfl)
theorem dX12_wears_34 : decode cX12_wears 34 = .ok (.iload_n 1, 1) := fq1_27 (fl_X12_wears_0 (j := 34) rfl rfl)
theorem dX12_wears_35 : decode cX12_wears 35 = .ok (.ishl, 1) := fq1_120 (fl_X12_wears_0 (j := 35) rfl rfl)
theorem dX12_wears_36 : decode cX12_wears 36 = .ok (.ior, 1) := fq1_128 (fl_X12_wears_0 (j := 36) rfl rfl)
theorem dX12_wears_37 : decode cX12_wears 37 = .ok (.iastore, 1) := fq1_79 (fl_X12_wears_0 (j := 37) rfl rfl)
theorem dX12_wears_38 : decode cX12_wears 38 = .ok (.return_, 1) := fq1_177 (fl_X12_wears_0 (j := 38) rfl rfl)
end

section
/-- what the course of a world leaves alone -/
def FR (g f : Nat → Int32) : Prop := (∀ e : Int, 520 ≤ e ∨ (5 ≤ e ∧ e < 78) → gz g e = gz f e) ∧ gz g 0 = gz f 0 ∧ gz g 1 = gz f 1 ∧ gz g 2 = gz f 2
theorem FR.rf (f : Nat → Int32) : FR f f := ⟨fun _ _ => rfl, rfl, rfl, rfl⟩
theorem FR.tr {h g f : Nat → Int32} (a : FR h g) (b : FR g f) : FR h f := ⟨fun e q => (a.1 e q).trans (b.1 e q), a.2.1.trans b.2.1, a.2.2.1.trans b.2.2.1, a.2.2.2.trans b.2.2.2⟩
theorem FR.z {g f : Nat → Int32} (a : FR g f) : gz g 0 = gz f 0 ∧ gz g 5 = gz f 5 := ⟨a.2.1, a.1 5 (by omega)⟩
theorem FR.up {g f : Nat → Int32} {i v : Int} (hg : g = upd f (iZ i).toNatClampNeg (iZ v)) (hi : i = 3 ∨ i = 4 ∨ (78 ≤ i ∧ i < 520)) (hv : -2147483648 ≤ v ∧ v < 2147483648) : FR g f := by
  have c := fun j hj => gz_upc (j := j) hg (by omega) hv hj
  refine ⟨fun e q => ?_, ?_, ?_, ?_⟩
  · have := c e (by omega); omega
  · have := c 0 (by omega); omega
  · have := c 1 (by omega); omega
  · have := c 2 (by omega); omega
theorem M0.like3 {f g : Nat → Int32} (h0 : ∀ e : Int, 0 ≤ e → (e < 118 ∨ 520 ≤ e) → e < 884 → ¬ e = 3 → gz g e = gz f e) (h3 : 0 ≤ gz g 3 ∧ gz g 3 ≤ 400) (hf : M0 f) : M0 g := by
  have h : ∀ e : Int, 0 ≤ e ∧ (e < 118 ∨ 520 ≤ e) → e < 884 ∧ ¬ e = 3 → gz g e = gz f e := fun e q r => h0 e q.1 q.2 r.1 r.2
  obtain ⟨a0, a1, a3, a4, a5, aF, aO, aS⟩ := hf
  refine ⟨by rw [h 0 (by omega) (by omega)]; exact a0, by rw [h 1 (by omega) (by omega)]; exact a1, h3, by rw [h 4 (by omega) (by omega)]; exact a4, by rw [h 5 (by omega) (by omega)]; exact a5, ?_, ?_, ?_⟩
  · rw [h 0 (by omega) (by omega)]
    intro r h1 h2
    have e : ∀ w : Int, 0 ≤ w → w < 6 → gz (sh g 10) ((r * 6) + w) = gz (sh f 10) ((r * 6) + w) := fun w g1 g2 => by
      rw [gz_sh (by omega) (by omega), gz_sh (by omega) (by omega)]
      exact h _ (by omega) (by omega)
    rw [e 0 (by omega) (by omega), e 1 (by omega) (by omega), e 2 (by omega) (by omega), e 3 (by omega) (by omega), e 4 (by omega) (by omega), e 5 (by omega) (by omega)]
    exact aF r h1 h2
  · rw [h 0 (by omega) (by omega), h 4 (by omega) (by omega)]
    intro o h1 h2
    rw [h _ (by omega) (by omega), h _ (by omega) (by omega)]
    exact aO o h1 h2
  · rw [h 0 (by omega) (by omega), h 5 (by omega) (by omega)]
    intro o h1 h2
    rw [h _ (by omega) (by omega), h _ (by omega) (by omega), h _ (by omega) (by omega), h _ (by omega) (by omega)]
    exact aS o h1 h2
theorem M0.far {f g : Nat → Int32} {i v : Int} (h : M0 f) (hg : g = upd f (iZ i).toNatClampNeg (iZ v)) (hi : (118 ≤ i ∧ i < 520) ∨ (884 ≤ i ∧ i < 2147483648)) (hv : -2147483648 ≤ v ∧ v < 2147483648) : M0 g :=
  M0.like (fun e h1 h2 h3 => by have c := gz_upc (j := e) hg (by omega) hv h1; omega) h
theorem M0.now {f g : Nat → Int32} {v : Int} (h : M0 f) (hg : g = upd f (iZ 3).toNatClampNeg (iZ v)) (hv : 0 ≤ v ∧ v ≤ 400) : M0 g :=
  M0.like3 (fun e h1 h2 h3 h4 => by have c := gz_upc (j := e) hg (by omega) (by omega) h1; omega) (by have c := gz_upc (j := 3) hg (by omega) (by omega) (by omega); omega) h
theorem M0.ord {f f1 f2 f3 : Nat → Int32} {e1 v1 e2 v2 v3 : Int} (h : M0 f) (hg1 : f1 = upd f (iZ e1).toNatClampNeg (iZ v1)) (hg2 : f2 = upd f1 (iZ e2).toNatClampNeg (iZ v2)) (hg3 : f3 = upd f2 (iZ 4).toNatClampNeg (iZ v3)) (he1 : e1 = 78 + 2 * gz f 4) (he2 : e2 = 79 + 2 * gz f 4) (hv1 : 0 ≤ v1 ∧ v1 < gz f 0) (hv2 : 0 ≤ v2 ∧ v2 ≤ 400) (hv3 : v3 = gz f 4 + 1) (ho : gz f 4 < 20) : M0 f3 := by
  obtain ⟨a0, a1, a3, a4, a5, aF, aO, aS⟩ := id h
  have c : ∀ j : Int, 0 ≤ j → (j = 4 ∧ gz f3 j = v3) ∨ (j = e2 ∧ gz f3 j = v2) ∨ (j = e1 ∧ gz f3 j = v1) ∨ (¬ j = 4 ∧ ¬ j = e2 ∧ ¬ j = e1 ∧ gz f3 j = gz f j) := fun j hj => by
    have c1 := gz_upc (j := j) hg1 (by omega) (by omega) hj
    have c2 := gz_upc (j := j) hg2 (by omega) (by omega) hj
    have c3 := gz_upc (j := j) hg3 (by omega) (by omega) hj
    omega
  have c0 := c 0 (by omega)
  have c1 := c 1 (by omega)
  have c3 := c 3 (by omega)
  have c4 := c 4 (by omega)
  have c5 := c 5 (by omega)
  refine ⟨by omega, by omega, by omega, by omega, by omega, ?_, ?_, ?_⟩
  · rw [show gz f3 0 = gz f 0 by omega]
    intro r h1 h2
    have e : ∀ w : Int, 0 ≤ w → w < 6 → gz (sh f3 10) ((r * 6) + w) = gz (sh f 10) ((r * 6) + w) := fun w g1 g2 => by
      rw [gz_sh (by omega) (by omega), gz_sh (by omega) (by omega)]
      have := c (10 + ((r * 6) + w)) (by omega)
      omega
    rw [e 0 (by omega) (by omega), e 1 (by omega) (by omega), e 2 (by omega) (by omega), e 3 (by omega) (by omega), e 4 (by omega) (by omega), e 5 (by omega) (by omega)]
    exact aF r h1 h2
  · intro o h1 h2
    have x1 := c (78 + (2 * o)) (by omega)
    have x2 := c ((78 + (2 * o)) + 1) (by omega)
    rcases Int.lt_or_eq_of_le (show o ≤ gz f 4 by omega) with q | q
    · have := aO o h1 q
      omega
    · omega
  · intro q h1 h2
    have := aS q h1 (by omega)
    have x0 := c (520 + (6 * q)) (by omega)
    have x1 := c ((520 + (6 * q)) + 1) (by omega)
    have x2 := c ((520 + (6 * q)) + 2) (by omega)
    have x4 := c ((520 + (6 * q)) + 4) (by omega)
    omega
/-- the length of the way to 0 of a set -/
def um (z : Int) : Nat := (iZ z).toBitVec.toNat
theorem um_lt {z z2 : Int} (hz : -2147483648 ≤ z ∧ z < 2147483648) (h0 : ¬ z = 0) (h : iZ z2 = iZ z &&& iZ (z - 1)) : um z2 < um z := by
  unfold um
  rw [h, Int32.toBitVec_and, BitVec.toNat_and]
  have e : iZ (z - 1) = iZ z - 1 := (iZ_sub z 1).symm
  rw [e, Int32.toBitVec_sub]
  have hne : (iZ z).toBitVec ≠ 0#32 := by
    intro q
    apply h0
    have : iZ z = 0 := Int32.toBitVec_inj.mp q
    exact (zne rfl hz).mp this
  generalize (iZ z).toBitVec = x at hne ⊢
  have h1 : x.toNat ≠ 0 := fun q => hne (BitVec.eq_of_toNat_eq q)
  have h2 : (x - (1 : Int32).toBitVec).toNat = x.toNat - 1 := by
    have := x.isLt
    have e1 : (1 : Int32).toBitVec = 1#32 := rfl
    rw [e1, BitVec.toNat_sub, show (1#32).toNat = 1 from rfl]
    omega
  have h3 := Nat.and_le_right (n := x.toNat) (m := (x - (1 : Int32).toBitVec).toNat)
  omega
/-- what is left of all loops -/
def sumP (f : Nat → Int32) : Nat → Int
  | 0 => 0
  | n + 1 => sumP f n + max 0 (gz f n)
theorem sumP_0 (f : Nat → Int32) (n : Nat) : 0 ≤ sumP f n := by
  induction n with
  | zero => exact Int.le_refl 0
  | succ n ih => show 0 ≤ sumP f n + max 0 (gz f n); omega
theorem sumP_up {f g : Nat → Int32} {o v : Int} (hg : g = upd f (iZ o).toNatClampNeg (iZ v)) (ho : 0 ≤ o ∧ o < 2147483648) (hv : -2147483648 ≤ v ∧ v < 2147483648) (n : Nat) : (o < n ∧ sumP g n = sumP f n + max 0 v - max 0 (gz f o)) ∨ (¬ o < n ∧ sumP g n = sumP f n) := by
  induction n with
  | zero => exact Or.inr ⟨by omega, rfl⟩
  | succ n ih =>
    have c := gz_upc (j := (n : Int)) hg ho hv (by omega)
    have e1 : sumP g (n + 1) = sumP g n + max 0 (gz g n) := rfl
    have e2 : sumP f (n + 1) = sumP f n + max 0 (gz f n) := rfl
    by_cases h : (n : Int) = o
    · rw [← h] at ih ⊢
      have c2 : gz g n = v := by omega
      left
      refine ⟨by omega, ?_⟩
      rw [e1, e2, c2]
      omega
    · have c2 : gz g n = gz f n := by omega
      rw [e1, e2, c2]
      omega
set_option maxHeartbeats 4000000 in
set_option maxRecDepth 100000 in
theorem m_bits (l : Launch) (D : va_G) (k : Nat → ClassId) (x : Int) (h9x : -2147483648 ≤ x ∧ x < 2147483648) : RP l yX12_bits cX12_bits 3 (some .int) 0 D k [.int (iZ x)] [] (fun z => ∃ v9 : Int, z = v9) := by
  refine MRP (by decide) (Nat.le_of_ble_eq_true rfl) (fun p e s m below meth c ls hx hb hml hr hlocks hts hown hKK hP hl => ?_)
  have hK := hKK.1
  have hl : lv_has ls 3 [(0, .int (iZ x))] := hl
  refine lv_iconst (v := iZ 0) hx hb dX12_bits_0 rfl ?_
  refine lv_istore_n (lv' := [(1, .int (iZ 0)), (0, .int (iZ x))]) hx hb dX12_bits_1 rfl hl (bl rfl) rfl (fun ls hl => ?_)
  refine lv_iload_n hx hb dX12_bits_2 rfl (lv_at hl 1 rfl) ?_
  refine lv_istore_n (lv' := [(2, .int (iZ x)), (1, .int (iZ 0)), (0, .int (iZ x))]) hx hb dX12_bits_3 rfl hl (bl rfl) rfl (fun ls hl => ?_)
  have HL1 : ∀ (fu : Nat) (ct kk : Int) (ls : Array Slot), ((um kk : Nat) : Int) < (fu : Int) → (-2147483648 ≤ kk ∧ kk < 2147483648) → lv_has ls 3 [(2, .int (iZ kk)), (1, .int (iZ ct)), (0, .int (iZ x))] → W p l e (rj 0 0 0) s m [.int (iZ x)].toArray below meth c s.heap [] 0 0 (MQ below (QcP (fun z => ∃ v9 : Int, z = v9)) [.int (iZ x)].toArray s 0 0 (fun _ => False)) (F0 m 4 ls []) := by
    intro fu
    induction fu with
    | zero => intro ct kk ls hμ1 hkk hl; exact absurd hμ1 (by omega)
    | succ fu ih1 =>
      intro ct kk ls hμ1 hkk hl
      refine lv_iload_n hx hb dX12_bits_4 rfl (lv_at hl 0 rfl) ?_
      refine lv_if_eq (tgt := 20) hx hb dX12_bits_5 rfl (fun c_1 => ?_) (fun c_1 => ?_)
      ·
        have c_1 := (zeq (x := iZ kk) (y := iZ 0) rfl rfl ⟨by omega, by omega⟩ wn_0).mp c_1
        refine lv_iload_n hx hb dX12_bits_20 rfl (lv_at hl 1 rfl) ?_
        exact EPi hx hb hr hlocks ⟨_, rfl⟩ dX12_bits_21
      ·
        have c_1 := mt (zeq (x := iZ kk) (y := iZ 0) rfl rfl ⟨by omega, by omega⟩ wn_0).mpr c_1
        refine lv_iinc (v := iZ (ct + 1)) (lv' := [(1, .int (iZ (ct + 1))), (2, .int (iZ kk)), (0, .int (iZ x))]) hx hb dX12_bits_8 hl (k := 1) rfl (iZ_add ct 1) (by decide) rfl (fun ls hl => ?_)
        refine lv_iload_n hx hb dX12_bits_11 rfl (lv_at hl 1 rfl) ?_
        refine lv_iload_n hx hb dX12_bits_12 rfl (lv_at hl 1 rfl) ?_
        refine lv_iconst (v := iZ 1) hx hb dX12_bits_13 rfl ?_
        refine lv_isub hx hb dX12_bits_14 ?_
        refine lv_topi (fun x_2 ex_2 => ?_)
        obtain rfl : x_2 = iZ (kk - 1) := ex_2.trans (iZ_sub kk 1)
        refine lv_iand hx hb dX12_bits_15 ?_
        refine lv_topi (fun x_4 ex_4 => ?_)
        obtain ⟨z_3, hz_3, hz_3a, hz_3b⟩ := i32_z x_4
        subst hz_3
        have hum := um_lt hkk (by omega) (by assumption)
        refine lv_istore_n (lv' := [(2, .int (iZ z_3)), (1, .int (iZ (ct + 1))), (0, .int (iZ x))]) hx hb dX12_bits_16 rfl hl (bl rfl) rfl (fun ls hl => ?_)
        refine lv_goto (tgt := 4) hx hb dX12_bits_17 rfl ?_
        exact ih1  (ct + 1) z_3 _ (by omega) ⟨by omega, by omega⟩ (lv_sub hl [0, 1, 2] rfl)
  exact HL1 (um x + 1) 0 x _ (by omega) h9x (lv_sub hl [0, 1, 2] rfl)
end

section
theorem qk_X12_369 : Cond.constantLong RX12 369 (99) ∈ gw := tbt (tb8 (List.mem_of_getElem? (i := 191) rfl)) rfl
theorem qc_X12_goes : Cond.code yX12_goes cX12_goes 7 (some .boolean) ∈ gw := tbt (tb8 (List.mem_of_getElem? (i := 195) rfl)) rfl
theorem qi_yX12_goes : Cond.instanceMethod yX12_goes ∈ gw := tbt (tb8 (List.mem_of_getElem? (i := 194) rfl)) rfl
theorem qs_X12_goes : Cond.selects (yX12_goes).cls yX12_goes yX12_goes ∈ gw := tb0 (List.mem_of_getElem? (i := 94) rfl) rfl
theorem ci_X12_goes : CIv yX12_goes cX12_goes 7 (some .boolean) 0 := ⟨qc_X12_goes, qi_yX12_goes, qs_X12_goes, qz_X12, by decide +kernel⟩
theorem qm_X12_371 : Cond.methodLink RX12 371 yX12_goes ∈ gw := tbt (tb8 (List.mem_of_getElem? (i := 192) rfl)) rfl
theorem qc_X12_wears : Cond.code yX12_wears cX12_wears 3 none ∈ gw := tbt (tb8 (List.mem_of_getElem? (i := 215) rfl)) rfl
theorem qi_yX12_wears : Cond.instanceMethod yX12_wears ∈ gw := tbt (tb8 (List.mem_of_getElem? (i := 214) rfl)) rfl
theorem qs_X12_wears : Cond.selects (yX12_wears).cls yX12_wears yX12_wears ∈ gw := tb0 (List.mem_of_getElem? (i := 97) rfl) rfl
theorem ci_X12_wears : CIv yX12_wears cX12_wears 3 none 2 := ⟨qc_X12_wears, qi_yX12_wears, qs_X12_wears, qz_X12, by decide +kernel⟩
theorem qm_X12_374 : Cond.methodLink RX12 374 yX12_wears ∈ gw := tbt (tb8 (List.mem_of_getElem? (i := 212) rfl)) rfl
theorem qc_X12_followsOf : Cond.code yX12_followsOf cX12_followsOf 5 (some .int) ∈ gw := tbt (tb8 (List.mem_of_getElem? (i := 227) rfl)) rfl
theorem qi_yX12_followsOf : Cond.instanceMethod yX12_followsOf ∈ gw := tbt (tb8 (List.mem_of_getElem? (i := 226) rfl)) rfl
theorem qs_X12_followsOf : Cond.selects (yX12_followsOf).cls yX12_followsOf yX12_followsOf ∈ gw := tb0 (List.mem_of_getElem? (i := 98) rfl) rfl
theorem ci_X12_followsOf : CIv yX12_followsOf cX12_followsOf 5 (some .int) 2 := ⟨qc_X12_followsOf, qi_yX12_followsOf, qs_X12_followsOf, qz_X12, by decide +kernel⟩
theorem qm_X12_377 : Cond.methodLink RX12 377 yX12_followsOf ∈ gw := tbt (tb8 (List.mem_of_getElem? (i := 224) rfl)) rfl
theorem qc_X12_orders : Cond.code yX12_orders cX12_orders 2 (some .boolean) ∈ gw := tbt (tb8 (List.mem_of_getElem? (i := 38) rfl)) rfl
theorem qi_yX12_orders : Cond.instanceMethod yX12_orders ∈ gw := tbt (tb8 (List.mem_of_getElem? (i := 37) rfl)) rfl
theorem qs_X12_orders : Cond.selects (yX12_orders).cls yX12_orders yX12_orders ∈ gw := tb0 (List.mem_of_getElem? (i := 80) rfl) rfl
theorem ci_X12_orders : CIv yX12_orders cX12_orders 2 (some .boolean) 1 := ⟨qc_X12_orders, qi_yX12_orders, qs_X12_orders, qz_X12, by decide +kernel⟩
theorem qm_X12_321 : Cond.methodLink RX12 321 yX12_orders ∈ gw := tbt (tb8 (List.mem_of_getElem? (i := 35) rfl)) rfl
def fb_X12_changes_0 : List UInt8 := [0x2a, 0x1b, 0xb6, 0x00, 0xf3, 0x9a, 0x00, 0x09, 0x2a, 0x04, 0xb6, 0x00, 0x51, 0xac, 0x03, 0x3d, 0x04, 0x3e, 0x1d, 0x2a, 0xb4, 0x00, 0x07, 0x06, 0x2e, 0xa3, 0x00, 0x22, 0x1c, 0x2a, 0x1b, 0x1d, 0xb6, 0x01, 0x6b, 0x2a, 0x1b, 0x1d, 0x04, 0x64, 0xb6, 0x01, 0x6b, 0xa0, 0x00, 0x07, 0x03, 0xa7, 0x00, 0x04, 0x04, 0x60, 0x3d, 0x84, 0x03, 0x01, 0xa7, 0xff, 0xda, 0x2a, 0x1c, 0xb6, 0x00, 0x55]
theorem fl_X12_changes_0 {p j : Nat} {b : UInt8} (e : p = 0 + j) (h : fb_X12_changes_0[j]? = some b) : cX12_changes.data.toList[p]? = some b := fq_l (n := 64) (show (cX12_changes.data.toList.drop 0).take 64 = fb_X12_changes_0 by decide +kernel) e h
theorem dX12_changes_0 : decode cX12_changes 0 = .ok (.aload_n 0, 1) := fq1_42 (fl_X12_changes_0 (j := 0) rfl rfl)
theorem dX12_changes_1 : decode cX12_changes 1 = .ok (.iload_n 1, 1) := fq1_27 (fl_X12_changes_0 (j := 1) rfl rfl)
theorem dX12_changes_2 : decode cX12_changes 2 = .ok (.invokevirtual 243, 3) := fq3_182 (fl_X12_changes_0 (j := 2) rfl rfl) (fl_X12_changes_0 (j := 3) rfl rfl) (fl_X12_changes_0 (j := 4) rfl rfl) rfl
theorem dX12_changes_5 : decode cX12_changes 5 = .ok (.ifCond .ne 9, 3) := fq3_154 (fl_X12_changes_0 (j := 5) rfl rfl) (fl_X12_changes_0 (j := 6) rfl rfl) (fl_X12_changes_0 (j := 7) rfl rfl) (s2p rfl (bl rfl))
theorem dX12_changes_8 : decode cX12_changes 8 = .ok (.aload_n 0, 1) := fq1_42 (fl_X12_changes_0 (j := 8) rfl rfl)
theorem dX12_changes_9 : decode cX12_changes 9 = .ok (.iconst 1, 1) := fq1_4 (fl_X12_changes_0 (j := 9) rfl rfl)
theorem dX12_changes_10 : decode cX12_changes 10 = .ok (.invokevirtual 81, 3) := fq3_182 (fl_X12_changes_0 (j := 10) rfl rfl) (fl_X12_changes_0 (j := 11) rfl rfl) (fl_X12_changes_0 (j := 12) rfl rfl) rfl
theorem dX12_changes_13 : decode cX12_changes 13 = .ok (.ireturn, 1) := fq1_172 (fl_X12_changes_0 (j := 13) rfl rfl)
theorem dX12_changes_14 : decode cX12_changes 14 = .ok (.iconst 0, 1) := fq1_3 (fl_X12_changes_0 (j := 14) rfl rfl)
theorem dX12_changes_15 : decode cX12_changes 15 = .ok (.istore_n 2, 1) := fq1_61 (fl_X12_changes_0 (j := 15) rfl rfl)
theorem dX12_changes_16 : decode cX12_changes 16 = .ok (.iconst 1, 1) := fq1_4 (fl_X12_changes_0 (j := 16) rfl rfl)
theorem dX12_changes_17 : decode cX12_changes 17 = .ok (.istore_n 3, 1) := fq1_62 (fl_X12_changes_0 (j := 17) rfl rfl)
theorem dX12_changes_18 : decode cX12_changes 18 = .ok (.iload_n 3, 1) := fq1_29 (fl_X12_changes_0 (j := 18) rfl rfl)
theorem dX12_changes_19 : decode cX12_changes 19 = .ok (.aload_n 0, 1) := fq1_42 (fl_X12_changes_0 (j := 19) rfl rfl)
theorem dX12_changes_20 : decode cX12_changes 20 = .ok (.getfield 7, 3) := fq3_180 (fl_X12_changes_0 (j := 20) rfl rfl) (fl_X12_changes_0 (j := 21) rfl rfl) (fl_X12_changes_0 (j := 22) rfl rfl) rfl
theorem dX12_changes_23 : decode cX12_changes 23 = .ok (.iconst 3, 1) := fq1_6 (fl_X12_changes_0 (j := 23) rfl rfl)
theorem dX12_changes_24 : decode cX12_changes 24 = .ok (.iaload, 1) := fq1_46 (fl_X12_changes_0 (j := 24) rfl rfl)
theorem dX12_changes_25 : decode cX12_changes 25 = .ok (.if_icmp .gt 34, 3) := fq3_163 (fl_X12_changes_0 (j := 25) rfl rfl) (fl_X12_changes_0 (j := 26) rfl rfl) (fl_X12_changes_0 (j := 27) rfl rfl) (s2p rfl (bl rfl))
theorem dX12_changes_28 : decode cX12_changes 28 = .ok (.iload_n 2, 1) := fq1_28 (fl_X12_changes_0 (j := 28) rfl rfl)
theorem dX12_changes_29 : decode cX12_changes 29 = .ok (.aload_n 0, 1) := fq1_42 (fl_X12_changes_0 (j := 29) rfl rfl)
theorem dX12_changes_30 : decode cX12_changes 30 = .ok (.iload_n 1, 1) := fq1_27 (fl_X12_changes_0 (j := 30) rfl rfl)
theorem dX12_changes_31 : decode cX12_changes 31 = .ok (.iload_n 3, 1) := fq1_29 (fl_X12_changes_0 (j := 31) rfl rfl)
theorem dX12_changes_32 : decode cX12_changes 32 = .ok (.invokevirtual 363, 3) := fq3_182 (fl_X12_changes_0 (j := 32) rfl rfl) (fl_X12_changes_0 (j := 33) rfl rfl) (fl_X12_changes_0 (j := 34) rfl rfl) rfl
theorem dX12_changes_35 : decode cX12_changes 35 = .ok (.aload_n 0, 1) := fq1_42 (fl_X12_changes_0 (j := 35) rfl rfl)
theorem dX12_changes_36 : decode cX12_changes 36 = .ok (.iload_n 1, 1) := fq1_27 (fl_X12_changes_0 (j := 36) rfl rfl)
theorem dX12_changes_37 : decode cX12_changes 37 = .ok (.iload_n 3, 1) := fq1_29 (fl_X12_changes_0 (j := 37) rfl rfl)
theorem dX12_changes_38 : decode cX12_changes 38 = .ok (.iconst 1, 1) := fq1_4 (fl_X12_changes_0 (j := 38) rfl rfl)
theorem dX12_changes_39 : decode cX12_changes 39 = .ok (.isub, 1) := fq1_100 (fl_X12_changes_0 (j := 39) rfl rfl)
theorem dX12_changes_40 : decode cX12_changes 40 = .ok (.invokevirtual 363, 3) := fq3_182 (fl_X12_changes_0 (j := 40) rfl rfl) (fl_X12_changes_0 (j := 41) rfl rfl) (fl_X12_changes_0 (j := 42) rfl rfl) rfl
theorem dX12_changes_43 : decode cX12_changes 43 = .ok (.if_icmp .ne 7, 3) := fq3_160 (fl_X12_changes_0 (j := 43) rfl rfl) (fl_X12_changes_0 (j := 44) rfl rfl) (fl_X12_changes_0 (j := 45) rfl rfl) (s2p rfl (bl rfl))
theorem dX12_changes_46 : decode cX12_changes 46 = .ok (.iconst 0, 1) := fq1_3 (fl_X12_changes_0 (j := 46) rfl rfl)
theorem dX12_changes_47 : decode cX12_changes 47 = .ok (.goto 4, 3) := fq3_167 (fl_X12_changes_0 (j := 47) rfl rfl) (fl_X12_changes_0 (j := 48) rfl rfl) (fl_X12_changes_0 (j := 49) rfl rfl) (s2p rfl (bl rfl))
theorem dX12_changes_50 : decode cX12_changes 50 = .ok (.iconst 1, 1) := fq1_4 (fl_X12_changes_0 (j := 50) rfl rfl)
theorem dX12_changes_51 : decode cX12_changes 51 = .ok (.iadd, 1) := fq1_96 (fl_X12_changes_0 (j := 51) rfl rfl)
theorem dX12_changes_52 : decode cX12_changes 52 = .ok (.istore_n 2, 1) := fq1_61 (fl_X12_changes_0 (j := 52) rfl rfl)
theorem dX12_changes_53 : decode cX12_changes 53 = .ok (.iinc 3 1, 3) := fq3_132 (fl_X12_changes_0 (j := 53) rfl rfl) (fl_X12_changes_0 (j := 54) rfl rfl) (fl_X12_changes_0 (j := 55) rfl rfl) rfl (s1p rfl (bl rfl))
theorem dX12_changes_56 : decode cX12_changes 56 = .ok (.goto (-38), 3) := fq3_167 (fl_X12_changes_0 (j := 56) rfl rfl) (fl_X12_changes_0 (j := 57) rfl rfl) (fl_X12_changes_0 (j := 58) rfl rfl) (by decide)
theorem dX12_changes_59 : decode cX12_changes 59 = .ok (.aload_n 0, 1) := fq1_42 (fl_X12_changes_0 (j := 59) rfl rfl)
theorem dX12_changes_60 : decode cX12_changes 60 = .ok (.iload_n 2, 1) := fq1_28 (fl_X12_changes_0 (j := 60) rfl rfl)
theorem dX12_changes_61 : decode cX12_changes 61 = .ok (.invokevirtual 85, 3) := fq3_182 (fl_X12_changes_0 (j := 61) rfl rfl) (fl_X12_changes_0 (j := 62) rfl rfl) (fl_X12_changes_0 (j := 63) rfl rfl) rfl
def fb_X12_changes_1 : List UInt8 := [0xac]
theorem fl_X12_changes_1 {p j : Nat} {b : UInt8} (e : p = 64 + j) (h : fb_X12_changes_1[j]? = some b) : cX12_changes.data.toList[p]? = some b := fq_l (n := 64) (show (cX12_changes.data.toList.drop 64).take 64 = fb_X12_changes_1 by decide +kernel) e h
theorem dX12_changes_64 : decode cX12_changes 64 = .ok (.ireturn, 1) := fq1_172 (fl_X12_changes_1 (j := 0) rfl rfl)
def fb_X12_fashion_0 : List UInt8 := [0x2a, 0x1b, 0x1c, 0xb6, 0x01, 0x09, 0x99, 0x00, 0x16, 0x2a, 0x2a, 0x1b, 0x1c, 0x2a, 0xb4, 0x00, 0x07, 0x06, 0x2e, 0xb6, 0x01, 0x6e, 0xb6, 0x01, 0x22, 0xa7, 0x00, 0x08, 0x2a, 0x04, 0xb6, 0x00, 0x51, 0xac]
theorem fl_X12_fashion_0 {p j : Nat} {b : UInt8} (e : p = 0 + j) (h : fb_X12_fashion_0[j]? = some b) : cX12_fashion.data.toList[p]? = some b := fq_l (n := 64) (show (cX12_fashion.data.toList.drop 0).take 64 = fb_X12_fashion_0 by decide +kernel) e h
theorem dX12_fashion_0 : decode cX12_fashion 0 = .ok (.aload_n 0, 1) := fq1_42 (fl_X12_fashion_0 (j := 0) rfl rfl)
theorem dX12_fashion_1 : decode cX12_fashion 1 = .ok (.iload_n 1, 1) := fq1_27 (fl_X12_fashion_0 (j := 1) rfl rfl)
theorem dX12_fashion_2 : decode cX12_fashion 2 = .ok (.iload_n 2, 1) := fq1_28 (fl_X12_fashion_0 (j := 2) rfl rfl)
theorem dX12_fashion_3 : decode cX12_fashion 3 = .ok (.invokevirtual 265, 3) := fq3_182 (fl_X12_fashion_0 (j := 3) rfl rfl) (fl_X12_fashion_0 (j := 4) rfl rfl) (fl_X12_fashion_0 (j := 5) rfl rfl) rfl
theorem dX12_fashion_6 : decode cX12_fashion 6 = .ok (.ifCond .eq 22, 3) := fq3_153 (fl_X12_fashion_0 (j := 6) rfl rfl) (fl_X12_fashion_0 (j := 7) rfl rfl) (fl_X12_fashion_0 (j := 8) rfl rfl) (s2p rfl (bl rfl))
theorem dX12_fashion_9 : decode cX12_fashion 9 = .ok (.aload_n 0, 1) := fq1_42 (fl_X12_fashion_0 (j := 9) rfl rfl)
theorem dX12_fashion_10 : decode cX12_fashion 10 = .ok (.aload_n 0, 1) := fq1_42 (fl_X12_fashion_0 (j := 10) rfl rfl)
theorem dX12_fashion_11 : decode cX12_fashion 11 = .ok (.iload_n 1, 1) := fq1_27 (fl_X12_fashion_0 (j := 11) rfl rfl)
theorem dX12_fashion_12 : decode cX12_fashion 12 = .ok (.iload_n 2, 1) := fq1_28 (fl_X12_fashion_0 (j := 12) rfl rfl)
theorem dX12_fashion_13 : decode cX12_fashion 13 = .ok (.aload_n 0, 1) := fq1_42 (fl_X12_fashion_0 (j := 13) rfl rfl)
theorem dX12_fashion_14 : decode cX12_fashion 14 = .ok (.getfield 7, 3) := fq3_180 (fl_X12_fashion_0 (j := 14) rfl rfl) (fl_X12_fashion_0 (j := 15) rfl rfl) (fl_X12_fashion_0 (j := 16) rfl rfl) rfl
theorem dX12_fashion_17 : decode cX12_fashion 17 = .ok (.iconst 3, 1) := fq1_6 (fl_X12_fashion_0 (j := 17) rfl rfl)
theorem dX12_fashion_18 : decode cX12_fashion 18 = .ok (.iaload, 1) := fq1_46 (fl_X12_fashion_0 (j := 18) rfl rfl)
theorem dX12_fashion_19 : decode cX12_fashion 19 = .ok (.invokevirtual 366, 3) := fq3_182 (fl_X12_fashion_0 (j := 19) rfl rfl) (fl_X12_fashion_0 (j := 20) rfl rfl) (fl_X12_fashion_0 (j := 21) rfl rfl) rfl
theorem dX12_fashion_22 : decode cX12_fashion 22 = .ok (.invokevirtual 290, 3) := fq3_182 (fl_X12_fashion_0 (j := 22) rfl rfl) (fl_X12_fashion_0 (j := 23) rfl rfl) (fl_X12_fashion_0 (j := 24) rfl rfl) rfl
theorem dX12_fashion_25 : decode cX12_fashion 25 = .ok (.goto 8, 3) := fq3_167 (fl_X12_fashion_0 (j := 25) rfl rfl) (fl_X12_fashion_0 (j := 26) rfl rfl) (fl_X12_fashion_0 (j := 27) rfl rfl) (s2p rfl (bl rfl))
theorem dX12_fashion_28 : decode cX12_fashion 28 = .ok (.aload_n 0, 1) := fq1_42 (fl_X12_fashion_0 (j := 28) rfl rfl)
theorem dX12_fashion_29 : decode cX12_fashion 29 = .ok (.iconst 1, 1) := fq1_4 (fl_X12_fashion_0 (j := 29) rfl rfl)
theorem dX12_fashion_30 : decode cX12_fashion 30 = .ok (.invokevirtual 81, 3) := fq3_182 (fl_X12_fashion_0 (j := 30) rfl rfl) (fl_X12_fashion_0 (j := 31) rfl rfl) (fl_X12_fashion_0 (j := 32) rfl rfl) rfl
theorem dX12_fashion_33 : decode cX12_fashion 33 = .ok (.ireturn, 1) := fq1_172 (fl_X12_fashion_0 (j := 33) rfl rfl)
def fb_X12_follows_0 : List UInt8 := [0x2a, 0x1b, 0x1c, 0xb6, 0x01, 0x09, 0x99, 0x00, 0x10, 0x2a, 0x2a, 0x1b, 0x1c, 0xb6, 0x01, 0x79, 0xb6, 0x00, 0x55, 0xa7, 0x00, 0x08, 0x2a, 0x04, 0xb6, 0x00, 0x51, 0xac]
theorem fl_X12_follows_0 {p j : Nat} {b : UInt8} (e : p = 0 + j) (h : fb_X12_follows_0[j]? = some b) : cX12_follows.data.toList[p]? = some b := fq_l (n := 64) (show (cX12_follows.data.toList.drop 0).take 64 = fb_X12_follows_0 by decide +kernel) e h
theorem dX12_follows_0 : decode cX12_follows 0 = .ok (.aload_n 0, 1) := fq1_42 (fl_X12_follows_0 (j := 0) rfl rfl)
theorem dX12_follows_1 : decode cX12_follows 1 = .ok (.iload_n 1, 1) := fq1_27 (fl_X12_follows_0 (j := 1) rfl rfl)
theorem dX12_follows_2 : decode cX12_follows 2 = .ok (.iload_n 2, 1) := fq1_28 (fl_X12_follows_0 (j := 2) rfl rfl)
theorem dX12_follows_3 : decode cX12_follows 3 = .ok (.invokevirtual 265, 3) := fq3_182 (fl_X12_follows_0 (j := 3) rfl rfl) (fl_X12_follows_0 (j := 4) rfl rfl) (fl_X12_follows_0 (j := 5) rfl rfl) rfl
theorem dX12_follows_6 : decode cX12_follows 6 = .ok (.ifCond .eq 16, 3) := fq3_153 (fl_X12_follows_0 (j := 6) rfl rfl) (fl_X12_follows_0 (j := 7) rfl rfl) (fl_X12_follows_0 (j := 8) rfl rfl) (s2p rfl (bl rfl))
theorem dX12_follows_9 : decode cX12_follows 9 = .ok (.aload_n 0, 1) := fq1_42 (fl_X12_follows_0 (j := 9) rfl rfl)
theorem dX12_follows_10 : decode cX12_follows 10 = .ok (.aload_n 0, 1) := fq1_42 (fl_X12_follows_0 (j := 10) rfl rfl)
theorem dX12_follows_11 : decode cX12_follows 11 = .ok (.iload_n 1, 1) := fq1_27 (fl_X12_follows_0 (j := 11) rfl rfl)
theorem dX12_follows_12 : decode cX12_follows 12 = .ok (.iload_n 2, 1) := fq1_28 (fl_X12_follows_0 (j := 12) rfl rfl)
theorem dX12_follows_13 : decode cX12_follows 13 = .ok (.invokevirtual 377, 3) := fq3_182 (fl_X12_follows_0 (j := 13) rfl rfl) (fl_X12_follows_0 (j := 14) rfl rfl) (fl_X12_follows_0 (j := 15) rfl rfl) rfl
theorem dX12_follows_16 : decode cX12_follows 16 = .ok (.invokevirtual 85, 3) := fq3_182 (fl_X12_follows_0 (j := 16) rfl rfl) (fl_X12_follows_0 (j := 17) rfl rfl) (fl_X12_follows_0 (j := 18) rfl rfl) rfl
theorem dX12_follows_19 : decode cX12_follows 19 = .ok (.goto 8, 3) := fq3_167 (fl_X12_follows_0 (j := 19) rfl rfl) (fl_X12_follows_0 (j := 20) rfl rfl) (fl_X12_follows_0 (j := 21) rfl rfl) (s2p rfl (bl rfl))
theorem dX12_follows_22 : decode cX12_follows 22 = .ok (.aload_n 0, 1) := fq1_42 (fl_X12_follows_0 (j := 22) rfl rfl)
theorem dX12_follows_23 : decode cX12_follows 23 = .ok (.iconst 1, 1) := fq1_4 (fl_X12_follows_0 (j := 23) rfl rfl)
theorem dX12_follows_24 : decode cX12_follows 24 = .ok (.invokevirtual 81, 3) := fq3_182 (fl_X12_follows_0 (j := 24) rfl rfl) (fl_X12_follows_0 (j := 25) rfl rfl) (fl_X12_follows_0 (j := 26) rfl rfl) rfl
theorem dX12_follows_27 : decode cX12_follows 27 = .ok (.ireturn, 1) := fq1_172 (fl_X12_follows_0 (j := 27) rfl rfl)
def fb_X12_followsOf_0 : List UInt8 := [0x03, 0x3e, 0x04, 0x36, 0x04, 0x15, 0x04, 0x2a, 0xb4, 0x00, 0x07, 0x06, 0x2e, 0xa3, 0x00, 0x23, 0x1d, 0x2a, 0x1b, 0x1c, 0x15, 0x04, 0xb6, 0x01, 0x6e, 0x2a, 0x1b, 0x15, 0x04, 0xb6, 0x01, 0x6b, 0xa0, 0x00, 0x07, 0x04, 0xa7, 0x00, 0x04, 0x03, 0x60, 0x3e, 0x84, 0x04, 0x01, 0xa7, 0xff, 0xd8, 0x1d, 0xac]
theorem fl_X12_followsOf_0 {p j : Nat} {b : UInt8} (e : p = 0 + j) (h : fb_X12_followsOf_0[j]? = some b) : cX12_followsOf.data.toList[p]? = some b := fq_l (n := 64) (show (cX12_followsOf.data.toList.drop 0).take 64 = fb_X12_followsOf_0 by decide +kernel) e h
theorem dX12_followsOf_0 : decode cX12_followsOf 0 = .ok (.iconst 0, 1) := fq1_3 (fl_X12_followsOf_0 (j := 0) rfl rfl)
theorem dX12_followsOf_1 : decode cX12_followsOf 1 = .ok (.istore_n 3, 1) := fq1_62 (fl_X12_followsOf_0 (j := 1) rfl rfl)
theorem dX12_followsOf_2 : decode cX12_followsOf 2 = .ok (.iconst 1, 1) := fq1_4 (fl_X12_followsOf_0 (j := 2) rfl rfl)
theorem dX12_followsOf_3 : decode cX12_followsOf 3 = .ok (.istore 4, 2) := fq2_54 (fl_X12_followsOf_0 (j := 3) rfl rfl) (fl_X12_followsOf_0 (j := 4) rfl rfl) rfl
theorem dX12_followsOf_5 : decode cX12_followsOf 5 = .ok (.iload 4, 2) := fq2_21 (fl_X12_followsOf_0 (j := 5) rfl rfl) (fl_X12_followsOf_0 (j := 6) rfl rfl) rfl
theorem dX12_followsOf_7 : decode cX12_followsOf 7 = .ok (.aload_n 0, 1) := fq1_42 (fl_X12_followsOf_0 (j := 7) rfl rfl)
theorem dX12_followsOf_8 : decode cX12_followsOf 8 = .ok (.getfield 7, 3) := fq3_180 (fl_X12_followsOf_0 (j := 8) rfl rfl) (fl_X12_followsOf_0 (j := 9) rfl rfl) (fl_X12_followsOf_0 (j := 10) rfl rfl) rfl
theorem dX12_followsOf_11 : decode cX12_followsOf 11 = .ok (.iconst 3, 1) := fq1_6 (fl_X12_followsOf_0 (j := 11) rfl rfl)
theorem dX12_followsOf_12 : decode cX12_followsOf 12 = .ok (.iaload, 1) := fq1_46 (fl_X12_followsOf_0 (j := 12) rfl rfl)
theorem dX12_followsOf_13 : decode cX12_followsOf 13 = .ok (.if_icmp .gt 35, 3) := fq3_163 (fl_X12_followsOf_0 (j := 13) rfl rfl) (fl_X12_followsOf_0 (j := 14) rfl rfl) (fl_X12_followsOf_0 (j := 15) rfl rfl) (s2p rfl (bl rfl))
theorem dX12_followsOf_16 : decode cX12_followsOf 16 = .ok (.iload_n 3, 1) := fq1_29 (fl_X12_followsOf_0 (j := 16) rfl rfl)
theorem dX12_followsOf_17 : decode cX12_followsOf 17 = .ok (.aload_n 0, 1) := fq1_42 (fl_X12_followsOf_0 (j := 17) rfl rfl)
theorem dX12_followsOf_18 : decode cX12_followsOf 18 = .ok (.iload_n 1, 1) := fq1_27 (fl_X12_followsOf_0 (j := 18) rfl rfl)
theorem dX12_followsOf_19 : decode cX12_followsOf 19 = .ok (.iload_n 2, 1) := fq1_28 (fl_X12_followsOf_0 (j := 19) rfl rfl)
theorem dX12_followsOf_20 : decode cX12_followsOf 20 = .ok (.iload 4, 2) := fq2_21 (fl_X12_followsOf_0 (j := 20) rfl rfl) (fl_X12_followsOf_0 (j := 21) rfl rfl) rfl
theorem dX12_followsOf_22 : decode cX12_followsOf 22 = .ok (.invokevirtual 366, 3) := fq3_182 (fl_X12_followsOf_0 (j := 22) rfl rfl) (fl_X12_followsOf_0 (j := 23) rfl rfl) (fl_X12_followsOf_0 (j := 24) rfl rfl) rfl
theorem dX12_followsOf_25 : decode cX12_followsOf 25 = .ok (.aload_n 0, 1) := fq1_42 (fl_X12_followsOf_0 (j := 25) rfl rfl)
theorem dX12_followsOf_26 : decode cX12_followsOf 26 = .ok (.iload_n 1, 1) := fq1_27 (fl_X12_followsOf_0 (j := 26) rfl rfl)
theorem dX12_followsOf_27 : decode cX12_followsOf 27 = .ok (.iload 4, 2) := fq2_21 (fl_X12_followsOf_0 (j := 27) rfl rfl) (fl_X12_followsOf_0 (j := 28) rfl rfl) rfl
theorem dX12_followsOf_29 : decode cX12_followsOf 29 = .ok (.invokevirtual 363, 3) := fq3_182 (fl_X12_followsOf_0 (j := 29) rfl rfl) (fl_X12_followsOf_0 (j := 30) rfl rfl) (fl_X12_followsOf_0 (j := 31) rfl rfl) rfl
theorem dX12_followsOf_32 : decode cX12_followsOf 32 = .ok (.if_icmp .ne 7, 3) := fq3_160 (fl_X12_followsOf_0 (j := 32) rfl rfl) (fl_X12_followsOf_0 (j := 33) rfl rfl) (fl_X12_followsOf_0 (j := 34) rfl rfl) (s2p rfl (bl rfl))
theorem dX12_followsOf_35 : decode cX12_followsOf 35 = .ok (.iconst 1, 1) := fq1_4 (fl_X12_followsOf_0 (j := 35) rfl rfl)
theorem dX12_followsOf_36 : decode cX12_followsOf 36 = .ok (.goto 4, 3) := fq3_167 (fl_X12_followsOf_0 (j := 36) rfl rfl) (fl_X12_followsOf_0 (j := 37) rfl rfl) (fl_X12_followsOf_0 (j := 38) rfl rfl) (s2p rfl (bl rfl))
theorem dX12_followsOf_39 : decode cX12_followsOf 39 = .ok (.iconst 0, 1) := fq1_3 (fl_X12_followsOf_0 (j := 39) rfl rfl)
theorem dX12_followsOf_40 : decode cX12_followsOf 40 = .ok (.iadd, 1) := fq1_96 (fl_X12_followsOf_0 (j := 40) rfl rfl)
theorem dX12_followsOf_41 : decode cX12_followsOf 41 = .ok (.istore_n 3, 1) := fq1_62 (fl_X12_followsOf_0 (j := 41) rfl rfl)
theorem dX12_followsOf_42 : decode cX12_followsOf 42 = .ok (.iinc 4 1, 3) := fq3_132 (fl_X12_followsOf_0 (j := 42) rfl rfl) (fl_X12_followsOf_0 (j := 43) rfl rfl) (fl_X12_followsOf_0 (j := 44) rfl rfl) rfl (s1p rfl (bl rfl))
theorem dX12_followsOf_45 : decode cX12_followsOf 45 = .ok (.goto (-40), 3) := fq3_167 (fl_X12_followsOf_0 (j := 45) rfl rfl) (fl_X12_followsOf_0 (j := 46) rfl rfl) (fl_X12_followsOf_0 (j := 47) rfl rfl) (by decide)
theorem dX12_followsOf_48 : decode cX12_followsOf 48 = .ok (.iload_n 3, 1) := fq1_29 (fl_X12_followsOf_0 (j := 48) rfl rfl)
theorem dX12_followsOf_49 : decode cX12_followsOf 49 = .ok (.ireturn, 1) := fq1_172 (fl_X12_followsOf_0 (j := 49) rfl rfl)
def fb_X12_model_0 : List UInt8 := [0x2a, 0x1b, 0xb6, 0x00, 0xf3, 0x9a, 0x00, 0x09, 0x2a, 0x04, 0xb6, 0x00, 0x51, 0xac, 0x02, 0x3d, 0x02, 0x3e, 0x03, 0x36, 0x04, 0x15, 0x04, 0x2a, 0xb4, 0x00, 0x07, 0x03, 0x2e, 0xa2, 0x00, 0x2b, 0x15, 0x04, 0x1b, 0xa0, 0x00, 0x07, 0x02, 0xa7, 0x00, 0x0a, 0x2a, 0x1b, 0x15, 0x04, 0xb6, 0x01, 0x79, 0x36, 0x05, 0x15, 0x05, 0x1d, 0xa3, 0x00, 0x06, 0xa7, 0x00, 0x09, 0x15, 0x05, 0x3e, 0x15]
theorem fl_X12_model_0 {p j : Nat} {b : UInt8} (e : p = 0 + j) (h : fb_X12_model_0[j]? = some b) : cX12_model.data.toList[p]? = some b := fq_l (n := 64) (show (cX12_model.data.toList.drop 0).take 64 = fb_X12_model_0 by decide +kernel) e h
theorem dX12_model_0 : decode cX12_model 0 = .ok (.aload_n 0, 1) := fq1_42 (fl_X12_model_0 (j := 0) rfl rfl)
theorem dX12_model_1 : decode cX12_model 1 = .ok (.iload_n 1, 1) := fq1_27 (fl_X12_model_0 (j := 1) rfl rfl)
theorem dX12_model_2 : decode cX12_model 2 = .ok (.invokevirtual 243, 3) := fq3_182 (fl_X12_model_0 (j := 2) rfl rfl) (fl_X12_model_0 (j := 3) rfl rfl) (fl_X12_model_0 (j := 4) rfl rfl) rfl
theorem dX12_model_5 : decode cX12_model 5 = .ok (.ifCond .ne 9, 3) := fq3_154 (fl_X12_model_0 (j := 5) rfl rfl) (fl_X12_model_0 (j := 6) rfl rfl) (fl_X12_model_0 (j := 7) rfl rfl) (s2p rfl (bl rfl))
theorem dX12_model_8 : decode cX12_model 8 = .ok (.aload_n 0, 1) := fq1_42 (fl_X12_model_0 (j := 8) rfl rfl)
theorem dX12_model_9 : decode cX12_model 9 = .ok (.iconst 1, 1) := fq1_4 (fl_X12_model_0 (j := 9) rfl rfl)
theorem dX12_model_10 : decode cX12_model 10 = .ok (.invokevirtual 81, 3) := fq3_182 (fl_X12_model_0 (j := 10) rfl rfl) (fl_X12_model_0 (j := 11) rfl rfl) (fl_X12_model_0 (j := 12) rfl rfl) rfl
theorem dX12_model_13 : decode cX12_model 13 = .ok (.ireturn, 1) := fq1_172 (fl_X12_model_0 (j := 13) rfl rfl)
theorem dX12_model_14 : decode cX12_model 14 = .ok (.iconst (-1), 1) := fq1_2 (fl_X12_model_0 (j := 14) rfl rfl)
theorem dX12_model_15 : decode cX12_model 15 = .ok (.istore_n 2, 1) := fq1_61 (fl_X12_model_0 (j := 15) rfl rfl)
theorem dX12_model_16 : decode cX12_model 16 = .ok (.iconst (-1), 1) := fq1_2 (fl_X12_model_0 (j := 16) rfl rfl)
theorem dX12_model_17 : decode cX12_model 17 = .ok (.istore_n 3, 1) := fq1_62 (fl_X12_model_0 (j := 17) rfl rfl)
theorem dX12_model_18 : decode cX12_model 18 = .ok (.iconst 0, 1) := fq1_3 (fl_X12_model_0 (j := 18) rfl rfl)
theorem dX12_model_19 : decode cX12_model 19 = .ok (.istore 4, 2) := fq2_54 (fl_X12_model_0 (j := 19) rfl rfl) (fl_X12_model_0 (j := 20) rfl rfl) rfl
theorem dX12_model_21 : decode cX12_model 21 = .ok (.iload 4, 2) := fq2_21 (fl_X12_model_0 (j := 21) rfl rfl) (fl_X12_model_0 (j := 22) rfl rfl) rfl
theorem dX12_model_23 : decode cX12_model 23 = .ok (.aload_n 0, 1) := fq1_42 (fl_X12_model_0 (j := 23) rfl rfl)
theorem dX12_model_24 : decode cX12_model 24 = .ok (.getfield 7, 3) := fq3_180 (fl_X12_model_0 (j := 24) rfl rfl) (fl_X12_model_0 (j := 25) rfl rfl) (fl_X12_model_0 (j := 26) rfl rfl) rfl
theorem dX12_model_27 : decode cX12_model 27 = .ok (.iconst 0, 1) := fq1_3 (fl_X12_model_0 (j := 27) rfl rfl)
theorem dX12_model_28 : decode cX12_model 28 = .ok (.iaload, 1) := fq1_46 (fl_X12_model_0 (j := 28) rfl rfl)
theorem dX12_model_29 : decode cX12_model 29 = .ok (.if_icmp .ge 43, 3) := fq3_162 (fl_X12_model_0 (j := 29) rfl rfl) (fl_X12_model_0 (j := 30) rfl rfl) (fl_X12_model_0 (j := 31) rfl rfl) (s2p rfl (bl rfl))
theorem dX12_model_32 : decode cX12_model 32 = .ok (.iload 4, 2) := fq2_21 (fl_X12_model_0 (j := 32) rfl rfl) (fl_X12_model_0 (j := 33) rfl rfl) rfl
theorem dX12_model_34 : decode cX12_model 34 = .ok (.iload_n 1, 1) := fq1_27 (fl_X12_model_0 (j := 34) rfl rfl)
theorem dX12_model_35 : decode cX12_model 35 = .ok (.if_icmp .ne 7, 3) := fq3_160 (fl_X12_model_0 (j := 35) rfl rfl) (fl_X12_model_0 (j := 36) rfl rfl) (fl_X12_model_0 (j := 37) rfl rfl) (s2p rfl (bl rfl))
theorem dX12_model_38 : decode cX12_model 38 = .ok (.iconst (-1), 1) := fq1_2 (fl_X12_model_0 (j := 38) rfl rfl)
theorem dX12_model_39 : decode cX12_model 39 = .ok (.goto 10, 3) := fq3_167 (fl_X12_model_0 (j := 39) rfl rfl) (fl_X12_model_0 (j := 40) rfl rfl) (fl_X12_model_0 (j := 41) rfl rfl) (s2p rfl (bl rfl))
theorem dX12_model_42 : decode cX12_model 42 = .ok (.aload_n 0, 1) := fq1_42 (fl_X12_model_0 (j := 42) rfl rfl)
theorem dX12_model_43 : decode cX12_model 43 = .ok (.iload_n 1, 1) := fq1_27 (fl_X12_model_0 (j := 43) rfl rfl)
theorem dX12_model_44 : decode cX12_model 44 = .ok (.iload 4, 2) := fq2_21 (fl_X12_model_0 (j := 44) rfl rfl) (fl_X12_model_0 (j := 45) rfl rfl) rfl
theorem dX12_model_46 : decode cX12_model 46 = .ok (.invokevirtual 377, 3) := fq3_182 (fl_X12_model_0 (j := 46) rfl rfl) (fl_X12_model_0 (j := 47) rfl rfl) (fl_X12_model_0 (j := 48) rfl rfl) rfl
theorem dX12_model_49 : decode cX12_model 49 = .ok (.istore 5, 2) := fq2_54 (fl_X12_model_0 (j := 49) rfl rfl) (fl_X12_model_0 (j := 50) rfl rfl) rfl
theorem dX12_model_51 : decode cX12_model 51 = .ok (.iload 5, 2) := fq2_21 (fl_X12_model_0 (j := 51) rfl rfl) (fl_X12_model_0 (j := 52) rfl rfl) rfl
theorem dX12_model_53 : decode cX12_model 53 = .ok (.iload_n 3, 1) := fq1_29 (fl_X12_model_0 (j := 53) rfl rfl)
theorem dX12_model_54 : decode cX12_model 54 = .ok (.if_icmp .gt 6, 3) := fq3_163 (fl_X12_model_0 (j := 54) rfl rfl) (fl_X12_model_0 (j := 55) rfl rfl) (fl_X12_model_0 (j := 56) rfl rfl) (s2p rfl (bl rfl))
theorem dX12_model_57 : decode cX12_model 57 = .ok (.goto 9, 3) := fq3_167 (fl_X12_model_0 (j := 57) rfl rfl) (fl_X12_model_0 (j := 58) rfl rfl) (fl_X12_model_0 (j := 59) rfl rfl) (s2p rfl (bl rfl))
theorem dX12_model_60 : decode cX12_model 60 = .ok (.iload 5, 2) := fq2_21 (fl_X12_model_0 (j := 60) rfl rfl) (fl_X12_model_0 (j := 61) rfl rfl) rfl
theorem dX12_model_62 : decode cX12_model 62 = .ok (.istore_n 3, 1) := fq1_62 (fl_X12_model_0 (j := 62) rfl rfl)
def fb_X12_model_1 : List UInt8 := [0x04, 0x3d, 0x84, 0x04, 0x01, 0xa7, 0xff, 0xd0, 0x2a, 0x1c, 0xb6, 0x01, 0x22, 0xac]
theorem fl_X12_model_1 {p j : Nat} {b : UInt8} (e : p = 64 + j) (h : fb_X12_model_1[j]? = some b) : cX12_model.data.toList[p]? = some b := fq_l (n := 64) (show (cX12_model.data.toList.drop 64).take 64 = fb_X12_model_1 by decide +kernel) e h
theorem dX12_model_63 : decode cX12_model 63 = .ok (.iload 4, 2) := fq2_21 (fl_X12_model_0 (j := 63) rfl rfl) (fl_X12_model_1 (j := 0) rfl rfl) rfl
theorem dX12_model_65 : decode cX12_model 65 = .ok (.istore_n 2, 1) := fq1_61 (fl_X12_model_1 (j := 1) rfl rfl)
theorem dX12_model_66 : decode cX12_model 66 = .ok (.iinc 4 1, 3) := fq3_132 (fl_X12_model_1 (j := 2) rfl rfl) (fl_X12_model_1 (j := 3) rfl rfl) (fl_X12_model_1 (j := 4) rfl rfl) rfl (s1p rfl (bl rfl))
theorem dX12_model_69 : decode cX12_model 69 = .ok (.goto (-48), 3) := fq3_167 (fl_X12_model_1 (j := 5) rfl rfl) (fl_X12_model_1 (j := 6) rfl rfl) (fl_X12_model_1 (j := 7) rfl rfl) (by decide)
theorem dX12_model_72 : decode cX12_model 72 = .ok (.aload_n 0, 1) := fq1_42 (fl_X12_model_1 (j := 8) rfl rfl)
theorem dX12_model_73 : decode cX12_model 73 = .ok (.iload_n 2, 1) := fq1_28 (fl_X12_model_1 (j := 9) rfl rfl)
theorem dX12_model_74 : decode cX12_model 74 = .ok (.invokevirtual 290, 3) := fq3_182 (fl_X12_model_1 (j := 10) rfl rfl) (fl_X12_model_1 (j := 11) rfl rfl) (fl_X12_model_1 (j := 12) rfl rfl) rfl
theorem dX12_model_77 : decode cX12_model 77 = .ok (.ireturn, 1) := fq1_172 (fl_X12_model_1 (j := 13) rfl rfl)
def fb_X12_order_0 : List UInt8 := [0x2a, 0x1b, 0xb6, 0x00, 0xf3, 0x9a, 0x00, 0x09, 0x2a, 0x04, 0xb6, 0x00, 0x51, 0xac, 0x2a, 0x1b, 0xb6, 0x01, 0x41, 0x99, 0x00, 0x12, 0x2a, 0x2a, 0xb4, 0x00, 0x07, 0x07, 0x2e, 0x04, 0x64, 0xb6, 0x00, 0x55, 0xa7, 0x00, 0x08, 0x2a, 0x07, 0xb6, 0x00, 0x51, 0xac]
theorem fl_X12_order_0 {p j : Nat} {b : UInt8} (e : p = 0 + j) (h : fb_X12_order_0[j]? = some b) : cX12_order.data.toList[p]? = some b := fq_l (n := 64) (show (cX12_order.data.toList.drop 0).take 64 = fb_X12_order_0 by decide +kernel) e h
theorem dX12_order_0 : decode cX12_order 0 = .ok (.aload_n 0, 1) := fq1_42 (fl_X12_order_0 (j := 0) rfl rfl)
theorem dX12_order_1 : decode cX12_order 1 = .ok (.iload_n 1, 1) := fq1_27 (fl_X12_order_0 (j := 1) rfl rfl)
theorem dX12_order_2 : decode cX12_order 2 = .ok (.invokevirtual 243, 3) := fq3_182 (fl_X12_order_0 (j := 2) rfl rfl) (fl_X12_order_0 (j := 3) rfl rfl) (fl_X12_order_0 (j := 4) rfl rfl) rfl
theorem dX12_order_5 : decode cX12_order 5 = .ok (.ifCond .ne 9, 3) := fq3_154 (fl_X12_order_0 (j := 5) rfl rfl) (fl_X12_order_0 (j := 6) rfl rfl) (fl_X12_order_0 (j := 7) rfl rfl) (s2p rfl (bl rfl))
theorem dX12_order_8 : decode cX12_order 8 = .ok (.aload_n 0, 1) := fq1_42 (fl_X12_order_0 (j := 8) rfl rfl)
theorem dX12_order_9 : decode cX12_order 9 = .ok (.iconst 1, 1) := fq1_4 (fl_X12_order_0 (j := 9) rfl rfl)
theorem dX12_order_10 : decode cX12_order 10 = .ok (.invokevirtual 81, 3) := fq3_182 (fl_X12_order_0 (j := 10) rfl rfl) (fl_X12_order_0 (j := 11) rfl rfl) (fl_X12_order_0 (j := 12) rfl rfl) rfl
theorem dX12_order_13 : decode cX12_order 13 = .ok (.ireturn, 1) := fq1_172 (fl_X12_order_0 (j := 13) rfl rfl)
theorem dX12_order_14 : decode cX12_order 14 = .ok (.aload_n 0, 1) := fq1_42 (fl_X12_order_0 (j := 14) rfl rfl)
theorem dX12_order_15 : decode cX12_order 15 = .ok (.iload_n 1, 1) := fq1_27 (fl_X12_order_0 (j := 15) rfl rfl)
theorem dX12_order_16 : decode cX12_order 16 = .ok (.invokevirtual 321, 3) := fq3_182 (fl_X12_order_0 (j := 16) rfl rfl) (fl_X12_order_0 (j := 17) rfl rfl) (fl_X12_order_0 (j := 18) rfl rfl) rfl
theorem dX12_order_19 : decode cX12_order 19 = .ok (.ifCond .eq 18, 3) := fq3_153 (fl_X12_order_0 (j := 19) rfl rfl) (fl_X12_order_0 (j := 20) rfl rfl) (fl_X12_order_0 (j := 21) rfl rfl) (s2p rfl (bl rfl))
theorem dX12_order_22 : decode cX12_order 22 = .ok (.aload_n 0, 1) := fq1_42 (fl_X12_order_0 (j := 22) rfl rfl)
theorem dX12_order_23 : decode cX12_order 23 = .ok (.aload_n 0, 1) := fq1_42 (fl_X12_order_0 (j := 23) rfl rfl)
theorem dX12_order_24 : decode cX12_order 24 = .ok (.getfield 7, 3) := fq3_180 (fl_X12_order_0 (j := 24) rfl rfl) (fl_X12_order_0 (j := 25) rfl rfl) (fl_X12_order_0 (j := 26) rfl rfl) rfl
theorem dX12_order_27 : decode cX12_order 27 = .ok (.iconst 4, 1) := fq1_7 (fl_X12_order_0 (j := 27) rfl rfl)
theorem dX12_order_28 : decode cX12_order 28 = .ok (.iaload, 1) := fq1_46 (fl_X12_order_0 (j := 28) rfl rfl)
theorem dX12_order_29 : decode cX12_order 29 = .ok (.iconst 1, 1) := fq1_4 (fl_X12_order_0 (j := 29) rfl rfl)
theorem dX12_order_30 : decode cX12_order 30 = .ok (.isub, 1) := fq1_100 (fl_X12_order_0 (j := 30) rfl rfl)
theorem dX12_order_31 : decode cX12_order 31 = .ok (.invokevirtual 85, 3) := fq3_182 (fl_X12_order_0 (j := 31) rfl rfl) (fl_X12_order_0 (j := 32) rfl rfl) (fl_X12_order_0 (j := 33) rfl rfl) rfl
theorem dX12_order_34 : decode cX12_order 34 = .ok (.goto 8, 3) := fq3_167 (fl_X12_order_0 (j := 34) rfl rfl) (fl_X12_order_0 (j := 35) rfl rfl) (fl_X12_order_0 (j := 36) rfl rfl) (s2p rfl (bl rfl))
theorem dX12_order_37 : decode cX12_order 37 = .ok (.aload_n 0, 1) := fq1_42 (fl_X12_order_0 (j := 37) rfl rfl)
theorem dX12_order_38 : decode cX12_order 38 = .ok (.iconst 4, 1) := fq1_7 (fl_X12_order_0 (j := 38) rfl rfl)
theorem dX12_order_39 : decode cX12_order 39 = .ok (.invokevirtual 81, 3) := fq3_182 (fl_X12_order_0 (j := 39) rfl rfl) (fl_X12_order_0 (j := 40) rfl rfl) (fl_X12_order_0 (j := 41) rfl rfl) rfl
theorem dX12_order_42 : decode cX12_order 42 = .ok (.ireturn, 1) := fq1_172 (fl_X12_order_0 (j := 42) rfl rfl)
def fb_X12_pass_0 : List UInt8 := [0x1b, 0x85, 0x0a, 0x14, 0x01, 0x71, 0xb8, 0x01, 0x27, 0x9a, 0x00, 0x09, 0x2a, 0x04, 0xb6, 0x00, 0x51, 0xac, 0x2a, 0xb4, 0x00, 0x07, 0x06, 0x2e, 0x1b, 0x60, 0x11, 0x01, 0x90, 0xa4, 0x00, 0x09, 0x2a, 0x07, 0xb6, 0x00, 0x51, 0xac, 0x04, 0x3d, 0x03, 0x3e, 0x1d, 0x1b, 0xa2, 0x00, 0x12, 0x1c, 0x99, 0x00, 0x0e, 0x2a, 0xb6, 0x01, 0x73, 0x3d, 0x84, 0x03, 0x01, 0xa7, 0xff, 0xef, 0x2a, 0x2a]
theorem fl_X12_pass_0 {p j : Nat} {b : UInt8} (e : p = 0 + j) (h : fb_X12_pass_0[j]? = some b) : cX12_pass.data.toList[p]? = some b := fq_l (n := 64) (show (cX12_pass.data.toList.drop 0).take 64 = fb_X12_pass_0 by decide +kernel) e h
theorem dX12_pass_0 : decode cX12_pass 0 = .ok (.iload_n 1, 1) := fq1_27 (fl_X12_pass_0 (j := 0) rfl rfl)
theorem dX12_pass_1 : decode cX12_pass 1 = .ok (.i2l, 1) := fq1_133 (fl_X12_pass_0 (j := 1) rfl rfl)
theorem dX12_pass_2 : decode cX12_pass 2 = .ok (.lconst 1, 1) := fq1_10 (fl_X12_pass_0 (j := 2) rfl rfl)
theorem dX12_pass_3 : decode cX12_pass 3 = .ok (.ldc2_w 369, 3) := fq3_20 (fl_X12_pass_0 (j := 3) rfl rfl) (fl_X12_pass_0 (j := 4) rfl rfl) (fl_X12_pass_0 (j := 5) rfl rfl) rfl
theorem dX12_pass_6 : decode cX12_pass 6 = .ok (.invokestatic 295, 3) := fq3_184 (fl_X12_pass_0 (j := 6) rfl rfl) (fl_X12_pass_0 (j := 7) rfl rfl) (fl_X12_pass_0 (j := 8) rfl rfl) rfl
theorem dX12_pass_9 : decode cX12_pass 9 = .ok (.ifCond .ne 9, 3) := fq3_154 (fl_X12_pass_0 (j := 9) rfl rfl) (fl_X12_pass_0 (j := 10) rfl rfl) (fl_X12_pass_0 (j := 11) rfl rfl) (s2p rfl (bl rfl))
theorem dX12_pass_12 : decode cX12_pass 12 = .ok (.aload_n 0, 1) := fq1_42 (fl_X12_pass_0 (j := 12) rfl rfl)
theorem dX12_pass_13 : decode cX12_pass 13 = .ok (.iconst 1, 1) := fq1_4 (fl_X12_pass_0 (j := 13) rfl rfl)
theorem dX12_pass_14 : decode cX12_pass 14 = .ok (.invokevirtual 81, 3) := fq3_182 (fl_X12_pass_0 (j := 14) rfl rfl) (fl_X12_pass_0 (j := 15) rfl rfl) (fl_X12_pass_0 (j := 16) rfl rfl) rfl
theorem dX12_pass_17 : decode cX12_pass 17 = .ok (.ireturn, 1) := fq1_172 (fl_X12_pass_0 (j := 17) rfl rfl)
theorem dX12_pass_18 : decode cX12_pass 18 = .ok (.aload_n 0, 1) := fq1_42 (fl_X12_pass_0 (j := 18) rfl rfl)
theorem dX12_pass_19 : decode cX12_pass 19 = .ok (.getfield 7, 3) := fq3_180 (fl_X12_pass_0 (j := 19) rfl rfl) (fl_X12_pass_0 (j := 20) rfl rfl) (fl_X12_pass_0 (j := 21) rfl rfl) rfl
theorem dX12_pass_22 : decode cX12_pass 22 = .ok (.iconst 3, 1) := fq1_6 (fl_X12_pass_0 (j := 22) rfl rfl)
theorem dX12_pass_23 : decode cX12_pass 23 = .ok (.iaload, 1) := fq1_46 (fl_X12_pass_0 (j := 23) rfl rfl)
theorem dX12_pass_24 : decode cX12_pass 24 = .ok (.iload_n 1, 1) := fq1_27 (fl_X12_pass_0 (j := 24) rfl rfl)
theorem dX12_pass_25 : decode cX12_pass 25 = .ok (.iadd, 1) := fq1_96 (fl_X12_pass_0 (j := 25) rfl rfl)
theorem dX12_pass_26 : decode cX12_pass 26 = .ok (.sipush 400, 3) := fq3_17 (fl_X12_pass_0 (j := 26) rfl rfl) (fl_X12_pass_0 (j := 27) rfl rfl) (fl_X12_pass_0 (j := 28) rfl rfl) (s2p rfl (bl rfl))
theorem dX12_pass_29 : decode cX12_pass 29 = .ok (.if_icmp .le 9, 3) := fq3_164 (fl_X12_pass_0 (j := 29) rfl rfl) (fl_X12_pass_0 (j := 30) rfl rfl) (fl_X12_pass_0 (j := 31) rfl rfl) (s2p rfl (bl rfl))
theorem dX12_pass_32 : decode cX12_pass 32 = .ok (.aload_n 0, 1) := fq1_42 (fl_X12_pass_0 (j := 32) rfl rfl)
theorem dX12_pass_33 : decode cX12_pass 33 = .ok (.iconst 4, 1) := fq1_7 (fl_X12_pass_0 (j := 33) rfl rfl)
theorem dX12_pass_34 : decode cX12_pass 34 = .ok (.invokevirtual 81, 3) := fq3_182 (fl_X12_pass_0 (j := 34) rfl rfl) (fl_X12_pass_0 (j := 35) rfl rfl) (fl_X12_pass_0 (j := 36) rfl rfl) rfl
theorem dX12_pass_37 : decode cX12_pass 37 = .ok (.ireturn, 1) := fq1_172 (fl_X12_pass_0 (j := 37) rfl rfl)
theorem dX12_pass_38 : decode cX12_pass 38 = .ok (.iconst 1, 1) := fq1_4 (fl_X12_pass_0 (j := 38) rfl rfl)
theorem dX12_pass_39 : decode cX12_pass 39 = .ok (.istore_n 2, 1) := fq1_61 (fl_X12_pass_0 (j := 39) rfl rfl)
theorem dX12_pass_40 : decode cX12_pass 40 = .ok (.iconst 0, 1) := fq1_3 (fl_X12_pass_0 (j := 40) rfl rfl)
theorem dX12_pass_41 : decode cX12_pass 41 = .ok (.istore_n 3, 1) := fq1_62 (fl_X12_pass_0 (j := 41) rfl rfl)
theorem dX12_pass_42 : decode cX12_pass 42 = .ok (.iload_n 3, 1) := fq1_29 (fl_X12_pass_0 (j := 42) rfl rfl)
theorem dX12_pass_43 : decode cX12_pass 43 = .ok (.iload_n 1, 1) := fq1_27 (fl_X12_pass_0 (j := 43) rfl rfl)
theorem dX12_pass_44 : decode cX12_pass 44 = .ok (.if_icmp .ge 18, 3) := fq3_162 (fl_X12_pass_0 (j := 44) rfl rfl) (fl_X12_pass_0 (j := 45) rfl rfl) (fl_X12_pass_0 (j := 46) rfl rfl) (s2p rfl (bl rfl))
theorem dX12_pass_47 : decode cX12_pass 47 = .ok (.iload_n 2, 1) := fq1_28 (fl_X12_pass_0 (j := 47) rfl rfl)
theorem dX12_pass_48 : decode cX12_pass 48 = .ok (.ifCond .eq 14, 3) := fq3_153 (fl_X12_pass_0 (j := 48) rfl rfl) (fl_X12_pass_0 (j := 49) rfl rfl) (fl_X12_pass_0 (j := 50) rfl rfl) (s2p rfl (bl rfl))
theorem dX12_pass_51 : decode cX12_pass 51 = .ok (.aload_n 0, 1) := fq1_42 (fl_X12_pass_0 (j := 51) rfl rfl)
theorem dX12_pass_52 : decode cX12_pass 52 = .ok (.invokevirtual 371, 3) := fq3_182 (fl_X12_pass_0 (j := 52) rfl rfl) (fl_X12_pass_0 (j := 53) rfl rfl) (fl_X12_pass_0 (j := 54) rfl rfl) rfl
theorem dX12_pass_55 : decode cX12_pass 55 = .ok (.istore_n 2, 1) := fq1_61 (fl_X12_pass_0 (j := 55) rfl rfl)
theorem dX12_pass_56 : decode cX12_pass 56 = .ok (.iinc 3 1, 3) := fq3_132 (fl_X12_pass_0 (j := 56) rfl rfl) (fl_X12_pass_0 (j := 57) rfl rfl) (fl_X12_pass_0 (j := 58) rfl rfl) rfl (s1p rfl (bl rfl))
theorem dX12_pass_59 : decode cX12_pass 59 = .ok (.goto (-17), 3) := fq3_167 (fl_X12_pass_0 (j := 59) rfl rfl) (fl_X12_pass_0 (j := 60) rfl rfl) (fl_X12_pass_0 (j := 61) rfl rfl) (by decide)
theorem dX12_pass_62 : decode cX12_pass 62 = .ok (.aload_n 0, 1) := fq1_42 (fl_X12_pass_0 (j := 62) rfl rfl)
theorem dX12_pass_63 : decode cX12_pass 63 = .ok (.aload_n 0, 1) := fq1_42 (fl_X12_pass_0 (j := 63) rfl rfl)
def fb_X12_pass_1 : List UInt8 := [0xb4, 0x00, 0x07, 0x06, 0x2e, 0xb6, 0x00, 0x55, 0xac]
theorem fl_X12_pass_1 {p j : Nat} {b : UInt8} (e : p = 64 + j) (h : fb_X12_pass_1[j]? = some b) : cX12_pass.data.toList[p]? = some b := fq_l (n := 64) (show (cX12_pass.data.toList.drop 64).take 64 = fb_X12_pass_1 by decide +kernel) e h
theorem dX12_pass_64 : decode cX12_pass 64 = .ok (.getfield 7, 3) := fq3_180 (fl_X12_pass_1 (j := 0) rfl rfl) (fl_X12_pass_1 (j := 1) rfl rfl) (fl_X12_pass_1 (j := 2) rfl rfl) rfl
theorem dX12_pass_67 : decode cX12_pass 67 = .ok (.iconst 3, 1) := fq1_6 (fl_X12_pass_1 (j := 3) rfl rfl)
theorem dX12_pass_68 : decode cX12_pass 68 = .ok (.iaload, 1) := fq1_46 (fl_X12_pass_1 (j := 4) rfl rfl)
theorem dX12_pass_69 : decode cX12_pass 69 = .ok (.invokevirtual 85, 3) := fq3_182 (fl_X12_pass_1 (j := 5) rfl rfl) (fl_X12_pass_1 (j := 6) rfl rfl) (fl_X12_pass_1 (j := 7) rfl rfl) rfl
theorem dX12_pass_72 : decode cX12_pass 72 = .ok (.ireturn, 1) := fq1_172 (fl_X12_pass_1 (j := 8) rfl rfl)
def fb_X12_uniform_0 : List UInt8 := [0x03, 0x3c, 0x03, 0x3d, 0x1c, 0x2a, 0xb4, 0x00, 0x07, 0x06, 0x2e, 0xa3, 0x00, 0x33, 0x1b, 0x2a, 0xb4, 0x00, 0x07, 0x10, 0x76, 0x1c, 0x60, 0x2e, 0x99, 0x00, 0x19, 0x2a, 0xb4, 0x00, 0x07, 0x10, 0x76, 0x1c, 0x60, 0x2e, 0x04, 0x2a, 0xb4, 0x00, 0x07, 0x03, 0x2e, 0x78, 0x04, 0x64, 0xa0, 0x00, 0x07, 0x04, 0xa7, 0x00, 0x04, 0x03, 0x60, 0x3c, 0x84, 0x02, 0x01, 0xa7, 0xff, 0xc9, 0x2a, 0x1b]
theorem fl_X12_uniform_0 {p j : Nat} {b : UInt8} (e : p = 0 + j) (h : fb_X12_uniform_0[j]? = some b) : cX12_uniform.data.toList[p]? = some b := fq_l (n := 64) (show (cX12_uniform.data.toList.drop 0).take 64 = fb_X12_uniform_0 by decide +kernel) e h
theorem dX12_uniform_0 : decode cX12_uniform 0 = .ok (.iconst 0, 1) := fq1_3 (fl_X12_uniform_0 (j := 0) rfl rfl)
theorem dX12_uniform_1 : decode cX12_uniform 1 = .ok (.istore_n 1, 1) := fq1_60 (fl_X12_uniform_0 (j := 1) rfl rfl)
theorem dX12_uniform_2 : decode cX12_uniform 2 = .ok (.iconst 0, 1) := fq1_3 (fl_X12_uniform_0 (j := 2) rfl rfl)
theorem dX12_uniform_3 : decode cX12_uniform 3 = .ok (.istore_n 2, 1) := fq1_61 (fl_X12_uniform_0 (j := 3) rfl rfl)
theorem dX12_uniform_4 : decode cX12_uniform 4 = .ok (.iload_n 2, 1) := fq1_28 (fl_X12_uniform_0 (j := 4) rfl rfl)
theorem dX12_uniform_5 : decode cX12_uniform 5 = .ok (.aload_n 0, 1) := fq1_42 (fl_X12_uniform_0 (j := 5) rfl rfl)
theorem dX12_uniform_6 : decode cX12_uniform 6 = .ok (.getfield 7, 3) := fq3_180 (fl_X12_uniform_0 (j := 6) rfl rfl) (fl_X12_uniform_0 (j := 7) rfl rfl) (fl_X12_uniform_0 (j := 8) rfl rfl) rfl
theorem dX12_uniform_9 : decode cX12_uniform 9 = .ok (.iconst 3, 1) := fq1_6 (fl_X12_uniform_0 (j := 9) rfl rfl)
theorem dX12_uniform_10 : decode cX12_uniform 10 = .ok (.iaload, 1) := fq1_46 (fl_X12_uniform_0 (j := 10) rfl rfl)
theorem dX12_uniform_11 : decode cX12_uniform 11 = .ok (.if_icmp .gt 51, 3) := fq3_163 (fl_X12_uniform_0 (j := 11) rfl rfl) (fl_X12_uniform_0 (j := 12) rfl rfl) (fl_X12_uniform_0 (j := 13) rfl rfl) (s2p rfl (bl rfl))
theorem dX12_uniform_14 : decode cX12_uniform 14 = .ok (.iload_n 1, 1) := fq1_27 (fl_X12_uniform_0 (j := 14) rfl rfl)
theorem dX12_uniform_15 : decode cX12_uniform 15 = .ok (.aload_n 0, 1) := fq1_42 (fl_X12_uniform_0 (j := 15) rfl rfl)
theorem dX12_uniform_16 : decode cX12_uniform 16 = .ok (.getfield 7, 3) := fq3_180 (fl_X12_uniform_0 (j := 16) rfl rfl) (fl_X12_uniform_0 (j := 17) rfl rfl) (fl_X12_uniform_0 (j := 18) rfl rfl) rfl
theorem dX12_uniform_19 : decode cX12_uniform 19 = .ok (.bipush 118, 2) := fq2_16 (fl_X12_uniform_0 (j := 19) rfl rfl) (fl_X12_uniform_0 (j := 20) rfl rfl) (s1p rfl (bl rfl))
theorem dX12_uniform_21 : decode cX12_uniform 21 = .ok (.iload_n 2, 1) := fq1_28 (fl_X12_uniform_0 (j := 21) rfl rfl)
theorem dX12_uniform_22 : decode cX12_uniform 22 = .ok (.iadd, 1) := fq1_96 (fl_X12_uniform_0 (j := 22) rfl rfl)
theorem dX12_uniform_23 : decode cX12_uniform 23 = .ok (.iaload, 1) := fq1_46 (fl_X12_uniform_0 (j := 23) rfl rfl)
theorem dX12_uniform_24 : decode cX12_uniform 24 = .ok (.ifCond .eq 25, 3) := fq3_153 (fl_X12_uniform_0 (j := 24) rfl rfl) (fl_X12_uniform_0 (j := 25) rfl rfl) (fl_X12_uniform_0 (j := 26) rfl rfl) (s2p rfl (bl rfl))
theorem dX12_uniform_27 : decode cX12_uniform 27 = .ok (.aload_n 0, 1) := fq1_42 (fl_X12_uniform_0 (j := 27) rfl rfl)
theorem dX12_uniform_28 : decode cX12_uniform 28 = .ok (.getfield 7, 3) := fq3_180 (fl_X12_uniform_0 (j := 28) rfl rfl) (fl_X12_uniform_0 (j := 29) rfl rfl) (fl_X12_uniform_0 (j := 30) rfl rfl) rfl
theorem dX12_uniform_31 : decode cX12_uniform 31 = .ok (.bipush 118, 2) := fq2_16 (fl_X12_uniform_0 (j := 31) rfl rfl) (fl_X12_uniform_0 (j := 32) rfl rfl) (s1p rfl (bl rfl))
theorem dX12_uniform_33 : decode cX12_uniform 33 = .ok (.iload_n 2, 1) := fq1_28 (fl_X12_uniform_0 (j := 33) rfl rfl)
theorem dX12_uniform_34 : decode cX12_uniform 34 = .ok (.iadd, 1) := fq1_96 (fl_X12_uniform_0 (j := 34) rfl rfl)
theorem dX12_uniform_35 : decode cX12_uniform 35 = .ok (.iaload, 1) := fq1_46 (fl_X12_uniform_0 (j := 35) rfl rfl)
theorem dX12_uniform_36 : decode cX12_uniform 36 = .ok (.iconst 1, 1) := fq1_4 (fl_X12_uniform_0 (j := 36) rfl rfl)
theorem dX12_uniform_37 : decode cX12_uniform 37 = .ok (.aload_n 0, 1) := fq1_42 (fl_X12_uniform_0 (j := 37) rfl rfl)
theorem dX12_uniform_38 : decode cX12_uniform 38 = .ok (.getfield 7, 3) := fq3_180 (fl_X12_uniform_0 (j := 38) rfl rfl) (fl_X12_uniform_0 (j := 39) rfl rfl) (fl_X12_uniform_0 (j := 40) rfl rfl) rfl
theorem dX12_uniform_41 : decode cX12_uniform 41 = .ok (.iconst 0, 1) := fq1_3 (fl_X12_uniform_0 (j := 41) rfl rfl)
theorem dX12_uniform_42 : decode cX12_uniform 42 = .ok (.iaload, 1) := fq1_46 (fl_X12_uniform_0 (j := 42) rfl rfl)
theorem dX12_uniform_43 : decode cX12_uniform 43 = .ok (.ishl, 1) := fq1_120 (fl_X12_uniform_0 (j := 43) rfl rfl)
theorem dX12_uniform_44 : decode cX12_uniform 44 = .ok (.iconst 1, 1) := fq1_4 (fl_X12_uniform_0 (j := 44) rfl rfl)
theorem dX12_uniform_45 : decode cX12_uniform 45 = .ok (.isub, 1) := fq1_100 (fl_X12_uniform_0 (j := 45) rfl rfl)
theorem dX12_uniform_46 : decode cX12_uniform 46 = .ok (.if_icmp .ne 7, 3) := fq3_160 (fl_X12_uniform_0 (j := 46) rfl rfl) (fl_X12_uniform_0 (j := 47) rfl rfl) (fl_X12_uniform_0 (j := 48) rfl rfl) (s2p rfl (bl rfl))
theorem dX12_uniform_49 : decode cX12_uniform 49 = .ok (.iconst 1, 1) := fq1_4 (fl_X12_uniform_0 (j := 49) rfl rfl)
theorem dX12_uniform_50 : decode cX12_uniform 50 = .ok (.goto 4, 3) := fq3_167 (fl_X12_uniform_0 (j := 50) rfl rfl) (fl_X12_uniform_0 (j := 51) rfl rfl) (fl_X12_uniform_0 (j := 52) rfl rfl) (s2p rfl (bl rfl))
theorem dX12_uniform_53 : decode cX12_uniform 53 = .ok (.iconst 0, 1) := fq1_3 (fl_X12_uniform_0 (j := 53) rfl rfl)
theorem dX12_uniform_54 : decode cX12_uniform 54 = .ok (.iadd, 1) := fq1_96 (fl_X12_uniform_0 (j := 54) rfl rfl)
theorem dX12_uniform_55 : decode cX12_uniform 55 = .ok (.istore_n 1, 1) := fq1_60 (fl_X12_uniform_0 (j := 55) rfl rfl)
theorem dX12_uniform_56 : decode cX12_uniform 56 = .ok (.iinc 2 1, 3) := fq3_132 (fl_X12_uniform_0 (j := 56) rfl rfl) (fl_X12_uniform_0 (j := 57) rfl rfl) (fl_X12_uniform_0 (j := 58) rfl rfl) rfl (s1p rfl (bl rfl))
theorem dX12_uniform_59 : decode cX12_uniform 59 = .ok (.goto (-55), 3) := fq3_167 (fl_X12_uniform_0 (j := 59) rfl rfl) (fl_X12_uniform_0 (j := 60) rfl rfl) (fl_X12_uniform_0 (j := 61) rfl rfl) (by decide)
theorem dX12_uniform_62 : decode cX12_uniform 62 = .ok (.aload_n 0, 1) := fq1_42 (fl_X12_uniform_0 (j := 62) rfl rfl)
theorem dX12_uniform_63 : decode cX12_uniform 63 = .ok (.iload_n 1, 1) := fq1_27 (fl_X12_uniform_0 (j := 63) rfl rfl)
def fb_X12_uniform_1 : List UInt8 := [0xb6, 0x00, 0x55, 0xac]
theorem fl_X12_uniform_1 {p j : Nat} {b : UInt8} (e : p = 64 + j) (h : fb_X12_uniform_1[j]? = some b) : cX12_uniform.data.toList[p]? = some b := fq_l (n := 64) (show (cX12_uniform.data.toList.drop 64).take 64 = fb_X12_uniform_1 by decide +kernel) e h
theorem dX12_uniform_64 : decode cX12_uniform 64 = .ok (.invokevirtual 85, 3) := fq3_182 (fl_X12_uniform_1 (j := 0) rfl rfl) (fl_X12_uniform_1 (j := 1) rfl rfl) (fl_X12_uniform_1 (j := 2) rfl rfl) rfl
theorem dX12_uniform_67 : decode cX12_uniform 67 = .ok (.ireturn, 1) := fq1_172 (fl_X12_uniform_1 (j := 3) rfl rfl)
def fb_X12_wear_0 : List UInt8 := [0x2a, 0x1b, 0xb6, 0x00, 0xf3, 0x99, 0x00, 0x0d, 0x1c, 0x85, 0x09, 0x0a, 0xb8, 0x01, 0x27, 0x9a, 0x00, 0x09, 0x2a, 0x04, 0xb6, 0x00, 0x59, 0xac, 0x2a, 0x1b, 0x1c, 0xb6, 0x01, 0x76, 0x2a, 0x03, 0xb6, 0x00, 0x59, 0xac]
theorem fl_X12_wear_0 {p j : Nat} {b : UInt8} (e : p = 0 + j) (h : fb_X12_wear_0[j]? = some b) : cX12_wear.data.toList[p]? = some b := fq_l (n := 64) (show (cX12_wear.data.toList.drop 0).take 64 = fb_X12_wear_0 by decide +kernel) e h
theorem dX12_wear_0 : decode cX12_wear 0 = .ok (.aload_n 0, 1) := fq1_42 (fl_X12_wear_0 (j := 0) rfl rfl)
theorem dX12_wear_1 : decode cX12_wear 1 = .ok (.iload_n 1, 1) := fq1_27 (fl_X12_wear_0 (j := 1) rfl rfl)
theorem dX12_wear_2 : decode cX12_wear 2 = .ok (.invokevirtual 243, 3) := fq3_182 (fl_X12_wear_0 (j := 2) rfl rfl) (fl_X12_wear_0 (j := 3) rfl rfl) (fl_X12_wear_0 (j := 4) rfl rfl) rfl
theorem dX12_wear_5 : decode cX12_wear 5 = .ok (.ifCond .eq 13, 3) := fq3_153 (fl_X12_wear_0 (j := 5) rfl rfl) (fl_X12_wear_0 (j := 6) rfl rfl) (fl_X12_wear_0 (j := 7) rfl rfl) (s2p rfl (bl rfl))
theorem dX12_wear_8 : decode cX12_wear 8 = .ok (.iload_n 2, 1) := fq1_28 (fl_X12_wear_0 (j := 8) rfl rfl)
theorem dX12_wear_9 : decode cX12_wear 9 = .ok (.i2l, 1) := fq1_133 (fl_X12_wear_0 (j := 9) rfl rfl)
theorem dX12_wear_10 : decode cX12_wear 10 = .ok (.lconst 0, 1) := fq1_9 (fl_X12_wear_0 (j := 10) rfl rfl)
theorem dX12_wear_11 : decode cX12_wear 11 = .ok (.lconst 1, 1) := fq1_10 (fl_X12_wear_0 (j := 11) rfl rfl)
theorem dX12_wear_12 : decode cX12_wear 12 = .ok (.invokestatic 295, 3) := fq3_184 (fl_X12_wear_0 (j := 12) rfl rfl) (fl_X12_wear_0 (j := 13) rfl rfl) (fl_X12_wear_0 (j := 14) rfl rfl) rfl
theorem dX12_wear_15 : decode cX12_wear 15 = .ok (.ifCond .ne 9, 3) := fq3_154 (fl_X12_wear_0 (j := 15) rfl rfl) (fl_X12_wear_0 (j := 16) rfl rfl) (fl_X12_wear_0 (j := 17) rfl rfl) (s2p rfl (bl rfl))
theorem dX12_wear_18 : decode cX12_wear 18 = .ok (.aload_n 0, 1) := fq1_42 (fl_X12_wear_0 (j := 18) rfl rfl)
theorem dX12_wear_19 : decode cX12_wear 19 = .ok (.iconst 1, 1) := fq1_4 (fl_X12_wear_0 (j := 19) rfl rfl)
theorem dX12_wear_20 : decode cX12_wear 20 = .ok (.invokevirtual 89, 3) := fq3_182 (fl_X12_wear_0 (j := 20) rfl rfl) (fl_X12_wear_0 (j := 21) rfl rfl) (fl_X12_wear_0 (j := 22) rfl rfl) rfl
theorem dX12_wear_23 : decode cX12_wear 23 = .ok (.ireturn, 1) := fq1_172 (fl_X12_wear_0 (j := 23) rfl rfl)
theorem dX12_wear_24 : decode cX12_wear 24 = .ok (.aload_n 0, 1) := fq1_42 (fl_X12_wear_0 (j := 24) rfl rfl)
theorem dX12_wear_25 : decode cX12_wear 25 = .ok (.iload_n 1, 1) := fq1_27 (fl_X12_wear_0 (j := 25) rfl rfl)
theorem dX12_wear_26 : decode cX12_wear 26 = .ok (.iload_n 2, 1) := fq1_28 (fl_X12_wear_0 (j := 26) rfl rfl)
theorem dX12_wear_27 : decode cX12_wear 27 = .ok (.invokevirtual 374, 3) := fq3_182 (fl_X12_wear_0 (j := 27) rfl rfl) (fl_X12_wear_0 (j := 28) rfl rfl) (fl_X12_wear_0 (j := 29) rfl rfl) rfl
theorem dX12_wear_30 : decode cX12_wear 30 = .ok (.aload_n 0, 1) := fq1_42 (fl_X12_wear_0 (j := 30) rfl rfl)
theorem dX12_wear_31 : decode cX12_wear 31 = .ok (.iconst 0, 1) := fq1_3 (fl_X12_wear_0 (j := 31) rfl rfl)
theorem dX12_wear_32 : decode cX12_wear 32 = .ok (.invokevirtual 89, 3) := fq3_182 (fl_X12_wear_0 (j := 32) rfl rfl) (fl_X12_wear_0 (j := 33) rfl rfl) (fl_X12_wear_0 (j := 34) rfl rfl) rfl
theorem dX12_wear_35 : decode cX12_wear 35 = .ok (.ireturn, 1) := fq1_172 (fl_X12_wear_0 (j := 35) rfl rfl)
def fb_X12_wore_0 : List UInt8 := [0x2a, 0x1b, 0xb6, 0x00, 0xf3, 0x99, 0x00, 0x20, 0x1c, 0x85, 0x09, 0x2a, 0xb4, 0x00, 0x07, 0x06, 0x2e, 0x85, 0xb8, 0x01, 0x27, 0x99, 0x00, 0x10, 0x2a, 0x2a, 0x1b, 0x1c, 0xb6, 0x01, 0x6b, 0xb6, 0x00, 0x55, 0xa7, 0x00, 0x08, 0x2a, 0x04, 0xb6, 0x00, 0x51, 0xac]
theorem fl_X12_wore_0 {p j : Nat} {b : UInt8} (e : p = 0 + j) (h : fb_X12_wore_0[j]? = some b) : cX12_wore.data.toList[p]? = some b := fq_l (n := 64) (show (cX12_wore.data.toList.drop 0).take 64 = fb_X12_wore_0 by decide +kernel) e h
theorem dX12_wore_0 : decode cX12_wore 0 = .ok (.aload_n 0, 1) := fq1_42 (fl_X12_wore_0 (j := 0) rfl rfl)
theorem dX12_wore_1 : decode cX12_wore 1 = .ok (.iload_n 1, 1) := fq1_27 (fl_X12_wore_0 (j := 1) rfl rfl)
theorem dX12_wore_2 : decode cX12_wore 2 = .ok (.invokevirtual 243, 3) := fq3_182 (fl_X12_wore_0 (j := 2) rfl rfl) (fl_X12_wore_0 (j := 3) rfl rfl) (fl_X12_wore_0 (j := 4) rfl rfl) rfl
theorem dX12_wore_5 : decode cX12_wore 5 = .ok (.ifCond .eq 32, 3) := fq3_153 (fl_X12_wore_0 (j := 5) rfl rfl) (fl_X12_wore_0 (j := 6) rfl rfl) (fl_X12_wore_0 (j := 7) rfl rfl) (s2p rfl (bl rfl))
theorem dX12_wore_8 : decode cX12_wore 8 = .ok (.iload_n 2, 1) := fq1_28 (fl_X12_wore_0 (j := 8) rfl rfl)
theorem dX12_wore_9 : decode cX12_wore 9 = .ok (.i2l, 1) := fq1_133 (fl_X12_wore_0 (j := 9) rfl rfl)
theorem dX12_wore_10 : decode cX12_wore 10 = .ok (.lconst 0, 1) := fq1_9 (fl_X12_wore_0 (j := 10) rfl rfl)
theorem dX12_wore_11 : decode cX12_wore 11 = .ok (.aload_n 0, 1) := fq1_42 (fl_X12_wore_0 (j := 11) rfl rfl)
theorem dX12_wore_12 : decode cX12_wore 12 = .ok (.getfield 7, 3) := fq3_180 (fl_X12_wore_0 (j := 12) rfl rfl) (fl_X12_wore_0 (j := 13) rfl rfl) (fl_X12_wore_0 (j := 14) rfl rfl) rfl
theorem dX12_wore_15 : decode cX12_wore 15 = .ok (.iconst 3, 1) := fq1_6 (fl_X12_wore_0 (j := 15) rfl rfl)
theorem dX12_wore_16 : decode cX12_wore 16 = .ok (.iaload, 1) := fq1_46 (fl_X12_wore_0 (j := 16) rfl rfl)
theorem dX12_wore_17 : decode cX12_wore 17 = .ok (.i2l, 1) := fq1_133 (fl_X12_wore_0 (j := 17) rfl rfl)
theorem dX12_wore_18 : decode cX12_wore 18 = .ok (.invokestatic 295, 3) := fq3_184 (fl_X12_wore_0 (j := 18) rfl rfl) (fl_X12_wore_0 (j := 19) rfl rfl) (fl_X12_wore_0 (j := 20) rfl rfl) rfl
theorem dX12_wore_21 : decode cX12_wore 21 = .ok (.ifCond .eq 16, 3) := fq3_153 (fl_X12_wore_0 (j := 21) rfl rfl) (fl_X12_wore_0 (j := 22) rfl rfl) (fl_X12_wore_0 (j := 23) rfl rfl) (s2p rfl (bl rfl))
theorem dX12_wore_24 : decode cX12_wore 24 = .ok (.aload_n 0, 1) := fq1_42 (fl_X12_wore_0 (j := 24) rfl rfl)
theorem dX12_wore_25 : decode cX12_wore 25 = .ok (.aload_n 0, 1) := fq1_42 (fl_X12_wore_0 (j := 25) rfl rfl)
theorem dX12_wore_26 : decode cX12_wore 26 = .ok (.iload_n 1, 1) := fq1_27 (fl_X12_wore_0 (j := 26) rfl rfl)
theorem dX12_wore_27 : decode cX12_wore 27 = .ok (.iload_n 2, 1) := fq1_28 (fl_X12_wore_0 (j := 27) rfl rfl)
theorem dX12_wore_28 : decode cX12_wore 28 = .ok (.invokevirtual 363, 3) := fq3_182 (fl_X12_wore_0 (j := 28) rfl rfl) (fl_X12_wore_0 (j := 29) rfl rfl) (fl_X12_wore_0 (j := 30) rfl rfl) rfl
theorem dX12_wore_31 : decode cX12_wore 31 = .ok (.invokevirtual 85, 3) := fq3_182 (fl_X12_wore_0 (j := 31) rfl rfl) (fl_X12_wore_0 (j := 32) rfl rfl) (fl_X12_wore_0 (j := 33) rfl rfl) rfl
theorem dX12_wore_34 : decode cX12_wore 34 = .ok (.goto 8, 3) := fq3_167 (fl_X12_wore_0 (j := 34) rfl rfl) (fl_X12_wore_0 (j := 35) rfl rfl) (fl_X12_wore_0 (j := 36) rfl rfl) (s2p rfl (bl rfl))
theorem dX12_wore_37 : decode cX12_wore 37 = .ok (.aload_n 0, 1) := fq1_42 (fl_X12_wore_0 (j := 37) rfl rfl)
theorem dX12_wore_38 : decode cX12_wore 38 = .ok (.iconst 1, 1) := fq1_4 (fl_X12_wore_0 (j := 38) rfl rfl)
theorem dX12_wore_39 : decode cX12_wore 39 = .ok (.invokevirtual 81, 3) := fq3_182 (fl_X12_wore_0 (j := 39) rfl rfl) (fl_X12_wore_0 (j := 40) rfl rfl) (fl_X12_wore_0 (j := 41) rfl rfl) rfl
theorem dX12_wore_42 : decode cX12_wore 42 = .ok (.ireturn, 1) := fq1_172 (fl_X12_wore_0 (j := 42) rfl rfl)
end

section
set_option maxHeartbeats 4000000 in
set_option maxRecDepth 100000 in
theorem q_wore (l : Launch) (D : va_G) (k : Nat → ClassId) (hm : Nat) (Ma : Nat) (Mn : Nat) (Ms : Nat) (My : Nat) (Mt : Nat) (Mp : Nat) (Mx : Nat) (Mo : Nat) (Mk : Nat) (Ml : Nat) (Mb : Nat) (Mh : Nat) (Mc : Nat) (Mz : Nat) (Mr : Nat) (Mq : Nat) (Mst : Int) (Mtd : Int) (Msz : Int) (Mtk : Int) (Mfr : Int) (Men : Int) (Mva : Int) (Mfk : Int) (Mfp : Int) (Mfs : Int) (Mse : Int) (Mlt : Int) (Mdp : Int) (Mct : Int) (Mdr : Int) (Mrs : Int) (Mit : Int) (Mmk : Int) (Mtp : Int64) (Mbt : Int64) (Af : Nat → Int32) (x1 : Int) (x2 : Int) (hM : M0 Af) (h9x1 : -2147483648 ≤ x1 ∧ x1 < 2147483648) (h9x2 : -2147483648 ≤ x2 ∧ x2 < 2147483648) : WD (σ := ((Int × Int) × (Int64) × (Unit) × (Unit))) l yX12_wore cX12_wore 3 (some .int) 1 0 0 D k [.ref hm, .int (iZ x1), .int (iZ x2)] [(hm, .inr (12, [.ref Ma, .ref Mn, .int (iZ Mst), .long Mtp, .long Mbt, .ref Ms, .ref My, .ref Mt, .ref Mp, .ref Mx, .int (iZ Mtd), .int (iZ Msz), .int (iZ Mtk), .int (iZ Mfr), .int (iZ Men), .int (iZ Mva), .int (iZ Mfk), .int (iZ Mfp), .int (iZ Mfs), .int (iZ Mse), .int (iZ Mlt), .ref Mo, .int (iZ Mdp), .int (iZ Mct), .ref Mk, .ref Ml, .ref Mb, .ref Mh, .ref Mc, .int (iZ Mdr), .int (iZ Mrs), .ref Mz, .ref Mr, .ref Mq, .int (iZ Mit), .int (iZ Mmk)])), (Ma, .inl (k 1, 5340, .inl Af))] (fun u => some (.int (iZ u.1.1))) (fun _ => True) (fun u => [(hm, .inr (12, [.ref Ma, .ref Mn, .int (iZ u.1.2), .long Mtp, .long Mbt, .ref Ms, .ref My, .ref Mt, .ref Mp, .ref Mx, .int (iZ Mtd), .int (iZ Msz), .int (iZ Mtk), .int (iZ Mfr), .int (iZ Men), .int (iZ Mva), .int (iZ Mfk), .int (iZ Mfp), .int (iZ Mfs), .int (iZ Mse), .int (iZ Mlt), .ref Mo, .int (iZ Mdp), .int (iZ Mct), .ref Mk, .ref Ml, .ref Mb, .ref Mh, .ref Mc, .int (iZ Mdr), .int (iZ Mrs), .ref Mz, .ref Mr, .ref Mq, .int (iZ Mit), .int (iZ Mmk)])), (Ma, .inl (k 1, 5340, .inl Af))]) := by
  refine MW (by decide) (Nat.le_of_ble_eq_true rfl) (fun p e s m below meth c ls A hx hb hml hr hlocks hin hts hown hKK hP hD hS hA hl => ?_)
  have hK := hKK.1
  have hl : lv_has ls 3 [(0, .ref hm), (1, .int (iZ x1)), (2, .int (iZ x2))] := hl
  obtain ⟨m0, m1, m3, m4, m5, mF, mO, mS⟩ := id hM
  refine lv_aload_n hx hb dX12_wore_0 rfl (lv_at hl 0 rfl) ?_
  refine lv_iload_n hx hb dX12_wore_1 rfl (lv_at hl 1 rfl) ?_
  refine CPV (As := [.int (iZ x1)]) (rest := []) hx hb hml hown hts hKK hP (m_isRock l D k ([.ref Ma, .ref Mn, .int (iZ Mst), .long Mtp, .long Mbt, .ref Ms, .ref My, .ref Mt, .ref Mp, .ref Mx, .int (iZ Mtd), .int (iZ Msz), .int (iZ Mtk), .int (iZ Mfr), .int (iZ Men), .int (iZ Mva), .int (iZ Mfk), .int (iZ Mfp), .int (iZ Mfs), .int (iZ Mse), .int (iZ Mlt), .ref Mo, .int (iZ Mdp), .int (iZ Mct), .ref Mk, .ref Ml, .ref Mb, .ref Mh, .ref Mc, .int (iZ Mdr), .int (iZ Mrs), .ref Mz, .ref Mr, .ref Mq, .int (iZ Mit), .int (iZ Mmk)]) hm Ma Af x1 rfl hM ⟨by omega, by omega⟩) ci_X12_isRock qm_X12_243 ⟨Nat.le_of_ble_eq_true rfl, Nat.le_of_ble_eq_true rfl⟩ ⟨Nat.le_of_ble_eq_true rfl, Nat.le_of_ble_eq_true rfl⟩ 0 rfl rfl rfl hl.1 rfl (Nat.le_of_ble_eq_true rfl) dX12_wore_2 (fun z_1 hz_1 => ?_)
  rcases hz_1 with ⟨qz_1, hz_1⟩ | ⟨qz_1, hz_1⟩
  ·
    subst qz_1
    refine lv_if_eq (tgt := 37) hx hb dX12_wore_5 rfl (fun c => absurd c (by decide)) (fun _ => ?_)
    refine lv_iload_n hx hb dX12_wore_8 rfl (lv_at hl 2 rfl) ?_
    refine lv_i2l (v := (iZ x2).toInt64) hx hb dX12_wore_9 rfl ?_
    refine lv_lconst (v := 0) hx hb dX12_wore_10 rfl ?_
    refine lv_aload_n hx hb dX12_wore_11 rfl (lv_at hl 0 rfl) ?_
    refine va_get (D := D) (ci := 12) (v := .ref Ma) (C := RX12) (T := TX12) (N := 36) hx hb hts iX12 hown hK hP 0 rfl rfl 0 (bl rfl) (hts _ qf_X12_7) (fun _ h => h) rfl dX12_wore_12 ?_
    refine lv_iconst (v := iZ 3) hx hb dX12_wore_15 rfl ?_
    refine va_iald hx hb hK hP 1 1 rfl rfl (zin (e := 3) (n := 5340) ⟨by omega, by omega⟩ (bl rfl)) dX12_wore_16 ?_
    refine lv_topi (fun x_3 ex_3 => ?_)
    obtain rfl : x_3 = iZ (gz Af 3) := ex_3.trans (gz_eq ⟨by omega, by omega⟩)
    have h_4 := gz_rg Af 3
    refine lv_i2l (v := (iZ (gz Af 3)).toInt64) hx hb dX12_wore_17 rfl ?_
    refine CPS (As := [.long ((iZ x2).toInt64), .long 0, .long ((iZ (gz Af 3)).toInt64)]) (rest := []) hx hb hml hown hts hKK (hP.sub (ws' := []) [] rfl) (m_isFrom l D k ((iZ x2).toInt64) 0 ((iZ (gz Af 3)).toInt64)) ci_X12_isFrom qm_X12_295 ⟨Nat.le_of_ble_eq_true rfl, Nat.le_of_ble_eq_true rfl⟩ ⟨Nat.le_of_ble_eq_true rfl, Nat.le_of_ble_eq_true rfl⟩ rfl hl.1 rfl (Nat.le_of_ble_eq_true rfl) dX12_wore_18 (fun z_5 hz_5 => ?_)
    have tt_6_z_5 := tI64 (z := x2) ⟨by omega, by omega⟩
    have tt_7_z_5 := show (0 : Int64).toInt = 0 from (by decide)
    have tt_8_z_5 := tI64 (z := (gz Af 3)) ⟨by omega, by omega⟩
    rcases hz_5 with ⟨qz_5, hz_5⟩ | ⟨qz_5, hz_5⟩
    ·
      subst qz_5
      refine lv_if_eq (tgt := 37) hx hb dX12_wore_21 rfl (fun c => absurd c (by decide)) (fun _ => ?_)
      refine lv_aload_n hx hb dX12_wore_24 rfl (lv_at hl 0 rfl) ?_
      refine lv_aload_n hx hb dX12_wore_25 rfl (lv_at hl 0 rfl) ?_
      refine lv_iload_n hx hb dX12_wore_26 rfl (lv_at hl 1 rfl) ?_
      refine lv_iload_n hx hb dX12_wore_27 rfl (lv_at hl 2 rfl) ?_
      refine CPV (As := [.int (iZ x1), .int (iZ x2)]) (rest := [.ref hm]) hx hb hml hown hts hKK hP (m_wore l D k ([.ref Ma, .ref Mn, .int (iZ Mst), .long Mtp, .long Mbt, .ref Ms, .ref My, .ref Mt, .ref Mp, .ref Mx, .int (iZ Mtd), .int (iZ Msz), .int (iZ Mtk), .int (iZ Mfr), .int (iZ Men), .int (iZ Mva), .int (iZ Mfk), .int (iZ Mfp), .int (iZ Mfs), .int (iZ Mse), .int (iZ Mlt), .ref Mo, .int (iZ Mdp), .int (iZ Mct), .ref Mk, .ref Ml, .ref Mb, .ref Mh, .ref Mc, .int (iZ Mdr), .int (iZ Mrs), .ref Mz, .ref Mr, .ref Mq, .int (iZ Mit), .int (iZ Mmk)]) hm Ma Af x1 x2 rfl hM ⟨by omega, by omega⟩) ci_X12_woreIn qm_X12_363 ⟨Nat.le_of_ble_eq_true rfl, Nat.le_of_ble_eq_true rfl⟩ ⟨Nat.le_of_ble_eq_true rfl, Nat.le_of_ble_eq_true rfl⟩ 0 rfl rfl rfl hl.1 rfl (Nat.le_of_ble_eq_true rfl) dX12_wore_28 (fun z_10 hz_10 => ?_)
      have hbz_10 := hz_10.2
      refine CWV (As := [.int (iZ z_10)]) (rest := []) (wc := _) (wr := [(Ma, .inl (k 1, 5340, .inl Af))]) hx hb hml hown hts hKK hP hD hS hA (m_gives l D k hm Ma Mn Ms My Mt Mp Mx Mo Mk Ml Mb Mh Mc Mz Mr Mq Mst Mtd Msz Mtk Mfr Men Mva Mfk Mfp Mfs Mse Mlt Mdp Mct Mdr Mrs Mit Mmk Mtp Mbt z_10) ci_X12_gives qm_X12_85 ⟨Nat.le_of_ble_eq_true rfl, Nat.le_of_ble_eq_true rfl⟩ ⟨Nat.le_of_ble_eq_true rfl, Nat.le_of_ble_eq_true rfl⟩ [0] [1] rfl rfl rfl rfl rfl (dj rfl) 0 rfl rfl rfl hl.1 rfl (Nat.le_of_ble_eq_true rfl) dX12_wore_31 (fun u_11 H locs hφ hP hD hS => ?_)
      refine W.eq (g2 := F0 m 34 ls [.int (iZ z_10)]) rfl ?_
      refine lv_goto (tgt := 42) hx hb dX12_wore_34 rfl ?_
      exact EWi hx hb hr hlocks hS ((z_10, 0), 0, (), ()) rfl trivial (hP.sub [1, 0] rfl) (hD.sub [1, 0] rfl rfl) dX12_wore_42
    ·
      subst qz_5
      refine lv_if_eq (tgt := 37) hx hb dX12_wore_21 rfl (fun _ => ?_) (fun c => absurd (by decide) c)
      refine lv_aload_n hx hb dX12_wore_37 rfl (lv_at hl 0 rfl) ?_
      refine lv_iconst (v := iZ 1) hx hb dX12_wore_38 rfl ?_
      refine CWV (As := [.int (iZ 1)]) (rest := []) (wc := _) (wr := [(Ma, .inl (k 1, 5340, .inl Af))]) hx hb hml hown hts hKK hP hD hS hA (m_refuse l D k hm Ma Mn Ms My Mt Mp Mx Mo Mk Ml Mb Mh Mc Mz Mr Mq Mst Mtd Msz Mtk Mfr Men Mva Mfk Mfp Mfs Mse Mlt Mdp Mct Mdr Mrs Mit Mmk Mtp Mbt 1) ci_X12_refuse qm_X12_81 ⟨Nat.le_of_ble_eq_true rfl, Nat.le_of_ble_eq_true rfl⟩ ⟨Nat.le_of_ble_eq_true rfl, Nat.le_of_ble_eq_true rfl⟩ [0] [1] rfl rfl rfl rfl rfl (dj rfl) 0 rfl rfl rfl hl.1 rfl (Nat.le_of_ble_eq_true rfl) dX12_wore_39 (fun u_13 H locs hφ hP hD hS => ?_)
      refine W.eq (g2 := F0 m 42 ls [.int (iZ (-1))]) rfl ?_
      exact EWi hx hb hr hlocks hS (((-1), 1), 0, (), ()) rfl trivial (hP.sub [1, 0] rfl) (hD.sub [1, 0] rfl rfl) dX12_wore_42
  ·
    subst qz_1
    refine lv_if_eq (tgt := 37) hx hb dX12_wore_5 rfl (fun _ => ?_) (fun c => absurd (by decide) c)
    refine lv_aload_n hx hb dX12_wore_37 rfl (lv_at hl 0 rfl) ?_
    refine lv_iconst (v := iZ 1) hx hb dX12_wore_38 rfl ?_
    refine CWV (As := [.int (iZ 1)]) (rest := []) (wc := _) (wr := [(Ma, .inl (k 1, 5340, .inl Af))]) hx hb hml hown hts hKK hP hD hS hA (m_refuse l D k hm Ma Mn Ms My Mt Mp Mx Mo Mk Ml Mb Mh Mc Mz Mr Mq Mst Mtd Msz Mtk Mfr Men Mva Mfk Mfp Mfs Mse Mlt Mdp Mct Mdr Mrs Mit Mmk Mtp Mbt 1) ci_X12_refuse qm_X12_81 ⟨Nat.le_of_ble_eq_true rfl, Nat.le_of_ble_eq_true rfl⟩ ⟨Nat.le_of_ble_eq_true rfl, Nat.le_of_ble_eq_true rfl⟩ [0] [1] rfl rfl rfl rfl rfl (dj rfl) 0 rfl rfl rfl hl.1 rfl (Nat.le_of_ble_eq_true rfl) dX12_wore_39 (fun u_15 H locs hφ hP hD hS => ?_)
    refine W.eq (g2 := F0 m 42 ls [.int (iZ (-1))]) rfl ?_
    exact EWi hx hb hr hlocks hS (((-1), 1), 0, (), ()) rfl trivial (hP.sub [1, 0] rfl) (hD.sub [1, 0] rfl rfl) dX12_wore_42
set_option maxHeartbeats 4000000 in
set_option maxRecDepth 100000 in
theorem q_fashion (l : Launch) (D : va_G) (k : Nat → ClassId) (hm : Nat) (Ma : Nat) (Mn : Nat) (Ms : Nat) (My : Nat) (Mt : Nat) (Mp : Nat) (Mx : Nat) (Mo : Nat) (Mk : Nat) (Ml : Nat) (Mb : Nat) (Mh : Nat) (Mc : Nat) (Mz : Nat) (Mr : Nat) (Mq : Nat) (Mst : Int) (Mtd : Int) (Msz : Int) (Mtk : Int) (Mfr : Int) (Men : Int) (Mva : Int) (Mfk : Int) (Mfp : Int) (Mfs : Int) (Mse : Int) (Mlt : Int) (Mdp : Int) (Mct : Int) (Mdr : Int) (Mrs : Int) (Mit : Int) (Mmk : Int) (Mtp : Int64) (Mbt : Int64) (Af : Nat → Int32) (x1 : Int) (x2 : Int) (hM : M0 Af) (h9x1 : -2147483648 ≤ x1 ∧ x1 < 2147483648) (h9x2 : -2147483648 ≤ x2 ∧ x2 < 2147483648) : WD (σ := ((Int × Int) × (Int64) × (Unit) × (Unit))) l yX12_fashion cX12_fashion 3 (some .int) 7 0 0 D k [.ref hm, .int (iZ x1), .int (iZ x2)] [(hm, .inr (12, [.ref Ma, .ref Mn, .int (iZ Mst), .long Mtp, .long Mbt, .ref Ms, .ref My, .ref Mt, .ref Mp, .ref Mx, .int (iZ Mtd), .int (iZ Msz), .int (iZ Mtk), .int (iZ Mfr), .int (iZ Men), .int (iZ Mva), .int (iZ Mfk), .int (iZ Mfp), .int (iZ Mfs), .int (iZ Mse), .int (iZ Mlt), .ref Mo, .int (iZ Mdp), .int (iZ Mct), .ref Mk, .ref Ml, .ref Mb, .ref Mh, .ref Mc, .int (iZ Mdr), .int (iZ Mrs), .ref Mz, .ref Mr, .ref Mq, .int (iZ Mit), .int (iZ Mmk)])), (Ma, .inl (k 1, 5340, .inl Af))] (fun u => some (.int (iZ u.1.1))) (fun _ => True) (fun u => [(hm, .inr (12, [.ref Ma, .ref Mn, .int (iZ u.1.2), .long Mtp, .long Mbt, .ref Ms, .ref My, .ref Mt, .ref Mp, .ref Mx, .int (iZ Mtd), .int (iZ Msz), .int (iZ Mtk), .int (iZ Mfr), .int (iZ Men), .int (iZ Mva), .int (iZ Mfk), .int (iZ Mfp), .int (iZ Mfs), .int (iZ Mse), .int (iZ Mlt), .ref Mo, .int (iZ Mdp), .int (iZ Mct), .ref Mk, .ref Ml, .ref Mb, .ref Mh, .ref Mc, .int (iZ Mdr), .int (iZ Mrs), .ref Mz, .ref Mr, .ref Mq, .int (iZ Mit), .int (iZ Mmk)])), (Ma, .inl (k 1, 5340, .inl Af))]) := by
  refine MW (by decide) (Nat.le_of_ble_eq_true rfl) (fun p e s m below meth c ls A hx hb hml hr hlocks hin hts hown hKK hP hD hS hA hl => ?_)
  have hK := hKK.1
  have hl : lv_has ls 3 [(0, .ref hm), (1, .int (iZ x1)), (2, .int (iZ x2))] := hl
  obtain ⟨m0, m1, m3, m4, m5, mF, mO, mS⟩ := id hM
  refine lv_aload_n hx hb dX12_fashion_0 rfl (lv_at hl 0 rfl) ?_
  refine lv_iload_n hx hb dX12_fashion_1 rfl (lv_at hl 1 rfl) ?_
  refine lv_iload_n hx hb dX12_fashion_2 rfl (lv_at hl 2 rfl) ?_
  refine CPV (As := [.int (iZ x1), .int (iZ x2)]) (rest := []) hx hb hml hown hts hKK hP (m_areTwo l D k ([.ref Ma, .ref Mn, .int (iZ Mst), .long Mtp, .long Mbt, .ref Ms, .ref My, .ref Mt, .ref Mp, .ref Mx, .int (iZ Mtd), .int (iZ Msz), .int (iZ Mtk), .int (iZ Mfr), .int (iZ Men), .int (iZ Mva), .int (iZ Mfk), .int (iZ Mfp), .int (iZ Mfs), .int (iZ Mse), .int (iZ Mlt), .ref Mo, .int (iZ Mdp), .int (iZ Mct), .ref Mk, .ref Ml, .ref Mb, .ref Mh, .ref Mc, .int (iZ Mdr), .int (iZ Mrs), .ref Mz, .ref Mr, .ref Mq, .int (iZ Mit), .int (iZ Mmk)]) hm Ma Af x1 x2 rfl hM ⟨by omega, by omega⟩ ⟨by omega, by omega⟩) ci_X12_areTwo qm_X12_265 ⟨Nat.le_of_ble_eq_true rfl, Nat.le_of_ble_eq_true rfl⟩ ⟨Nat.le_of_ble_eq_true rfl, Nat.le_of_ble_eq_true rfl⟩ 0 rfl rfl rfl hl.1 rfl (Nat.le_of_ble_eq_true rfl) dX12_fashion_3 (fun z_1 hz_1 => ?_)
  rcases hz_1 with ⟨qz_1, hz_1⟩ | ⟨qz_1, hz_1⟩
  ·
    subst qz_1
    refine lv_if_eq (tgt := 28) hx hb dX12_fashion_6 rfl (fun c => absurd c (by decide)) (fun _ => ?_)
    refine lv_aload_n hx hb dX12_fashion_9 rfl (lv_at hl 0 rfl) ?_
    refine lv_aload_n hx hb dX12_fashion_10 rfl (lv_at hl 0 rfl) ?_
    refine lv_iload_n hx hb dX12_fashion_11 rfl (lv_at hl 1 rfl) ?_
    refine lv_iload_n hx hb dX12_fashion_12 rfl (lv_at hl 2 rfl) ?_
    refine lv_aload_n hx hb dX12_fashion_13 rfl (lv_at hl 0 rfl) ?_
    refine va_get (D := D) (ci := 12) (v := .ref Ma) (C := RX12) (T := TX12) (N := 36) hx hb hts iX12 hown hK hP 0 rfl rfl 0 (bl rfl) (hts _ qf_X12_7) (fun _ h => h) rfl dX12_fashion_14 ?_
    refine lv_iconst (v := iZ 3) hx hb dX12_fashion_17 rfl ?_
    refine va_iald hx hb hK hP 1 1 rfl rfl (zin (e := 3) (n := 5340) ⟨by omega, by omega⟩ (bl rfl)) dX12_fashion_18 ?_
    refine lv_topi (fun x_3 ex_3 => ?_)
    obtain rfl : x_3 = iZ (gz Af 3) := ex_3.trans (gz_eq ⟨by omega, by omega⟩)
    have h_4 := gz_rg Af 3
    refine CPV (As := [.int (iZ x1), .int (iZ x2), .int (iZ (gz Af 3))]) (rest := [.ref hm]) hx hb hml hown hts hKK hP (m_fseen l D k ([.ref Ma, .ref Mn, .int (iZ Mst), .long Mtp, .long Mbt, .ref Ms, .ref My, .ref Mt, .ref Mp, .ref Mx, .int (iZ Mtd), .int (iZ Msz), .int (iZ Mtk), .int (iZ Mfr), .int (iZ Men), .int (iZ Mva), .int (iZ Mfk), .int (iZ Mfp), .int (iZ Mfs), .int (iZ Mse), .int (iZ Mlt), .ref Mo, .int (iZ Mdp), .int (iZ Mct), .ref Mk, .ref Ml, .ref Mb, .ref Mh, .ref Mc, .int (iZ Mdr), .int (iZ Mrs), .ref Mz, .ref Mr, .ref Mq, .int (iZ Mit), .int (iZ Mmk)]) hm Ma Af x1 x2 (gz Af 3) rfl hM ⟨by omega, by omega⟩ ⟨by omega, by omega⟩ ⟨by omega, by omega⟩) ci_X12_fashionSeen qm_X12_366 ⟨Nat.le_of_ble_eq_true rfl, Nat.le_of_ble_eq_true rfl⟩ ⟨Nat.le_of_ble_eq_true rfl, Nat.le_of_ble_eq_true rfl⟩ 0 rfl rfl rfl hl.1 rfl (Nat.le_of_ble_eq_true rfl) dX12_fashion_19 (fun z_5 hz_5 => ?_)
    refine CWV (As := [.int (iZ z_5)]) (rest := []) (wc := _) (wr := [(Ma, .inl (k 1, 5340, .inl Af))]) hx hb hml hown hts hKK hP hD hS hA (m_orNone l D k hm Ma Mn Ms My Mt Mp Mx Mo Mk Ml Mb Mh Mc Mz Mr Mq Mst Mtd Msz Mtk Mfr Men Mva Mfk Mfp Mfs Mse Mlt Mdp Mct Mdr Mrs Mit Mmk Mtp Mbt z_5 ⟨by omega, by omega⟩) ci_X12_orNone qm_X12_290 ⟨Nat.le_of_ble_eq_true rfl, Nat.le_of_ble_eq_true rfl⟩ ⟨Nat.le_of_ble_eq_true rfl, Nat.le_of_ble_eq_true rfl⟩ [0] [1] rfl rfl rfl rfl rfl (dj rfl) 0 rfl rfl rfl hl.1 rfl (Nat.le_of_ble_eq_true rfl) dX12_fashion_22 (fun u_6 H locs hφ hP hD hS => ?_)
    have p_7 : ((z_5 : Int) = -1 ∧ u_6.1.2 = 6) ∨ (¬ (z_5 : Int) = -1 ∧ u_6.1.2 = 0) := hφ
    refine W.eq (g2 := F0 m 25 ls [.int (iZ z_5)]) rfl ?_
    refine lv_goto (tgt := 33) hx hb dX12_fashion_25 rfl ?_
    exact EWi hx hb hr hlocks hS ((z_5, u_6.1.2), 0, (), ()) rfl trivial (hP.sub [1, 0] rfl) (hD.sub [1, 0] rfl rfl) dX12_fashion_33
  ·
    subst qz_1
    refine lv_if_eq (tgt := 28) hx hb dX12_fashion_6 rfl (fun _ => ?_) (fun c => absurd (by decide) c)
    refine lv_aload_n hx hb dX12_fashion_28 rfl (lv_at hl 0 rfl) ?_
    refine lv_iconst (v := iZ 1) hx hb dX12_fashion_29 rfl ?_
    refine CWV (As := [.int (iZ 1)]) (rest := []) (wc := _) (wr := [(Ma, .inl (k 1, 5340, .inl Af))]) hx hb hml hown hts hKK hP hD hS hA (m_refuse l D k hm Ma Mn Ms My Mt Mp Mx Mo Mk Ml Mb Mh Mc Mz Mr Mq Mst Mtd Msz Mtk Mfr Men Mva Mfk Mfp Mfs Mse Mlt Mdp Mct Mdr Mrs Mit Mmk Mtp Mbt 1) ci_X12_refuse qm_X12_81 ⟨Nat.le_of_ble_eq_true rfl, Nat.le_of_ble_eq_true rfl⟩ ⟨Nat.le_of_ble_eq_true rfl, Nat.le_of_ble_eq_true rfl⟩ [0] [1] rfl rfl rfl rfl rfl (dj rfl) 0 rfl rfl rfl hl.1 rfl (Nat.le_of_ble_eq_true rfl) dX12_fashion_30 (fun u_9 H locs hφ hP hD hS => ?_)
    refine W.eq (g2 := F0 m 33 ls [.int (iZ (-1))]) rfl ?_
    exact EWi hx hb hr hlocks hS (((-1), 1), 0, (), ()) rfl trivial (hP.sub [1, 0] rfl) (hD.sub [1, 0] rfl rfl) dX12_fashion_33
set_option maxHeartbeats 4000000 in
set_option maxRecDepth 100000 in
theorem m_followsOf (l : Launch) (D : va_G) (k : Nat → ClassId) (fs : List Value) (hm : Nat) (Ma : Nat) (Af : Nat → Int32) (x : Int) (y : Int) (f0 : fs[0]? = some (.ref Ma)) (hM : M0 Af) (h9x : 0 ≤ x ∧ x < gz Af 0) (h9y : 0 ≤ y ∧ y < gz Af 0) : RP l yX12_followsOf cX12_followsOf 5 (some .int) 7 D k [.ref hm, .int (iZ x), .int (iZ y)] [(hm, .inr (12, fs)), (Ma, .inl (k 1, 5340, .inl Af))] (fun z => 0 ≤ z ∧ z ≤ 400) := by
  refine MRP (by decide) (Nat.le_of_ble_eq_true rfl) (fun p e s m below meth c ls hx hb hml hr hlocks hts hown hKK hP hl => ?_)
  have hK := hKK.1
  have hl : lv_has ls 5 [(0, .ref hm), (1, .int (iZ x)), (2, .int (iZ y))] := hl
  obtain ⟨m0, m1, m3, m4, m5, mF, mO, mS⟩ := id hM
  refine lv_iconst (v := iZ 0) hx hb dX12_followsOf_0 rfl ?_
  refine lv_istore_n (lv' := [(3, .int (iZ 0)), (0, .ref hm), (1, .int (iZ x)), (2, .int (iZ y))]) hx hb dX12_followsOf_1 rfl hl (bl rfl) rfl (fun ls hl => ?_)
  refine lv_iconst (v := iZ 1) hx hb dX12_followsOf_2 rfl ?_
  refine lv_istore (lv' := [(4, .int (iZ 1)), (3, .int (iZ 0)), (0, .ref hm), (1, .int (iZ x)), (2, .int (iZ y))]) hx hb dX12_followsOf_3 hl (bl rfl) rfl (fun ls hl => ?_)
  have HL5 : ∀ (fu : Nat) (v3_5 : Int) (v4_5 : Int) (ls : Array Slot), ((gz Af 3) + 2 - v4_5) < (fu : Int) → ((1 ≤ v4_5 ∧ v4_5 ≤ (gz Af 3) + 1)) → (0 ≤ v3_5 ∧ v3_5 < v4_5) → lv_has ls 5 [(4, .int (iZ v4_5)), (3, .int (iZ v3_5)), (0, .ref hm), (1, .int (iZ x)), (2, .int (iZ y))] → W p l e (rj 7 0 0) s m [.ref hm, .int (iZ x), .int (iZ y)].toArray below meth c s.heap [] 0 0 (MQ below (QcP (fun z => 0 ≤ z ∧ z ≤ 400)) [.ref hm, .int (iZ x), .int (iZ y)].toArray s 0 0 (fun _ => False)) (F0 m 5 ls []) := by
    intro fu
    induction fu with
    | zero => intro v3_5 v4_5 ls hμ5 hi5 hf0_5 hl; exact absurd hμ5 (by omega)
    | succ fu ih5 =>
      intro v3_5 v4_5 ls hμ5 hi5 hf0_5 hl
      refine lv_iload hx hb dX12_followsOf_5 (lv_at hl 0 rfl) ?_
      refine lv_aload_n hx hb dX12_followsOf_7 rfl (lv_at hl 2 rfl) ?_
      refine va_get (D := D) (ci := 12) (v := .ref Ma) (C := RX12) (T := TX12) (N := 36) hx hb hts iX12 hown hK hP 0 rfl rfl 0 (bl rfl) (hts _ qf_X12_7) (fun _ h => h) f0 dX12_followsOf_8 ?_
      refine lv_iconst (v := iZ 3) hx hb dX12_followsOf_11 rfl ?_
      refine va_iald hx hb hK hP 1 1 rfl rfl (zin (e := 3) (n := 5340) ⟨by omega, by omega⟩ (bl rfl)) dX12_followsOf_12 ?_
      refine lv_topi (fun x_1 ex_1 => ?_)
      obtain rfl : x_1 = iZ (gz Af 3) := ex_1.trans (gz_eq ⟨by omega, by omega⟩)
      have h_2 := gz_rg Af 3
      refine lv_icmp_gt (tgt := 48) hx hb dX12_followsOf_13 rfl (fun c_3 => ?_) (fun c_3 => ?_)
      ·
        have c_3 := (zlt (x := iZ (gz Af 3)) (y := iZ v4_5) rfl rfl (gz_rg Af 3) ⟨by omega, by omega⟩).mp c_3
        refine lv_iload_n hx hb dX12_followsOf_48 rfl (lv_at hl 1 rfl) ?_
        exact EPi hx hb hr hlocks (by omega) dX12_followsOf_49
      ·
        have c_3 := mt (zlt (x := iZ (gz Af 3)) (y := iZ v4_5) rfl rfl (gz_rg Af 3) ⟨by omega, by omega⟩).mpr c_3
        refine lv_iload_n hx hb dX12_followsOf_16 rfl (lv_at hl 1 rfl) ?_
        refine lv_aload_n hx hb dX12_followsOf_17 rfl (lv_at hl 2 rfl) ?_
        refine lv_iload_n hx hb dX12_followsOf_18 rfl (lv_at hl 3 rfl) ?_
        refine lv_iload_n hx hb dX12_followsOf_19 rfl (lv_at hl 4 rfl) ?_
        refine lv_iload hx hb dX12_followsOf_20 (lv_at hl 0 rfl) ?_
        refine CPV (As := [.int (iZ x), .int (iZ y), .int (iZ v4_5)]) (rest := [.int (iZ v3_5)]) hx hb hml hown hts hKK hP (m_fseen l D k fs hm Ma Af x y v4_5 f0 hM ⟨by omega, by omega⟩ ⟨by omega, by omega⟩ ⟨by omega, by omega⟩) ci_X12_fashionSeen qm_X12_366 ⟨Nat.le_of_ble_eq_true rfl, Nat.le_of_ble_eq_true rfl⟩ ⟨Nat.le_of_ble_eq_true rfl, Nat.le_of_ble_eq_true rfl⟩ 0 rfl rfl rfl hl.1 rfl (Nat.le_of_ble_eq_true rfl) dX12_followsOf_22 (fun z_4 hz_4 => ?_)
        refine lv_aload_n hx hb dX12_followsOf_25 rfl (lv_at hl 2 rfl) ?_
        refine lv_iload_n hx hb dX12_followsOf_26 rfl (lv_at hl 3 rfl) ?_
        refine lv_iload hx hb dX12_followsOf_27 (lv_at hl 0 rfl) ?_
        refine CPV (As := [.int (iZ x), .int (iZ v4_5)]) (rest := [.int (iZ z_4), .int (iZ v3_5)]) hx hb hml hown hts hKK hP (m_wore l D k fs hm Ma Af x v4_5 f0 hM ⟨by omega, by omega⟩) ci_X12_woreIn qm_X12_363 ⟨Nat.le_of_ble_eq_true rfl, Nat.le_of_ble_eq_true rfl⟩ ⟨Nat.le_of_ble_eq_true rfl, Nat.le_of_ble_eq_true rfl⟩ 0 rfl rfl rfl hl.1 rfl (Nat.le_of_ble_eq_true rfl) dX12_followsOf_29 (fun z_5 hz_5 => ?_)
        have hbz_5 := hz_5.2
        refine lv_icmp_ne (tgt := 39) hx hb dX12_followsOf_32 rfl (fun c_6 => ?_) (fun c_6 => ?_)
        ·
          have c_6 := mt (zeq (x := iZ z_4) (y := iZ z_5) rfl rfl ⟨by omega, by omega⟩ ⟨by omega, by omega⟩).mpr c_6
          refine lv_iconst (v := iZ 0) hx hb dX12_followsOf_39 rfl ?_
          refine lv_iadd hx hb dX12_followsOf_40 ?_
          refine lv_topi (fun x_7 ex_7 => ?_)
          obtain rfl : x_7 = iZ (v3_5 + 0) := ex_7.trans (iZ_add v3_5 0)
          refine lv_istore_n (lv' := [(3, .int (iZ (v3_5 + 0))), (4, .int (iZ v4_5)), (0, .ref hm), (1, .int (iZ x)), (2, .int (iZ y))]) hx hb dX12_followsOf_41 rfl hl (bl rfl) rfl (fun ls hl => ?_)
          refine lv_iinc (v := iZ (v4_5 + 1)) (lv' := [(4, .int (iZ (v4_5 + 1))), (3, .int (iZ (v3_5 + 0))), (0, .ref hm), (1, .int (iZ x)), (2, .int (iZ y))]) hx hb dX12_followsOf_42 hl (k := 1) rfl (iZ_add v4_5 1) (by decide) rfl (fun ls hl => ?_)
          refine lv_goto (tgt := 5) hx hb dX12_followsOf_45 rfl ?_
          exact ih5  (v3_5 + 0) (v4_5 + 1) _ (by omega) (show (1 ≤ (v4_5 + 1) ∧ (v4_5 + 1) ≤ (gz Af 3) + 1) from ⟨by omega, by omega⟩) (show 0 ≤ (v3_5 + 0) ∧ (v3_5 + 0) < (v4_5 + 1) from (by omega)) (lv_sub hl [0, 1, 2, 3, 4] rfl)
        ·
          have c_6 := (zeq (x := iZ z_4) (y := iZ z_5) rfl rfl ⟨by omega, by omega⟩ ⟨by omega, by omega⟩).mp c_6
          refine lv_iconst (v := iZ 1) hx hb dX12_followsOf_35 rfl ?_
          refine lv_goto (tgt := 40) hx hb dX12_followsOf_36 rfl ?_
          refine lv_iadd hx hb dX12_followsOf_40 ?_
          refine lv_topi (fun x_8 ex_8 => ?_)
          obtain rfl : x_8 = iZ (v3_5 + 1) := ex_8.trans (iZ_add v3_5 1)
          refine lv_istore_n (lv' := [(3, .int (iZ (v3_5 + 1))), (4, .int (iZ v4_5)), (0, .ref hm), (1, .int (iZ x)), (2, .int (iZ y))]) hx hb dX12_followsOf_41 rfl hl (bl rfl) rfl (fun ls hl => ?_)
          refine lv_iinc (v := iZ (v4_5 + 1)) (lv' := [(4, .int (iZ (v4_5 + 1))), (3, .int (iZ (v3_5 + 1))), (0, .ref hm), (1, .int (iZ x)), (2, .int (iZ y))]) hx hb dX12_followsOf_42 hl (k := 1) rfl (iZ_add v4_5 1) (by decide) rfl (fun ls hl => ?_)
          refine lv_goto (tgt := 5) hx hb dX12_followsOf_45 rfl ?_
          exact ih5  (v3_5 + 1) (v4_5 + 1) _ (by omega) (show (1 ≤ (v4_5 + 1) ∧ (v4_5 + 1) ≤ (gz Af 3) + 1) from ⟨by omega, by omega⟩) (show 0 ≤ (v3_5 + 1) ∧ (v3_5 + 1) < (v4_5 + 1) from (by omega)) (lv_sub hl [0, 1, 2, 3, 4] rfl)
  exact HL5 404 0 1 _ (by omega) (show (1 ≤ 1 ∧ 1 ≤ (gz Af 3) + 1) from ⟨by omega, by omega⟩) (show 0 ≤ 0 ∧ 0 < 1 from (by omega)) (lv_sub hl [0, 1, 2, 3, 4] rfl)
set_option maxHeartbeats 4000000 in
set_option maxRecDepth 100000 in
theorem q_follows (l : Launch) (D : va_G) (k : Nat → ClassId) (hm : Nat) (Ma : Nat) (Mn : Nat) (Ms : Nat) (My : Nat) (Mt : Nat) (Mp : Nat) (Mx : Nat) (Mo : Nat) (Mk : Nat) (Ml : Nat) (Mb : Nat) (Mh : Nat) (Mc : Nat) (Mz : Nat) (Mr : Nat) (Mq : Nat) (Mst : Int) (Mtd : Int) (Msz : Int) (Mtk : Int) (Mfr : Int) (Men : Int) (Mva : Int) (Mfk : Int) (Mfp : Int) (Mfs : Int) (Mse : Int) (Mlt : Int) (Mdp : Int) (Mct : Int) (Mdr : Int) (Mrs : Int) (Mit : Int) (Mmk : Int) (Mtp : Int64) (Mbt : Int64) (Af : Nat → Int32) (x1 : Int) (x2 : Int) (hM : M0 Af) (h9x1 : -2147483648 ≤ x1 ∧ x1 < 2147483648) (h9x2 : -2147483648 ≤ x2 ∧ x2 < 2147483648) : WD (σ := ((Int × Int) × (Int64) × (Unit) × (Unit))) l yX12_follows cX12_follows 3 (some .int) 8 0 0 D k [.ref hm, .int (iZ x1), .int (iZ x2)] [(hm, .inr (12, [.ref Ma, .ref Mn, .int (iZ Mst), .long Mtp, .long Mbt, .ref Ms, .ref My, .ref Mt, .ref Mp, .ref Mx, .int (iZ Mtd), .int (iZ Msz), .int (iZ Mtk), .int (iZ Mfr), .int (iZ Men), .int (iZ Mva), .int (iZ Mfk), .int (iZ Mfp), .int (iZ Mfs), .int (iZ Mse), .int (iZ Mlt), .ref Mo, .int (iZ Mdp), .int (iZ Mct), .ref Mk, .ref Ml, .ref Mb, .ref Mh, .ref Mc, .int (iZ Mdr), .int (iZ Mrs), .ref Mz, .ref Mr, .ref Mq, .int (iZ Mit), .int (iZ Mmk)])), (Ma, .inl (k 1, 5340, .inl Af))] (fun u => some (.int (iZ u.1.1))) (fun _ => True) (fun u => [(hm, .inr (12, [.ref Ma, .ref Mn, .int (iZ u.1.2), .long Mtp, .long Mbt, .ref Ms, .ref My, .ref Mt, .ref Mp, .ref Mx, .int (iZ Mtd), .int (iZ Msz), .int (iZ Mtk), .int (iZ Mfr), .int (iZ Men), .int (iZ Mva), .int (iZ Mfk), .int (iZ Mfp), .int (iZ Mfs), .int (iZ Mse), .int (iZ Mlt), .ref Mo, .int (iZ Mdp), .int (iZ Mct), .ref Mk, .ref Ml, .ref Mb, .ref Mh, .ref Mc, .int (iZ Mdr), .int (iZ Mrs), .ref Mz, .ref Mr, .ref Mq, .int (iZ Mit), .int (iZ Mmk)])), (Ma, .inl (k 1, 5340, .inl Af))]) := by
  refine MW (by decide) (Nat.le_of_ble_eq_true rfl) (fun p e s m below meth c ls A hx hb hml hr hlocks hin hts hown hKK hP hD hS hA hl => ?_)
  have hK := hKK.1
  have hl : lv_has ls 3 [(0, .ref hm), (1, .int (iZ x1)), (2, .int (iZ x2))] := hl
  obtain ⟨m0, m1, m3, m4, m5, mF, mO, mS⟩ := id hM
  refine lv_aload_n hx hb dX12_follows_0 rfl (lv_at hl 0 rfl) ?_
  refine lv_iload_n hx hb dX12_follows_1 rfl (lv_at hl 1 rfl) ?_
  refine lv_iload_n hx hb dX12_follows_2 rfl (lv_at hl 2 rfl) ?_
  refine CPV (As := [.int (iZ x1), .int (iZ x2)]) (rest := []) hx hb hml hown hts hKK hP (m_areTwo l D k ([.ref Ma, .ref Mn, .int (iZ Mst), .long Mtp, .long Mbt, .ref Ms, .ref My, .ref Mt, .ref Mp, .ref Mx, .int (iZ Mtd), .int (iZ Msz), .int (iZ Mtk), .int (iZ Mfr), .int (iZ Men), .int (iZ Mva), .int (iZ Mfk), .int (iZ Mfp), .int (iZ Mfs), .int (iZ Mse), .int (iZ Mlt), .ref Mo, .int (iZ Mdp), .int (iZ Mct), .ref Mk, .ref Ml, .ref Mb, .ref Mh, .ref Mc, .int (iZ Mdr), .int (iZ Mrs), .ref Mz, .ref Mr, .ref Mq, .int (iZ Mit), .int (iZ Mmk)]) hm Ma Af x1 x2 rfl hM ⟨by omega, by omega⟩ ⟨by omega, by omega⟩) ci_X12_areTwo qm_X12_265 ⟨Nat.le_of_ble_eq_true rfl, Nat.le_of_ble_eq_true rfl⟩ ⟨Nat.le_of_ble_eq_true rfl, Nat.le_of_ble_eq_true rfl⟩ 0 rfl rfl rfl hl.1 rfl (Nat.le_of_ble_eq_true rfl) dX12_follows_3 (fun z_1 hz_1 => ?_)
  rcases hz_1 with ⟨qz_1, hz_1⟩ | ⟨qz_1, hz_1⟩
  ·
    subst qz_1
    refine lv_if_eq (tgt := 22) hx hb dX12_follows_6 rfl (fun c => absurd c (by decide)) (fun _ => ?_)
    refine lv_aload_n hx hb dX12_follows_9 rfl (lv_at hl 0 rfl) ?_
    refine lv_aload_n hx hb dX12_follows_10 rfl (lv_at hl 0 rfl) ?_
    refine lv_iload_n hx hb dX12_follows_11 rfl (lv_at hl 1 rfl) ?_
    refine lv_iload_n hx hb dX12_follows_12 rfl (lv_at hl 2 rfl) ?_
    refine CPV (As := [.int (iZ x1), .int (iZ x2)]) (rest := [.ref hm]) hx hb hml hown hts hKK hP (m_followsOf l D k ([.ref Ma, .ref Mn, .int (iZ Mst), .long Mtp, .long Mbt, .ref Ms, .ref My, .ref Mt, .ref Mp, .ref Mx, .int (iZ Mtd), .int (iZ Msz), .int (iZ Mtk), .int (iZ Mfr), .int (iZ Men), .int (iZ Mva), .int (iZ Mfk), .int (iZ Mfp), .int (iZ Mfs), .int (iZ Mse), .int (iZ Mlt), .ref Mo, .int (iZ Mdp), .int (iZ Mct), .ref Mk, .ref Ml, .ref Mb, .ref Mh, .ref Mc, .int (iZ Mdr), .int (iZ Mrs), .ref Mz, .ref Mr, .ref Mq, .int (iZ Mit), .int (iZ Mmk)]) hm Ma Af x1 x2 rfl hM ⟨by omega, by omega⟩ ⟨by omega, by omega⟩) ci_X12_followsOf qm_X12_377 ⟨Nat.le_of_ble_eq_true rfl, Nat.le_of_ble_eq_true rfl⟩ ⟨Nat.le_of_ble_eq_true rfl, Nat.le_of_ble_eq_true rfl⟩ 0 rfl rfl rfl hl.1 rfl (Nat.le_of_ble_eq_true rfl) dX12_follows_13 (fun z_3 hz_3 => ?_)
    refine CWV (As := [.int (iZ z_3)]) (rest := []) (wc := _) (wr := [(Ma, .inl (k 1, 5340, .inl Af))]) hx hb hml hown hts hKK hP hD hS hA (m_gives l D k hm Ma Mn Ms My Mt Mp Mx Mo Mk Ml Mb Mh Mc Mz Mr Mq Mst Mtd Msz Mtk Mfr Men Mva Mfk Mfp Mfs Mse Mlt Mdp Mct Mdr Mrs Mit Mmk Mtp Mbt z_3) ci_X12_gives qm_X12_85 ⟨Nat.le_of_ble_eq_true rfl, Nat.le_of_ble_eq_true rfl⟩ ⟨Nat.le_of_ble_eq_true rfl, Nat.le_of_ble_eq_true rfl⟩ [0] [1] rfl rfl rfl rfl rfl (dj rfl) 0 rfl rfl rfl hl.1 rfl (Nat.le_of_ble_eq_true rfl) dX12_follows_16 (fun u_4 H locs hφ hP hD hS => ?_)
    refine W.eq (g2 := F0 m 19 ls [.int (iZ z_3)]) rfl ?_
    refine lv_goto (tgt := 27) hx hb dX12_follows_19 rfl ?_
    exact EWi hx hb hr hlocks hS ((z_3, 0), 0, (), ()) rfl trivial (hP.sub [1, 0] rfl) (hD.sub [1, 0] rfl rfl) dX12_follows_27
  ·
    subst qz_1
    refine lv_if_eq (tgt := 22) hx hb dX12_follows_6 rfl (fun _ => ?_) (fun c => absurd (by decide) c)
    refine lv_aload_n hx hb dX12_follows_22 rfl (lv_at hl 0 rfl) ?_
    refine lv_iconst (v := iZ 1) hx hb dX12_follows_23 rfl ?_
    refine CWV (As := [.int (iZ 1)]) (rest := []) (wc := _) (wr := [(Ma, .inl (k 1, 5340, .inl Af))]) hx hb hml hown hts hKK hP hD hS hA (m_refuse l D k hm Ma Mn Ms My Mt Mp Mx Mo Mk Ml Mb Mh Mc Mz Mr Mq Mst Mtd Msz Mtk Mfr Men Mva Mfk Mfp Mfs Mse Mlt Mdp Mct Mdr Mrs Mit Mmk Mtp Mbt 1) ci_X12_refuse qm_X12_81 ⟨Nat.le_of_ble_eq_true rfl, Nat.le_of_ble_eq_true rfl⟩ ⟨Nat.le_of_ble_eq_true rfl, Nat.le_of_ble_eq_true rfl⟩ [0] [1] rfl rfl rfl rfl rfl (dj rfl) 0 rfl rfl rfl hl.1 rfl (Nat.le_of_ble_eq_true rfl) dX12_follows_24 (fun u_6 H locs hφ hP hD hS => ?_)
    refine W.eq (g2 := F0 m 27 ls [.int (iZ (-1))]) rfl ?_
    exact EWi hx hb hr hlocks hS (((-1), 1), 0, (), ()) rfl trivial (hP.sub [1, 0] rfl) (hD.sub [1, 0] rfl rfl) dX12_follows_27
set_option maxHeartbeats 4000000 in
set_option maxRecDepth 100000 in
theorem q_model (l : Launch) (D : va_G) (k : Nat → ClassId) (hm : Nat) (Ma : Nat) (Mn : Nat) (Ms : Nat) (My : Nat) (Mt : Nat) (Mp : Nat) (Mx : Nat) (Mo : Nat) (Mk : Nat) (Ml : Nat) (Mb : Nat) (Mh : Nat) (Mc : Nat) (Mz : Nat) (Mr : Nat) (Mq : Nat) (Mst : Int) (Mtd : Int) (Msz : Int) (Mtk : Int) (Mfr : Int) (Men : Int) (Mva : Int) (Mfk : Int) (Mfp : Int) (Mfs : Int) (Mse : Int) (Mlt : Int) (Mdp : Int) (Mct : Int) (Mdr : Int) (Mrs : Int) (Mit : Int) (Mmk : Int) (Mtp : Int64) (Mbt : Int64) (Af : Nat → Int32) (x1 : Int) (hM : M0 Af) (h9x1 : -2147483648 ≤ x1 ∧ x1 < 2147483648) : WD (σ := ((Int × Int) × (Int64) × (Unit) × (Unit))) l yX12_model cX12_model 6 (some .int) 8 0 0 D k [.ref hm, .int (iZ x1)] [(hm, .inr (12, [.ref Ma, .ref Mn, .int (iZ Mst), .long Mtp, .long Mbt, .ref Ms, .ref My, .ref Mt, .ref Mp, .ref Mx, .int (iZ Mtd), .int (iZ Msz), .int (iZ Mtk), .int (iZ Mfr), .int (iZ Men), .int (iZ Mva), .int (iZ Mfk), .int (iZ Mfp), .int (iZ Mfs), .int (iZ Mse), .int (iZ Mlt), .ref Mo, .int (iZ Mdp), .int (iZ Mct), .ref Mk, .ref Ml, .ref Mb, .ref Mh, .ref Mc, .int (iZ Mdr), .int (iZ Mrs), .ref Mz, .ref Mr, .ref Mq, .int (iZ Mit), .int (iZ Mmk)])), (Ma, .inl (k 1, 5340, .inl Af))] (fun u => some (.int (iZ u.1.1))) (fun _ => True) (fun u => [(hm, .inr (12, [.ref Ma, .ref Mn, .int (iZ u.1.2), .long Mtp, .long Mbt, .ref Ms, .ref My, .ref Mt, .ref Mp, .ref Mx, .int (iZ Mtd), .int (iZ Msz), .int (iZ Mtk), .int (iZ Mfr), .int (iZ Men), .int (iZ Mva), .int (iZ Mfk), .int (iZ Mfp), .int (iZ Mfs), .int (iZ Mse), .int (iZ Mlt), .ref Mo, .int (iZ Mdp), .int (iZ Mct), .ref Mk, .ref Ml, .ref Mb, .ref Mh, .ref Mc, .int (iZ Mdr), .int (iZ Mrs), .ref Mz, .ref Mr, .ref Mq, .int (iZ Mit), .int (iZ Mmk)])), (Ma, .inl (k 1, 5340, .inl Af))]) := by
  refine MW (by decide) (Nat.le_of_ble_eq_true rfl) (fun p e s m below meth c ls A hx hb hml hr hlocks hin hts hown hKK hP hD hS hA hl => ?_)
  have hK := hKK.1
  have hl : lv_has ls 6 [(0, .ref hm), (1, .int (iZ x1))] := hl
  obtain ⟨m0, m1, m3, m4, m5, mF, mO, mS⟩ := id hM
  refine lv_aload_n hx hb dX12_model_0 rfl (lv_at hl 0 rfl) ?_
  refine lv_iload_n hx hb dX12_model_1 rfl (lv_at hl 1 rfl) ?_
  refine CPV (As := [.int (iZ x1)]) (rest := []) hx hb hml hown hts hKK hP (m_isRock l D k ([.ref Ma, .ref Mn, .int (iZ Mst), .long Mtp, .long Mbt, .ref Ms, .ref My, .ref Mt, .ref Mp, .ref Mx, .int (iZ Mtd), .int (iZ Msz), .int (iZ Mtk), .int (iZ Mfr), .int (iZ Men), .int (iZ Mva), .int (iZ Mfk), .int (iZ Mfp), .int (iZ Mfs), .int (iZ Mse), .int (iZ Mlt), .ref Mo, .int (iZ Mdp), .int (iZ Mct), .ref Mk, .ref Ml, .ref Mb, .ref Mh, .ref Mc, .int (iZ Mdr), .int (iZ Mrs), .ref Mz, .ref Mr, .ref Mq, .int (iZ Mit), .int (iZ Mmk)]) hm Ma Af x1 rfl hM ⟨by omega, by omega⟩) ci_X12_isRock qm_X12_243 ⟨Nat.le_of_ble_eq_true rfl, Nat.le_of_ble_eq_true rfl⟩ ⟨Nat.le_of_ble_eq_true rfl, Nat.le_of_ble_eq_true rfl⟩ 0 rfl rfl rfl hl.1 rfl (Nat.le_of_ble_eq_true rfl) dX12_model_2 (fun z_1 hz_1 => ?_)
  rcases hz_1 with ⟨qz_1, hz_1⟩ | ⟨qz_1, hz_1⟩
  ·
    subst qz_1
    refine lv_if_ne (tgt := 14) hx hb dX12_model_5 rfl (fun _ => ?_) (fun c => absurd c (by decide))
    refine lv_iconst (v := iZ (-1)) hx hb dX12_model_14 rfl ?_
    refine lv_istore_n (lv' := [(2, .int (iZ (-1))), (0, .ref hm), (1, .int (iZ x1))]) hx hb dX12_model_15 rfl hl (bl rfl) rfl (fun ls hl => ?_)
    refine lv_iconst (v := iZ (-1)) hx hb dX12_model_16 rfl ?_
    refine lv_istore_n (lv' := [(3, .int (iZ (-1))), (2, .int (iZ (-1))), (0, .ref hm), (1, .int (iZ x1))]) hx hb dX12_model_17 rfl hl (bl rfl) rfl (fun ls hl => ?_)
    refine lv_iconst (v := iZ 0) hx hb dX12_model_18 rfl ?_
    refine lv_istore (lv' := [(4, .int (iZ 0)), (3, .int (iZ (-1))), (2, .int (iZ (-1))), (0, .ref hm), (1, .int (iZ x1))]) hx hb dX12_model_19 hl (bl rfl) rfl (fun ls hl => ?_)
    have HL21 : ∀ (fu : Nat) (v3_21 : Int) (v2_21 : Int) (v4_21 : Int) (H : Heap) (locs : List Loc) (ls : Array Slot), ((gz Af 0) + 2 - v4_21) < (fu : Int) → ((0 ≤ v4_21 ∧ v4_21 ≤ (gz Af 0) + 1)) → (-1 ≤ v2_21 ∧ v2_21 < gz Af 0) → (-1 ≤ v3_21 ∧ v3_21 ≤ 400) → va_P D vwCl [(hm, .inr (12, [.ref Ma, .ref Mn, .int (iZ Mst), .long Mtp, .long Mbt, .ref Ms, .ref My, .ref Mt, .ref Mp, .ref Mx, .int (iZ Mtd), .int (iZ Msz), .int (iZ Mtk), .int (iZ Mfr), .int (iZ Men), .int (iZ Mva), .int (iZ Mfk), .int (iZ Mfp), .int (iZ Mfs), .int (iZ Mse), .int (iZ Mlt), .ref Mo, .int (iZ Mdp), .int (iZ Mct), .ref Mk, .ref Ml, .ref Mb, .ref Mh, .ref Mc, .int (iZ Mdr), .int (iZ Mrs), .ref Mz, .ref Mr, .ref Mq, .int (iZ Mit), .int (iZ Mmk)])), (Ma, .inl (k 1, 5340, .inl Af))] H → va_D A [(hm, .inr (12, [.ref Ma, .ref Mn, .int (iZ Mst), .long Mtp, .long Mbt, .ref Ms, .ref My, .ref Mt, .ref Mp, .ref Mx, .int (iZ Mtd), .int (iZ Msz), .int (iZ Mtk), .int (iZ Mfr), .int (iZ Men), .int (iZ Mva), .int (iZ Mfk), .int (iZ Mfp), .int (iZ Mfs), .int (iZ Mse), .int (iZ Mlt), .ref Mo, .int (iZ Mdp), .int (iZ Mct), .ref Mk, .ref Ml, .ref Mb, .ref Mh, .ref Mc, .int (iZ Mdr), .int (iZ Mrs), .ref Mz, .ref Mr, .ref Mq, .int (iZ Mit), .int (iZ Mmk)])), (Ma, .inl (k 1, 5340, .inl Af))] → va_S A s.heap H locs → lv_has ls 6 [(4, .int (iZ v4_21)), (3, .int (iZ v3_21)), (2, .int (iZ v2_21)), (0, .ref hm), (1, .int (iZ x1))] → W p l e (rj 8 0 0) s m [.ref hm, .int (iZ x1)].toArray below meth c H locs 0 0 (MQ below (QW (σ := ((Int × Int) × (Int64) × (Unit) × (Unit))) (fun u => some (.int (iZ u.1.1))) (fun _ => True) (fun u => [(hm, .inr (12, [.ref Ma, .ref Mn, .int (iZ u.1.2), .long Mtp, .long Mbt, .ref Ms, .ref My, .ref Mt, .ref Mp, .ref Mx, .int (iZ Mtd), .int (iZ Msz), .int (iZ Mtk), .int (iZ Mfr), .int (iZ Men), .int (iZ Mva), .int (iZ Mfk), .int (iZ Mfp), .int (iZ Mfs), .int (iZ Mse), .int (iZ Mlt), .ref Mo, .int (iZ Mdp), .int (iZ Mct), .ref Mk, .ref Ml, .ref Mb, .ref Mh, .ref Mc, .int (iZ Mdr), .int (iZ Mrs), .ref Mz, .ref Mr, .ref Mq, .int (iZ Mit), .int (iZ Mmk)])), (Ma, .inl (k 1, 5340, .inl Af))]) D A) [.ref hm, .int (iZ x1)].toArray s 0 0 A) (F0 m 21 ls []) := by
      intro fu
      induction fu with
      | zero => intro v3_21 v2_21 v4_21 H locs ls hμ21 hi21 hf0_21 hf1_21 hP hD hS hl; exact absurd hμ21 (by omega)
      | succ fu ih21 =>
        intro v3_21 v2_21 v4_21 H locs ls hμ21 hi21 hf0_21 hf1_21 hP hD hS hl
        refine lv_iload hx hb dX12_model_21 (lv_at hl 0 rfl) ?_
        refine lv_aload_n hx hb dX12_model_23 rfl (lv_at hl 3 rfl) ?_
        refine va_get (D := D) (ci := 12) (v := .ref Ma) (C := RX12) (T := TX12) (N := 36) hx hb hts iX12 hown hK hP 0 rfl rfl 0 (bl rfl) (hts _ qf_X12_7) (fun _ h => h) rfl dX12_model_24 ?_
        refine lv_iconst (v := iZ 0) hx hb dX12_model_27 rfl ?_
        refine va_iald hx hb hK hP 1 1 rfl rfl (zin (e := 0) (n := 5340) ⟨by omega, by omega⟩ (bl rfl)) dX12_model_28 ?_
        refine lv_topi (fun x_3 ex_3 => ?_)
        obtain rfl : x_3 = iZ (gz Af 0) := ex_3.trans (gz_eq ⟨by omega, by omega⟩)
        have h_4 := gz_rg Af 0
        refine lv_icmp_ge (tgt := 72) hx hb dX12_model_29 rfl (fun c_5 => ?_) (fun c_5 => ?_)
        ·
          have c_5 := (zle (x := iZ (gz Af 0)) (y := iZ v4_21) rfl rfl (gz_rg Af 0) ⟨by omega, by omega⟩).mp c_5
          refine lv_aload_n hx hb dX12_model_72 rfl (lv_at hl 3 rfl) ?_
          refine lv_iload_n hx hb dX12_model_73 rfl (lv_at hl 2 rfl) ?_
          refine CWV (As := [.int (iZ v2_21)]) (rest := []) (wc := _) (wr := [(Ma, .inl (k 1, 5340, .inl Af))]) hx hb hml hown hts hKK hP hD hS hA (m_orNone l D k hm Ma Mn Ms My Mt Mp Mx Mo Mk Ml Mb Mh Mc Mz Mr Mq Mst Mtd Msz Mtk Mfr Men Mva Mfk Mfp Mfs Mse Mlt Mdp Mct Mdr Mrs Mit Mmk Mtp Mbt v2_21 ⟨by omega, by omega⟩) ci_X12_orNone qm_X12_290 ⟨Nat.le_of_ble_eq_true rfl, Nat.le_of_ble_eq_true rfl⟩ ⟨Nat.le_of_ble_eq_true rfl, Nat.le_of_ble_eq_true rfl⟩ [0] [1] rfl rfl rfl rfl rfl (dj rfl) 0 rfl rfl rfl hl.1 rfl (Nat.le_of_ble_eq_true rfl) dX12_model_74 (fun u_6 H locs hφ hP hD hS => ?_)
          have p_7 : ((v2_21 : Int) = -1 ∧ u_6.1.2 = 6) ∨ (¬ (v2_21 : Int) = -1 ∧ u_6.1.2 = 0) := hφ
          refine W.eq (g2 := F0 m 77 ls [.int (iZ v2_21)]) rfl ?_
          exact EWi hx hb hr hlocks hS ((v2_21, u_6.1.2), 0, (), ()) rfl trivial (hP.sub [1, 0] rfl) (hD.sub [1, 0] rfl rfl) dX12_model_77
        ·
          have c_5 := mt (zle (x := iZ (gz Af 0)) (y := iZ v4_21) rfl rfl (gz_rg Af 0) ⟨by omega, by omega⟩).mpr c_5
          refine lv_iload hx hb dX12_model_32 (lv_at hl 0 rfl) ?_
          refine lv_iload_n hx hb dX12_model_34 rfl (lv_at hl 4 rfl) ?_
          refine lv_icmp_ne (tgt := 42) hx hb dX12_model_35 rfl (fun c_8 => ?_) (fun c_8 => ?_)
          ·
            have c_8 := mt (zeq (x := iZ v4_21) (y := iZ x1) rfl rfl ⟨by omega, by omega⟩ ⟨by omega, by omega⟩).mpr c_8
            refine lv_aload_n hx hb dX12_model_42 rfl (lv_at hl 3 rfl) ?_
            refine lv_iload_n hx hb dX12_model_43 rfl (lv_at hl 4 rfl) ?_
            refine lv_iload hx hb dX12_model_44 (lv_at hl 0 rfl) ?_
            refine CPV (As := [.int (iZ x1), .int (iZ v4_21)]) (rest := []) hx hb hml hown hts hKK hP (m_followsOf l D k ([.ref Ma, .ref Mn, .int (iZ Mst), .long Mtp, .long Mbt, .ref Ms, .ref My, .ref Mt, .ref Mp, .ref Mx, .int (iZ Mtd), .int (iZ Msz), .int (iZ Mtk), .int (iZ Mfr), .int (iZ Men), .int (iZ Mva), .int (iZ Mfk), .int (iZ Mfp), .int (iZ Mfs), .int (iZ Mse), .int (iZ Mlt), .ref Mo, .int (iZ Mdp), .int (iZ Mct), .ref Mk, .ref Ml, .ref Mb, .ref Mh, .ref Mc, .int (iZ Mdr), .int (iZ Mrs), .ref Mz, .ref Mr, .ref Mq, .int (iZ Mit), .int (iZ Mmk)]) hm Ma Af x1 v4_21 rfl hM ⟨by omega, by omega⟩ ⟨by omega, by omega⟩) ci_X12_followsOf qm_X12_377 ⟨Nat.le_of_ble_eq_true rfl, Nat.le_of_ble_eq_true rfl⟩ ⟨Nat.le_of_ble_eq_true rfl, Nat.le_of_ble_eq_true rfl⟩ 0 rfl rfl rfl hl.1 rfl (Nat.le_of_ble_eq_true rfl) dX12_model_46 (fun z_9 hz_9 => ?_)
            refine lv_istore (lv' := [(5, .int (iZ z_9)), (4, .int (iZ v4_21)), (3, .int (iZ v3_21)), (2, .int (iZ v2_21)), (0, .ref hm), (1, .int (iZ x1))]) hx hb dX12_model_49 hl (bl rfl) rfl (fun ls hl => ?_)
            refine lv_iload hx hb dX12_model_51 (lv_at hl 0 rfl) ?_
            refine lv_iload_n hx hb dX12_model_53 rfl (lv_at hl 2 rfl) ?_
            refine lv_icmp_gt (tgt := 60) hx hb dX12_model_54 rfl (fun c_10 => ?_) (fun c_10 => ?_)
            ·
              have c_10 := (zlt (x := iZ v3_21) (y := iZ z_9) rfl rfl ⟨by omega, by omega⟩ ⟨by omega, by omega⟩).mp c_10
              refine lv_iload hx hb dX12_model_60 (lv_at hl 0 rfl) ?_
              refine lv_istore_n (lv' := [(3, .int (iZ z_9)), (5, .int (iZ z_9)), (4, .int (iZ v4_21)), (2, .int (iZ v2_21)), (0, .ref hm), (1, .int (iZ x1))]) hx hb dX12_model_62 rfl hl (bl rfl) rfl (fun ls hl => ?_)
              refine lv_iload hx hb dX12_model_63 (lv_at hl 2 rfl) ?_
              refine lv_istore_n (lv' := [(2, .int (iZ v4_21)), (3, .int (iZ z_9)), (5, .int (iZ z_9)), (4, .int (iZ v4_21)), (0, .ref hm), (1, .int (iZ x1))]) hx hb dX12_model_65 rfl hl (bl rfl) rfl (fun ls hl => ?_)
              refine lv_iinc (v := iZ (v4_21 + 1)) (lv' := [(4, .int (iZ (v4_21 + 1))), (2, .int (iZ v4_21)), (3, .int (iZ z_9)), (5, .int (iZ z_9)), (0, .ref hm), (1, .int (iZ x1))]) hx hb dX12_model_66 hl (k := 3) rfl (iZ_add v4_21 1) (by decide) rfl (fun ls hl => ?_)
              refine lv_goto (tgt := 21) hx hb dX12_model_69 rfl ?_
              exact ih21  z_9 v4_21 (v4_21 + 1) _ _ _ (by omega) (show (0 ≤ (v4_21 + 1) ∧ (v4_21 + 1) ≤ (gz Af 0) + 1) from ⟨by omega, by omega⟩) (show -1 ≤ v4_21 ∧ v4_21 < gz Af 0 from (by omega)) (show -1 ≤ z_9 ∧ z_9 ≤ 400 from (by omega)) (hP.sub [0, 1] rfl) (hD.sub [0, 1] rfl rfl) hS (lv_sub hl [0, 2, 1, 4, 5] rfl)
            ·
              have c_10 := mt (zlt (x := iZ v3_21) (y := iZ z_9) rfl rfl ⟨by omega, by omega⟩ ⟨by omega, by omega⟩).mpr c_10
              refine lv_goto (tgt := 66) hx hb dX12_model_57 rfl ?_
              refine lv_iinc (v := iZ (v4_21 + 1)) (lv' := [(4, .int (iZ (v4_21 + 1))), (5, .int (iZ z_9)), (3, .int (iZ v3_21)), (2, .int (iZ v2_21)), (0, .ref hm), (1, .int (iZ x1))]) hx hb dX12_model_66 hl (k := 1) rfl (iZ_add v4_21 1) (by decide) rfl (fun ls hl => ?_)
              refine lv_goto (tgt := 21) hx hb dX12_model_69 rfl ?_
              exact ih21  v3_21 v2_21 (v4_21 + 1) _ _ _ (by omega) (show (0 ≤ (v4_21 + 1) ∧ (v4_21 + 1) ≤ (gz Af 0) + 1) from ⟨by omega, by omega⟩) (show -1 ≤ v2_21 ∧ v2_21 < gz Af 0 from (by omega)) (show -1 ≤ v3_21 ∧ v3_21 ≤ 400 from (by omega)) (hP.sub [0, 1] rfl) (hD.sub [0, 1] rfl rfl) hS (lv_sub hl [0, 2, 3, 4, 5] rfl)
          ·
            have c_8 := (zeq (x := iZ v4_21) (y := iZ x1) rfl rfl ⟨by omega, by omega⟩ ⟨by omega, by omega⟩).mp c_8
            refine lv_iconst (v := iZ (-1)) hx hb dX12_model_38 rfl ?_
            refine lv_goto (tgt := 49) hx hb dX12_model_39 rfl ?_
            refine lv_istore (lv' := [(5, .int (iZ (-1))), (4, .int (iZ v4_21)), (3, .int (iZ v3_21)), (2, .int (iZ v2_21)), (0, .ref hm), (1, .int (iZ x1))]) hx hb dX12_model_49 hl (bl rfl) rfl (fun ls hl => ?_)
            refine lv_iload hx hb dX12_model_51 (lv_at hl 0 rfl) ?_
            refine lv_iload_n hx hb dX12_model_53 rfl (lv_at hl 2 rfl) ?_
            refine lv_icmp_gt (tgt := 60) hx hb dX12_model_54 rfl (fun c_11 => ?_) (fun c_11 => ?_)
            ·
              have c_11 := (zlt (x := iZ v3_21) (y := iZ (-1)) rfl rfl ⟨by omega, by omega⟩ wn_m1).mp c_11
              refine lv_iload hx hb dX12_model_60 (lv_at hl 0 rfl) ?_
              refine lv_istore_n (lv' := [(3, .int (iZ (-1))), (5, .int (iZ (-1))), (4, .int (iZ v4_21)), (2, .int (iZ v2_21)), (0, .ref hm), (1, .int (iZ x1))]) hx hb dX12_model_62 rfl hl (bl rfl) rfl (fun ls hl => ?_)
              refine lv_iload hx hb dX12_model_63 (lv_at hl 2 rfl) ?_
              refine lv_istore_n (lv' := [(2, .int (iZ v4_21)), (3, .int (iZ (-1))), (5, .int (iZ (-1))), (4, .int (iZ v4_21)), (0, .ref hm), (1, .int (iZ x1))]) hx hb dX12_model_65 rfl hl (bl rfl) rfl (fun ls hl => ?_)
              refine lv_iinc (v := iZ (v4_21 + 1)) (lv' := [(4, .int (iZ (v4_21 + 1))), (2, .int (iZ v4_21)), (3, .int (iZ (-1))), (5, .int (iZ (-1))), (0, .ref hm), (1, .int (iZ x1))]) hx hb dX12_model_66 hl (k := 3) rfl (iZ_add v4_21 1) (by decide) rfl (fun ls hl => ?_)
              refine lv_goto (tgt := 21) hx hb dX12_model_69 rfl ?_
              exact ih21  (-1) v4_21 (v4_21 + 1) _ _ _ (by omega) (show (0 ≤ (v4_21 + 1) ∧ (v4_21 + 1) ≤ (gz Af 0) + 1) from ⟨by omega, by omega⟩) (show -1 ≤ v4_21 ∧ v4_21 < gz Af 0 from (by omega)) (show -1 ≤ (-1) ∧ (-1) ≤ 400 from (by omega)) (hP.sub [0, 1] rfl) (hD.sub [0, 1] rfl rfl) hS (lv_sub hl [0, 2, 1, 4, 5] rfl)
            ·
              have c_11 := mt (zlt (x := iZ v3_21) (y := iZ (-1)) rfl rfl ⟨by omega, by omega⟩ wn_m1).mpr c_11
              refine lv_goto (tgt := 66) hx hb dX12_model_57 rfl ?_
              refine lv_iinc (v := iZ (v4_21 + 1)) (lv' := [(4, .int (iZ (v4_21 + 1))), (5, .int (iZ (-1))), (3, .int (iZ v3_21)), (2, .int (iZ v2_21)), (0, .ref hm), (1, .int (iZ x1))]) hx hb dX12_model_66 hl (k := 1) rfl (iZ_add v4_21 1) (by decide) rfl (fun ls hl => ?_)
              refine lv_goto (tgt := 21) hx hb dX12_model_69 rfl ?_
              exact ih21  v3_21 v2_21 (v4_21 + 1) _ _ _ (by omega) (show (0 ≤ (v4_21 + 1) ∧ (v4_21 + 1) ≤ (gz Af 0) + 1) from ⟨by omega, by omega⟩) (show -1 ≤ v2_21 ∧ v2_21 < gz Af 0 from (by omega)) (show -1 ≤ v3_21 ∧ v3_21 ≤ 400 from (by omega)) (hP.sub [0, 1] rfl) (hD.sub [0, 1] rfl rfl) hS (lv_sub hl [0, 2, 3, 4, 5] rfl)
    exact HL21 10 (-1) (-1) 0 _ _ _ (by omega) (show (0 ≤ 0 ∧ 0 ≤ (gz Af 0) + 1) from ⟨by omega, by omega⟩) (show -1 ≤ (-1) ∧ (-1) < gz Af 0 from (by omega)) (show -1 ≤ (-1) ∧ (-1) ≤ 400 from (by omega)) (hP.sub [0, 1] rfl) (hD.sub [0, 1] rfl rfl) hS (lv_sub hl [0, 1, 2, 3, 4] rfl)
  ·
    subst qz_1
    refine lv_if_ne (tgt := 14) hx hb dX12_model_5 rfl (fun c => absurd (by decide) c) (fun _ => ?_)
    refine lv_aload_n hx hb dX12_model_8 rfl (lv_at hl 0 rfl) ?_
    refine lv_iconst (v := iZ 1) hx hb dX12_model_9 rfl ?_
    refine CWV (As := [.int (iZ 1)]) (rest := []) (wc := _) (wr := [(Ma, .inl (k 1, 5340, .inl Af))]) hx hb hml hown hts hKK hP hD hS hA (m_refuse l D k hm Ma Mn Ms My Mt Mp Mx Mo Mk Ml Mb Mh Mc Mz Mr Mq Mst Mtd Msz Mtk Mfr Men Mva Mfk Mfp Mfs Mse Mlt Mdp Mct Mdr Mrs Mit Mmk Mtp Mbt 1) ci_X12_refuse qm_X12_81 ⟨Nat.le_of_ble_eq_true rfl, Nat.le_of_ble_eq_true rfl⟩ ⟨Nat.le_of_ble_eq_true rfl, Nat.le_of_ble_eq_true rfl⟩ [0] [1] rfl rfl rfl rfl rfl (dj rfl) 0 rfl rfl rfl hl.1 rfl (Nat.le_of_ble_eq_true rfl) dX12_model_10 (fun u_13 H locs hφ hP hD hS => ?_)
    refine W.eq (g2 := F0 m 13 ls [.int (iZ (-1))]) rfl ?_
    exact EWi hx hb hr hlocks hS (((-1), 1), 0, (), ()) rfl trivial (hP.sub [1, 0] rfl) (hD.sub [1, 0] rfl rfl) dX12_model_13
set_option maxHeartbeats 4000000 in
set_option maxRecDepth 100000 in
theorem q_uniform (l : Launch) (D : va_G) (k : Nat → ClassId) (hm : Nat) (Ma : Nat) (Mn : Nat) (Ms : Nat) (My : Nat) (Mt : Nat) (Mp : Nat) (Mx : Nat) (Mo : Nat) (Mk : Nat) (Ml : Nat) (Mb : Nat) (Mh : Nat) (Mc : Nat) (Mz : Nat) (Mr : Nat) (Mq : Nat) (Mst : Int) (Mtd : Int) (Msz : Int) (Mtk : Int) (Mfr : Int) (Men : Int) (Mva : Int) (Mfk : Int) (Mfp : Int) (Mfs : Int) (Mse : Int) (Mlt : Int) (Mdp : Int) (Mct : Int) (Mdr : Int) (Mrs : Int) (Mit : Int) (Mmk : Int) (Mtp : Int64) (Mbt : Int64) (Af : Nat → Int32) (hM : M0 Af) : WD (σ := ((Int × Int) × (Int64) × (Unit) × (Unit))) l yX12_uniform cX12_uniform 3 (some .int) 1 0 0 D k [.ref hm] [(hm, .inr (12, [.ref Ma, .ref Mn, .int (iZ Mst), .long Mtp, .long Mbt, .ref Ms, .ref My, .ref Mt, .ref Mp, .ref Mx, .int (iZ Mtd), .int (iZ Msz), .int (iZ Mtk), .int (iZ Mfr), .int (iZ Men), .int (iZ Mva), .int (iZ Mfk), .int (iZ Mfp), .int (iZ Mfs), .int (iZ Mse), .int (iZ Mlt), .ref Mo, .int (iZ Mdp), .int (iZ Mct), .ref Mk, .ref Ml, .ref Mb, .ref Mh, .ref Mc, .int (iZ Mdr), .int (iZ Mrs), .ref Mz, .ref Mr, .ref Mq, .int (iZ Mit), .int (iZ Mmk)])), (Ma, .inl (k 1, 5340, .inl Af))] (fun u => some (.int (iZ u.1.1))) (fun _ => True) (fun u => [(hm, .inr (12, [.ref Ma, .ref Mn, .int (iZ u.1.2), .long Mtp, .long Mbt, .ref Ms, .ref My, .ref Mt, .ref Mp, .ref Mx, .int (iZ Mtd), .int (iZ Msz), .int (iZ Mtk), .int (iZ Mfr), .int (iZ Men), .int (iZ Mva), .int (iZ Mfk), .int (iZ Mfp), .int (iZ Mfs), .int (iZ Mse), .int (iZ Mlt), .ref Mo, .int (iZ Mdp), .int (iZ Mct), .ref Mk, .ref Ml, .ref Mb, .ref Mh, .ref Mc, .int (iZ Mdr), .int (iZ Mrs), .ref Mz, .ref Mr, .ref Mq, .int (iZ Mit), .int (iZ Mmk)])), (Ma, .inl (k 1, 5340, .inl Af))]) := by
  refine MW (by decide) (Nat.le_of_ble_eq_true rfl) (fun p e s m below meth c ls A hx hb hml hr hlocks hin hts hown hKK hP hD hS hA hl => ?_)
  have hK := hKK.1
  have hl : lv_has ls 3 [(0, .ref hm)] := hl
  obtain ⟨m0, m1, m3, m4, m5, mF, mO, mS⟩ := id hM
  refine lv_iconst (v := iZ 0) hx hb dX12_uniform_0 rfl ?_
  refine lv_istore_n (lv' := [(1, .int (iZ 0)), (0, .ref hm)]) hx hb dX12_uniform_1 rfl hl (bl rfl) rfl (fun ls hl => ?_)
  refine lv_iconst (v := iZ 0) hx hb dX12_uniform_2 rfl ?_
  refine lv_istore_n (lv' := [(2, .int (iZ 0)), (1, .int (iZ 0)), (0, .ref hm)]) hx hb dX12_uniform_3 rfl hl (bl rfl) rfl (fun ls hl => ?_)
  have HL4 : ∀ (fu : Nat) (v1_4 : Int) (v2_4 : Int) (H : Heap) (locs : List Loc) (ls : Array Slot), ((gz Af 3) + 2 - v2_4) < (fu : Int) → ((0 ≤ v2_4 ∧ v2_4 ≤ (gz Af 3) + 1)) → va_P D vwCl [(hm, .inr (12, [.ref Ma, .ref Mn, .int (iZ Mst), .long Mtp, .long Mbt, .ref Ms, .ref My, .ref Mt, .ref Mp, .ref Mx, .int (iZ Mtd), .int (iZ Msz), .int (iZ Mtk), .int (iZ Mfr), .int (iZ Men), .int (iZ Mva), .int (iZ Mfk), .int (iZ Mfp), .int (iZ Mfs), .int (iZ Mse), .int (iZ Mlt), .ref Mo, .int (iZ Mdp), .int (iZ Mct), .ref Mk, .ref Ml, .ref Mb, .ref Mh, .ref Mc, .int (iZ Mdr), .int (iZ Mrs), .ref Mz, .ref Mr, .ref Mq, .int (iZ Mit), .int (iZ Mmk)])), (Ma, .inl (k 1, 5340, .inl Af))] H → va_D A [(hm, .inr (12, [.ref Ma, .ref Mn, .int (iZ Mst), .long Mtp, .long Mbt, .ref Ms, .ref My, .ref Mt, .ref Mp, .ref Mx, .int (iZ Mtd), .int (iZ Msz), .int (iZ Mtk), .int (iZ Mfr), .int (iZ Men), .int (iZ Mva), .int (iZ Mfk), .int (iZ Mfp), .int (iZ Mfs), .int (iZ Mse), .int (iZ Mlt), .ref Mo, .int (iZ Mdp), .int (iZ Mct), .ref Mk, .ref Ml, .ref Mb, .ref Mh, .ref Mc, .int (iZ Mdr), .int (iZ Mrs), .ref Mz, .ref Mr, .ref Mq, .int (iZ Mit), .int (iZ Mmk)])), (Ma, .inl (k 1, 5340, .inl Af))] → va_S A s.heap H locs → lv_has ls 3 [(2, .int (iZ v2_4)), (1, .int (iZ v1_4)), (0, .ref hm)] → W p l e (rj 1 0 0) s m [.ref hm].toArray below meth c H locs 0 0 (MQ below (QW (σ := ((Int × Int) × (Int64) × (Unit) × (Unit))) (fun u => some (.int (iZ u.1.1))) (fun _ => True) (fun u => [(hm, .inr (12, [.ref Ma, .ref Mn, .int (iZ u.1.2), .long Mtp, .long Mbt, .ref Ms, .ref My, .ref Mt, .ref Mp, .ref Mx, .int (iZ Mtd), .int (iZ Msz), .int (iZ Mtk), .int (iZ Mfr), .int (iZ Men), .int (iZ Mva), .int (iZ Mfk), .int (iZ Mfp), .int (iZ Mfs), .int (iZ Mse), .int (iZ Mlt), .ref Mo, .int (iZ Mdp), .int (iZ Mct), .ref Mk, .ref Ml, .ref Mb, .ref Mh, .ref Mc, .int (iZ Mdr), .int (iZ Mrs), .ref Mz, .ref Mr, .ref Mq, .int (iZ Mit), .int (iZ Mmk)])), (Ma, .inl (k 1, 5340, .inl Af))]) D A) [.ref hm].toArray s 0 0 A) (F0 m 4 ls []) := by
    intro fu
    induction fu with
    | zero => intro v1_4 v2_4 H locs ls hμ4 hi4 hP hD hS hl; exact absurd hμ4 (by omega)
    | succ fu ih4 =>
      intro v1_4 v2_4 H locs ls hμ4 hi4 hP hD hS hl
      refine lv_iload_n hx hb dX12_uniform_4 rfl (lv_at hl 0 rfl) ?_
      refine lv_aload_n hx hb dX12_uniform_5 rfl (lv_at hl 2 rfl) ?_
      refine va_get (D := D) (ci := 12) (v := .ref Ma) (C := RX12) (T := TX12) (N := 36) hx hb hts iX12 hown hK hP 0 rfl rfl 0 (bl rfl) (hts _ qf_X12_7) (fun _ h => h) rfl dX12_uniform_6 ?_
      refine lv_iconst (v := iZ 3) hx hb dX12_uniform_9 rfl ?_
      refine va_iald hx hb hK hP 1 1 rfl rfl (zin (e := 3) (n := 5340) ⟨by omega, by omega⟩ (bl rfl)) dX12_uniform_10 ?_
      refine lv_topi (fun x_1 ex_1 => ?_)
      obtain rfl : x_1 = iZ (gz Af 3) := ex_1.trans (gz_eq ⟨by omega, by omega⟩)
      have h_2 := gz_rg Af 3
      refine lv_icmp_gt (tgt := 62) hx hb dX12_uniform_11 rfl (fun c_3 => ?_) (fun c_3 => ?_)
      ·
        have c_3 := (zlt (x := iZ (gz Af 3)) (y := iZ v2_4) rfl rfl (gz_rg Af 3) ⟨by omega, by omega⟩).mp c_3
        refine lv_aload_n hx hb dX12_uniform_62 rfl (lv_at hl 2 rfl) ?_
        refine lv_iload_n hx hb dX12_uniform_63 rfl (lv_at hl 1 rfl) ?_
        refine CWV (As := [.int (iZ v1_4)]) (rest := []) (wc := _) (wr := [(Ma, .inl (k 1, 5340, .inl Af))]) hx hb hml hown hts hKK hP hD hS hA (m_gives l D k hm Ma Mn Ms My Mt Mp Mx Mo Mk Ml Mb Mh Mc Mz Mr Mq Mst Mtd Msz Mtk Mfr Men Mva Mfk Mfp Mfs Mse Mlt Mdp Mct Mdr Mrs Mit Mmk Mtp Mbt v1_4) ci_X12_gives qm_X12_85 ⟨Nat.le_of_ble_eq_true rfl, Nat.le_of_ble_eq_true rfl⟩ ⟨Nat.le_of_ble_eq_true rfl, Nat.le_of_ble_eq_true rfl⟩ [0] [1] rfl rfl rfl rfl rfl (dj rfl) 0 rfl rfl rfl hl.1 rfl (Nat.le_of_ble_eq_true rfl) dX12_uniform_64 (fun u_4 H locs hφ hP hD hS => ?_)
        refine W.eq (g2 := F0 m 67 ls [.int (iZ v1_4)]) rfl ?_
        exact EWi hx hb hr hlocks hS ((v1_4, 0), 0, (), ()) rfl trivial (hP.sub [1, 0] rfl) (hD.sub [1, 0] rfl rfl) dX12_uniform_67
      ·
        have c_3 := mt (zlt (x := iZ (gz Af 3)) (y := iZ v2_4) rfl rfl (gz_rg Af 3) ⟨by omega, by omega⟩).mpr c_3
        refine lv_iload_n hx hb dX12_uniform_14 rfl (lv_at hl 1 rfl) ?_
        refine lv_aload_n hx hb dX12_uniform_15 rfl (lv_at hl 2 rfl) ?_
        refine va_get (D := D) (ci := 12) (v := .ref Ma) (C := RX12) (T := TX12) (N := 36) hx hb hts iX12 hown hK hP 0 rfl rfl 0 (bl rfl) (hts _ qf_X12_7) (fun _ h => h) rfl dX12_uniform_16 ?_
        refine lv_bipush (v := iZ 118) hx hb dX12_uniform_19 bip_118 ?_
        refine lv_iload_n hx hb dX12_uniform_21 rfl (lv_at hl 0 rfl) ?_
        refine lv_iadd hx hb dX12_uniform_22 ?_
        refine lv_topi (fun x_5 ex_5 => ?_)
        obtain rfl : x_5 = iZ (118 + v2_4) := ex_5.trans (iZ_add 118 v2_4)
        refine va_iald hx hb hK hP 1 1 rfl rfl (zin (e := (118 + v2_4)) (n := 5340) ⟨by omega, by omega⟩ (bl rfl)) dX12_uniform_23 ?_
        refine lv_topi (fun x_6 ex_6 => ?_)
        obtain rfl : x_6 = iZ (gz Af (118 + v2_4)) := ex_6.trans (gz_eq ⟨by omega, by omega⟩)
        have h_7 := gz_rg Af (118 + v2_4)
        refine lv_if_eq (tgt := 49) hx hb dX12_uniform_24 rfl (fun c_8 => ?_) (fun c_8 => ?_)
        ·
          have c_8 := (zeq (x := iZ (gz Af (118 + v2_4))) (y := iZ 0) rfl rfl (gz_rg Af (118 + v2_4)) wn_0).mp c_8
          refine lv_iconst (v := iZ 1) hx hb dX12_uniform_49 rfl ?_
          refine lv_goto (tgt := 54) hx hb dX12_uniform_50 rfl ?_
          refine lv_iadd hx hb dX12_uniform_54 ?_
          refine lv_topi (fun x_9 ex_9 => ?_)
          obtain rfl : x_9 = iZ (v1_4 + 1) := ex_9.trans (iZ_add v1_4 1)
          refine lv_istore_n (lv' := [(1, .int (iZ (v1_4 + 1))), (2, .int (iZ v2_4)), (0, .ref hm)]) hx hb dX12_uniform_55 rfl hl (bl rfl) rfl (fun ls hl => ?_)
          refine lv_iinc (v := iZ (v2_4 + 1)) (lv' := [(2, .int (iZ (v2_4 + 1))), (1, .int (iZ (v1_4 + 1))), (0, .ref hm)]) hx hb dX12_uniform_56 hl (k := 1) rfl (iZ_add v2_4 1) (by decide) rfl (fun ls hl => ?_)
          refine lv_goto (tgt := 4) hx hb dX12_uniform_59 rfl ?_
          exact ih4  (v1_4 + 1) (v2_4 + 1) _ _ _ (by omega) (show (0 ≤ (v2_4 + 1) ∧ (v2_4 + 1) ≤ (gz Af 3) + 1) from ⟨by omega, by omega⟩) (hP.sub [0, 1] rfl) (hD.sub [0, 1] rfl rfl) hS (lv_sub hl [0, 1, 2] rfl)
        ·
          have c_8 := mt (zeq (x := iZ (gz Af (118 + v2_4))) (y := iZ 0) rfl rfl (gz_rg Af (118 + v2_4)) wn_0).mpr c_8
          refine lv_aload_n hx hb dX12_uniform_27 rfl (lv_at hl 2 rfl) ?_
          refine va_get (D := D) (ci := 12) (v := .ref Ma) (C := RX12) (T := TX12) (N := 36) hx hb hts iX12 hown hK hP 0 rfl rfl 0 (bl rfl) (hts _ qf_X12_7) (fun _ h => h) rfl dX12_uniform_28 ?_
          refine lv_bipush (v := iZ 118) hx hb dX12_uniform_31 bip_118 ?_
          refine lv_iload_n hx hb dX12_uniform_33 rfl (lv_at hl 0 rfl) ?_
          refine lv_iadd hx hb dX12_uniform_34 ?_
          refine lv_topi (fun x_10 ex_10 => ?_)
          obtain rfl : x_10 = iZ (118 + v2_4) := ex_10.trans (iZ_add 118 v2_4)
          refine va_iald hx hb hK hP 1 1 rfl rfl (zin (e := (118 + v2_4)) (n := 5340) ⟨by omega, by omega⟩ (bl rfl)) dX12_uniform_35 ?_
          refine lv_topi (fun x_11 ex_11 => ?_)
          obtain rfl : x_11 = iZ (gz Af (118 + v2_4)) := ex_11.trans (gz_eq ⟨by omega, by omega⟩)
          have h_12 := gz_rg Af (118 + v2_4)
          refine lv_iconst (v := iZ 1) hx hb dX12_uniform_36 rfl ?_
          refine lv_aload_n hx hb dX12_uniform_37 rfl (lv_at hl 2 rfl) ?_
          refine va_get (D := D) (ci := 12) (v := .ref Ma) (C := RX12) (T := TX12) (N := 36) hx hb hts iX12 hown hK hP 0 rfl rfl 0 (bl rfl) (hts _ qf_X12_7) (fun _ h => h) rfl dX12_uniform_38 ?_
          refine lv_iconst (v := iZ 0) hx hb dX12_uniform_41 rfl ?_
          refine va_iald hx hb hK hP 1 1 rfl rfl (zin (e := 0) (n := 5340) ⟨by omega, by omega⟩ (bl rfl)) dX12_uniform_42 ?_
          refine lv_topi (fun x_13 ex_13 => ?_)
          obtain rfl : x_13 = iZ (gz Af 0) := ex_13.trans (gz_eq ⟨by omega, by omega⟩)
          have h_14 := gz_rg Af 0
          refine lv_ishl hx hb dX12_uniform_43 ?_
          refine lv_topi (fun x_16 ex_16 => ?_)
          obtain ⟨z_15, hz_15, hz_15a, hz_15b⟩ := i32_z x_16
          subst hz_15
          refine lv_iconst (v := iZ 1) hx hb dX12_uniform_44 rfl ?_
          refine lv_isub hx hb dX12_uniform_45 ?_
          refine lv_topi (fun x_18 ex_18 => ?_)
          obtain ⟨z_17, hz_17, hz_17a, hz_17b⟩ := i32_z x_18
          subst hz_17
          refine lv_icmp_ne (tgt := 53) hx hb dX12_uniform_46 rfl (fun c_19 => ?_) (fun c_19 => ?_)
          ·
            have c_19 := mt (zeq (x := iZ (gz Af (118 + v2_4))) (y := iZ z_17) rfl rfl (gz_rg Af (118 + v2_4)) ⟨by omega, by omega⟩).mpr c_19
            refine lv_iconst (v := iZ 0) hx hb dX12_uniform_53 rfl ?_
            refine lv_iadd hx hb dX12_uniform_54 ?_
            refine lv_topi (fun x_20 ex_20 => ?_)
            obtain rfl : x_20 = iZ (v1_4 + 0) := ex_20.trans (iZ_add v1_4 0)
            refine lv_istore_n (lv' := [(1, .int (iZ (v1_4 + 0))), (2, .int (iZ v2_4)), (0, .ref hm)]) hx hb dX12_uniform_55 rfl hl (bl rfl) rfl (fun ls hl => ?_)
            refine lv_iinc (v := iZ (v2_4 + 1)) (lv' := [(2, .int (iZ (v2_4 + 1))), (1, .int (iZ (v1_4 + 0))), (0, .ref hm)]) hx hb dX12_uniform_56 hl (k := 1) rfl (iZ_add v2_4 1) (by decide) rfl (fun ls hl => ?_)
            refine lv_goto (tgt := 4) hx hb dX12_uniform_59 rfl ?_
            exact ih4  (v1_4 + 0) (v2_4 + 1) _ _ _ (by omega) (show (0 ≤ (v2_4 + 1) ∧ (v2_4 + 1) ≤ (gz Af 3) + 1) from ⟨by omega, by omega⟩) (hP.sub [0, 1] rfl) (hD.sub [0, 1] rfl rfl) hS (lv_sub hl [0, 1, 2] rfl)
          ·
            have c_19 := (zeq (x := iZ (gz Af (118 + v2_4))) (y := iZ z_17) rfl rfl (gz_rg Af (118 + v2_4)) ⟨by omega, by omega⟩).mp c_19
            refine lv_iconst (v := iZ 1) hx hb dX12_uniform_49 rfl ?_
            refine lv_goto (tgt := 54) hx hb dX12_uniform_50 rfl ?_
            refine lv_iadd hx hb dX12_uniform_54 ?_
            refine lv_topi (fun x_21 ex_21 => ?_)
            obtain rfl : x_21 = iZ (v1_4 + 1) := ex_21.trans (iZ_add v1_4 1)
            refine lv_istore_n (lv' := [(1, .int (iZ (v1_4 + 1))), (2, .int (iZ v2_4)), (0, .ref hm)]) hx hb dX12_uniform_55 rfl hl (bl rfl) rfl (fun ls hl => ?_)
            refine lv_iinc (v := iZ (v2_4 + 1)) (lv' := [(2, .int (iZ (v2_4 + 1))), (1, .int (iZ (v1_4 + 1))), (0, .ref hm)]) hx hb dX12_uniform_56 hl (k := 1) rfl (iZ_add v2_4 1) (by decide) rfl (fun ls hl => ?_)
            refine lv_goto (tgt := 4) hx hb dX12_uniform_59 rfl ?_
            exact ih4  (v1_4 + 1) (v2_4 + 1) _ _ _ (by omega) (show (0 ≤ (v2_4 + 1) ∧ (v2_4 + 1) ≤ (gz Af 3) + 1) from ⟨by omega, by omega⟩) (hP.sub [0, 1] rfl) (hD.sub [0, 1] rfl rfl) hS (lv_sub hl [0, 1, 2] rfl)
  exact HL4 404 0 0 _ _ _ (by omega) (show (0 ≤ 0 ∧ 0 ≤ (gz Af 3) + 1) from ⟨by omega, by omega⟩) (hP.sub [0, 1] rfl) (hD.sub [0, 1] rfl rfl) hS (lv_sub hl [0, 1, 2] rfl)
set_option maxHeartbeats 4000000 in
set_option maxRecDepth 100000 in
theorem q_changes (l : Launch) (D : va_G) (k : Nat → ClassId) (hm : Nat) (Ma : Nat) (Mn : Nat) (Ms : Nat) (My : Nat) (Mt : Nat) (Mp : Nat) (Mx : Nat) (Mo : Nat) (Mk : Nat) (Ml : Nat) (Mb : Nat) (Mh : Nat) (Mc : Nat) (Mz : Nat) (Mr : Nat) (Mq : Nat) (Mst : Int) (Mtd : Int) (Msz : Int) (Mtk : Int) (Mfr : Int) (Men : Int) (Mva : Int) (Mfk : Int) (Mfp : Int) (Mfs : Int) (Mse : Int) (Mlt : Int) (Mdp : Int) (Mct : Int) (Mdr : Int) (Mrs : Int) (Mit : Int) (Mmk : Int) (Mtp : Int64) (Mbt : Int64) (Af : Nat → Int32) (x1 : Int) (hM : M0 Af) (h9x1 : -2147483648 ≤ x1 ∧ x1 < 2147483648) : WD (σ := ((Int × Int) × (Int64) × (Unit) × (Unit))) l yX12_changes cX12_changes 4 (some .int) 1 0 0 D k [.ref hm, .int (iZ x1)] [(hm, .inr (12, [.ref Ma, .ref Mn, .int (iZ Mst), .long Mtp, .long Mbt, .ref Ms, .ref My, .ref Mt, .ref Mp, .ref Mx, .int (iZ Mtd), .int (iZ Msz), .int (iZ Mtk), .int (iZ Mfr), .int (iZ Men), .int (iZ Mva), .int (iZ Mfk), .int (iZ Mfp), .int (iZ Mfs), .int (iZ Mse), .int (iZ Mlt), .ref Mo, .int (iZ Mdp), .int (iZ Mct), .ref Mk, .ref Ml, .ref Mb, .ref Mh, .ref Mc, .int (iZ Mdr), .int (iZ Mrs), .ref Mz, .ref Mr, .ref Mq, .int (iZ Mit), .int (iZ Mmk)])), (Ma, .inl (k 1, 5340, .inl Af))] (fun u => some (.int (iZ u.1.1))) (fun _ => True) (fun u => [(hm, .inr (12, [.ref Ma, .ref Mn, .int (iZ u.1.2), .long Mtp, .long Mbt, .ref Ms, .ref My, .ref Mt, .ref Mp, .ref Mx, .int (iZ Mtd), .int (iZ Msz), .int (iZ Mtk), .int (iZ Mfr), .int (iZ Men), .int (iZ Mva), .int (iZ Mfk), .int (iZ Mfp), .int (iZ Mfs), .int (iZ Mse), .int (iZ Mlt), .ref Mo, .int (iZ Mdp), .int (iZ Mct), .ref Mk, .ref Ml, .ref Mb, .ref Mh, .ref Mc, .int (iZ Mdr), .int (iZ Mrs), .ref Mz, .ref Mr, .ref Mq, .int (iZ Mit), .int (iZ Mmk)])), (Ma, .inl (k 1, 5340, .inl Af))]) := by
  refine MW (by decide) (Nat.le_of_ble_eq_true rfl) (fun p e s m below meth c ls A hx hb hml hr hlocks hin hts hown hKK hP hD hS hA hl => ?_)
  have hK := hKK.1
  have hl : lv_has ls 4 [(0, .ref hm), (1, .int (iZ x1))] := hl
  obtain ⟨m0, m1, m3, m4, m5, mF, mO, mS⟩ := id hM
  refine lv_aload_n hx hb dX12_changes_0 rfl (lv_at hl 0 rfl) ?_
  refine lv_iload_n hx hb dX12_changes_1 rfl (lv_at hl 1 rfl) ?_
  refine CPV (As := [.int (iZ x1)]) (rest := []) hx hb hml hown hts hKK hP (m_isRock l D k ([.ref Ma, .ref Mn, .int (iZ Mst), .long Mtp, .long Mbt, .ref Ms, .ref My, .ref Mt, .ref Mp, .ref Mx, .int (iZ Mtd), .int (iZ Msz), .int (iZ Mtk), .int (iZ Mfr), .int (iZ Men), .int (iZ Mva), .int (iZ Mfk), .int (iZ Mfp), .int (iZ Mfs), .int (iZ Mse), .int (iZ Mlt), .ref Mo, .int (iZ Mdp), .int (iZ Mct), .ref Mk, .ref Ml, .ref Mb, .ref Mh, .ref Mc, .int (iZ Mdr), .int (iZ Mrs), .ref Mz, .ref Mr, .ref Mq, .int (iZ Mit), .int (iZ Mmk)]) hm Ma Af x1 rfl hM ⟨by omega, by omega⟩) ci_X12_isRock qm_X12_243 ⟨Nat.le_of_ble_eq_true rfl, Nat.le_of_ble_eq_true rfl⟩ ⟨Nat.le_of_ble_eq_true rfl, Nat.le_of_ble_eq_true rfl⟩ 0 rfl rfl rfl hl.1 rfl (Nat.le_of_ble_eq_true rfl) dX12_changes_2 (fun z_1 hz_1 => ?_)
  rcases hz_1 with ⟨qz_1, hz_1⟩ | ⟨qz_1, hz_1⟩
  ·
    subst qz_1
    refine lv_if_ne (tgt := 14) hx hb dX12_changes_5 rfl (fun _ => ?_) (fun c => absurd c (by decide))
    refine lv_iconst (v := iZ 0) hx hb dX12_changes_14 rfl ?_
    refine lv_istore_n (lv' := [(2, .int (iZ 0)), (0, .ref hm), (1, .int (iZ x1))]) hx hb dX12_changes_15 rfl hl (bl rfl) rfl (fun ls hl => ?_)
    refine lv_iconst (v := iZ 1) hx hb dX12_changes_16 rfl ?_
    refine lv_istore_n (lv' := [(3, .int (iZ 1)), (2, .int (iZ 0)), (0, .ref hm), (1, .int (iZ x1))]) hx hb dX12_changes_17 rfl hl (bl rfl) rfl (fun ls hl => ?_)
    have HL18 : ∀ (fu : Nat) (v2_18 : Int) (v3_18 : Int) (H : Heap) (locs : List Loc) (ls : Array Slot), ((gz Af 3) + 2 - v3_18) < (fu : Int) → ((1 ≤ v3_18 ∧ v3_18 ≤ (gz Af 3) + 1)) → va_P D vwCl [(hm, .inr (12, [.ref Ma, .ref Mn, .int (iZ Mst), .long Mtp, .long Mbt, .ref Ms, .ref My, .ref Mt, .ref Mp, .ref Mx, .int (iZ Mtd), .int (iZ Msz), .int (iZ Mtk), .int (iZ Mfr), .int (iZ Men), .int (iZ Mva), .int (iZ Mfk), .int (iZ Mfp), .int (iZ Mfs), .int (iZ Mse), .int (iZ Mlt), .ref Mo, .int (iZ Mdp), .int (iZ Mct), .ref Mk, .ref Ml, .ref Mb, .ref Mh, .ref Mc, .int (iZ Mdr), .int (iZ Mrs), .ref Mz, .ref Mr, .ref Mq, .int (iZ Mit), .int (iZ Mmk)])), (Ma, .inl (k 1, 5340, .inl Af))] H → va_D A [(hm, .inr (12, [.ref Ma, .ref Mn, .int (iZ Mst), .long Mtp, .long Mbt, .ref Ms, .ref My, .ref Mt, .ref Mp, .ref Mx, .int (iZ Mtd), .int (iZ Msz), .int (iZ Mtk), .int (iZ Mfr), .int (iZ Men), .int (iZ Mva), .int (iZ Mfk), .int (iZ Mfp), .int (iZ Mfs), .int (iZ Mse), .int (iZ Mlt), .ref Mo, .int (iZ Mdp), .int (iZ Mct), .ref Mk, .ref Ml, .ref Mb, .ref Mh, .ref Mc, .int (iZ Mdr), .int (iZ Mrs), .ref Mz, .ref Mr, .ref Mq, .int (iZ Mit), .int (iZ Mmk)])), (Ma, .inl (k 1, 5340, .inl Af))] → va_S A s.heap H locs → lv_has ls 4 [(3, .int (iZ v3_18)), (2, .int (iZ v2_18)), (0, .ref hm), (1, .int (iZ x1))] → W p l e (rj 1 0 0) s m [.ref hm, .int (iZ x1)].toArray below meth c H locs 0 0 (MQ below (QW (σ := ((Int × Int) × (Int64) × (Unit) × (Unit))) (fun u => some (.int (iZ u.1.1))) (fun _ => True) (fun u => [(hm, .inr (12, [.ref Ma, .ref Mn, .int (iZ u.1.2), .long Mtp, .long Mbt, .ref Ms, .ref My, .ref Mt, .ref Mp, .ref Mx, .int (iZ Mtd), .int (iZ Msz), .int (iZ Mtk), .int (iZ Mfr), .int (iZ Men), .int (iZ Mva), .int (iZ Mfk), .int (iZ Mfp), .int (iZ Mfs), .int (iZ Mse), .int (iZ Mlt), .ref Mo, .int (iZ Mdp), .int (iZ Mct), .ref Mk, .ref Ml, .ref Mb, .ref Mh, .ref Mc, .int (iZ Mdr), .int (iZ Mrs), .ref Mz, .ref Mr, .ref Mq, .int (iZ Mit), .int (iZ Mmk)])), (Ma, .inl (k 1, 5340, .inl Af))]) D A) [.ref hm, .int (iZ x1)].toArray s 0 0 A) (F0 m 18 ls []) := by
      intro fu
      induction fu with
      | zero => intro v2_18 v3_18 H locs ls hμ18 hi18 hP hD hS hl; exact absurd hμ18 (by omega)
      | succ fu ih18 =>
        intro v2_18 v3_18 H locs ls hμ18 hi18 hP hD hS hl
        refine lv_iload_n hx hb dX12_changes_18 rfl (lv_at hl 0 rfl) ?_
        refine lv_aload_n hx hb dX12_changes_19 rfl (lv_at hl 2 rfl) ?_
        refine va_get (D := D) (ci := 12) (v := .ref Ma) (C := RX12) (T := TX12) (N := 36) hx hb hts iX12 hown hK hP 0 rfl rfl 0 (bl rfl) (hts _ qf_X12_7) (fun _ h => h) rfl dX12_changes_20 ?_
        refine lv_iconst (v := iZ 3) hx hb dX12_changes_23 rfl ?_
        refine va_iald hx hb hK hP 1 1 rfl rfl (zin (e := 3) (n := 5340) ⟨by omega, by omega⟩ (bl rfl)) dX12_changes_24 ?_
        refine lv_topi (fun x_3 ex_3 => ?_)
        obtain rfl : x_3 = iZ (gz Af 3) := ex_3.trans (gz_eq ⟨by omega, by omega⟩)
        have h_4 := gz_rg Af 3
        refine lv_icmp_gt (tgt := 59) hx hb dX12_changes_25 rfl (fun c_5 => ?_) (fun c_5 => ?_)
        ·
          have c_5 := (zlt (x := iZ (gz Af 3)) (y := iZ v3_18) rfl rfl (gz_rg Af 3) ⟨by omega, by omega⟩).mp c_5
          refine lv_aload_n hx hb dX12_changes_59 rfl (lv_at hl 2 rfl) ?_
          refine lv_iload_n hx hb dX12_changes_60 rfl (lv_at hl 1 rfl) ?_
          refine CWV (As := [.int (iZ v2_18)]) (rest := []) (wc := _) (wr := [(Ma, .inl (k 1, 5340, .inl Af))]) hx hb hml hown hts hKK hP hD hS hA (m_gives l D k hm Ma Mn Ms My Mt Mp Mx Mo Mk Ml Mb Mh Mc Mz Mr Mq Mst Mtd Msz Mtk Mfr Men Mva Mfk Mfp Mfs Mse Mlt Mdp Mct Mdr Mrs Mit Mmk Mtp Mbt v2_18) ci_X12_gives qm_X12_85 ⟨Nat.le_of_ble_eq_true rfl, Nat.le_of_ble_eq_true rfl⟩ ⟨Nat.le_of_ble_eq_true rfl, Nat.le_of_ble_eq_true rfl⟩ [0] [1] rfl rfl rfl rfl rfl (dj rfl) 0 rfl rfl rfl hl.1 rfl (Nat.le_of_ble_eq_true rfl) dX12_changes_61 (fun u_6 H locs hφ hP hD hS => ?_)
          refine W.eq (g2 := F0 m 64 ls [.int (iZ v2_18)]) rfl ?_
          exact EWi hx hb hr hlocks hS ((v2_18, 0), 0, (), ()) rfl trivial (hP.sub [1, 0] rfl) (hD.sub [1, 0] rfl rfl) dX12_changes_64
        ·
          have c_5 := mt (zlt (x := iZ (gz Af 3)) (y := iZ v3_18) rfl rfl (gz_rg Af 3) ⟨by omega, by omega⟩).mpr c_5
          refine lv_iload_n hx hb dX12_changes_28 rfl (lv_at hl 1 rfl) ?_
          refine lv_aload_n hx hb dX12_changes_29 rfl (lv_at hl 2 rfl) ?_
          refine lv_iload_n hx hb dX12_changes_30 rfl (lv_at hl 3 rfl) ?_
          refine lv_iload_n hx hb dX12_changes_31 rfl (lv_at hl 0 rfl) ?_
          refine CPV (As := [.int (iZ x1), .int (iZ v3_18)]) (rest := [.int (iZ v2_18)]) hx hb hml hown hts hKK hP (m_wore l D k ([.ref Ma, .ref Mn, .int (iZ Mst), .long Mtp, .long Mbt, .ref Ms, .ref My, .ref Mt, .ref Mp, .ref Mx, .int (iZ Mtd), .int (iZ Msz), .int (iZ Mtk), .int (iZ Mfr), .int (iZ Men), .int (iZ Mva), .int (iZ Mfk), .int (iZ Mfp), .int (iZ Mfs), .int (iZ Mse), .int (iZ Mlt), .ref Mo, .int (iZ Mdp), .int (iZ Mct), .ref Mk, .ref Ml, .ref Mb, .ref Mh, .ref Mc, .int (iZ Mdr), .int (iZ Mrs), .ref Mz, .ref Mr, .ref Mq, .int (iZ Mit), .int (iZ Mmk)]) hm Ma Af x1 v3_18 rfl hM ⟨by omega, by omega⟩) ci_X12_woreIn qm_X12_363 ⟨Nat.le_of_ble_eq_true rfl, Nat.le_of_ble_eq_true rfl⟩ ⟨Nat.le_of_ble_eq_true rfl, Nat.le_of_ble_eq_true rfl⟩ 0 rfl rfl rfl hl.1 rfl (Nat.le_of_ble_eq_true rfl) dX12_changes_32 (fun z_7 hz_7 => ?_)
          have hbz_7 := hz_7.2
          refine lv_aload_n hx hb dX12_changes_35 rfl (lv_at hl 2 rfl) ?_
          refine lv_iload_n hx hb dX12_changes_36 rfl (lv_at hl 3 rfl) ?_
          refine lv_iload_n hx hb dX12_changes_37 rfl (lv_at hl 0 rfl) ?_
          refine lv_iconst (v := iZ 1) hx hb dX12_changes_38 rfl ?_
          refine lv_isub hx hb dX12_changes_39 ?_
          refine lv_topi (fun x_8 ex_8 => ?_)
          obtain rfl : x_8 = iZ (v3_18 - 1) := ex_8.trans (iZ_sub v3_18 1)
          refine CPV (As := [.int (iZ x1), .int (iZ (v3_18 - 1))]) (rest := [.int (iZ z_7), .int (iZ v2_18)]) hx hb hml hown hts hKK hP (m_wore l D k ([.ref Ma, .ref Mn, .int (iZ Mst), .long Mtp, .long Mbt, .ref Ms, .ref My, .ref Mt, .ref Mp, .ref Mx, .int (iZ Mtd), .int (iZ Msz), .int (iZ Mtk), .int (iZ Mfr), .int (iZ Men), .int (iZ Mva), .int (iZ Mfk), .int (iZ Mfp), .int (iZ Mfs), .int (iZ Mse), .int (iZ Mlt), .ref Mo, .int (iZ Mdp), .int (iZ Mct), .ref Mk, .ref Ml, .ref Mb, .ref Mh, .ref Mc, .int (iZ Mdr), .int (iZ Mrs), .ref Mz, .ref Mr, .ref Mq, .int (iZ Mit), .int (iZ Mmk)]) hm Ma Af x1 (v3_18 - 1) rfl hM ⟨by omega, by omega⟩) ci_X12_woreIn qm_X12_363 ⟨Nat.le_of_ble_eq_true rfl, Nat.le_of_ble_eq_true rfl⟩ ⟨Nat.le_of_ble_eq_true rfl, Nat.le_of_ble_eq_true rfl⟩ 0 rfl rfl rfl hl.1 rfl (Nat.le_of_ble_eq_true rfl) dX12_changes_40 (fun z_9 hz_9 => ?_)
          have hbz_9 := hz_9.2
          refine lv_icmp_ne (tgt := 50) hx hb dX12_changes_43 rfl (fun c_10 => ?_) (fun c_10 => ?_)
          ·
            have c_10 := mt (zeq (x := iZ z_7) (y := iZ z_9) rfl rfl ⟨by omega, by omega⟩ ⟨by omega, by omega⟩).mpr c_10
            refine lv_iconst (v := iZ 1) hx hb dX12_changes_50 rfl ?_
            refine lv_iadd hx hb dX12_changes_51 ?_
            refine lv_topi (fun x_11 ex_11 => ?_)
            obtain rfl : x_11 = iZ (v2_18 + 1) := ex_11.trans (iZ_add v2_18 1)
            refine lv_istore_n (lv' := [(2, .int (iZ (v2_18 + 1))), (3, .int (iZ v3_18)), (0, .ref hm), (1, .int (iZ x1))]) hx hb dX12_changes_52 rfl hl (bl rfl) rfl (fun ls hl => ?_)
            refine lv_iinc (v := iZ (v3_18 + 1)) (lv' := [(3, .int (iZ (v3_18 + 1))), (2, .int (iZ (v2_18 + 1))), (0, .ref hm), (1, .int (iZ x1))]) hx hb dX12_changes_53 hl (k := 1) rfl (iZ_add v3_18 1) (by decide) rfl (fun ls hl => ?_)
            refine lv_goto (tgt := 18) hx hb dX12_changes_56 rfl ?_
            exact ih18  (v2_18 + 1) (v3_18 + 1) _ _ _ (by omega) (show (1 ≤ (v3_18 + 1) ∧ (v3_18 + 1) ≤ (gz Af 3) + 1) from ⟨by omega, by omega⟩) (hP.sub [0, 1] rfl) (hD.sub [0, 1] rfl rfl) hS (lv_sub hl [0, 1, 2, 3] rfl)
          ·
            have c_10 := (zeq (x := iZ z_7) (y := iZ z_9) rfl rfl ⟨by omega, by omega⟩ ⟨by omega, by omega⟩).mp c_10
            refine lv_iconst (v := iZ 0) hx hb dX12_changes_46 rfl ?_
            refine lv_goto (tgt := 51) hx hb dX12_changes_47 rfl ?_
            refine lv_iadd hx hb dX12_changes_51 ?_
            refine lv_topi (fun x_12 ex_12 => ?_)
            obtain rfl : x_12 = iZ (v2_18 + 0) := ex_12.trans (iZ_add v2_18 0)
            refine lv_istore_n (lv' := [(2, .int (iZ (v2_18 + 0))), (3, .int (iZ v3_18)), (0, .ref hm), (1, .int (iZ x1))]) hx hb dX12_changes_52 rfl hl (bl rfl) rfl (fun ls hl => ?_)
            refine lv_iinc (v := iZ (v3_18 + 1)) (lv' := [(3, .int (iZ (v3_18 + 1))), (2, .int (iZ (v2_18 + 0))), (0, .ref hm), (1, .int (iZ x1))]) hx hb dX12_changes_53 hl (k := 1) rfl (iZ_add v3_18 1) (by decide) rfl (fun ls hl => ?_)
            refine lv_goto (tgt := 18) hx hb dX12_changes_56 rfl ?_
            exact ih18  (v2_18 + 0) (v3_18 + 1) _ _ _ (by omega) (show (1 ≤ (v3_18 + 1) ∧ (v3_18 + 1) ≤ (gz Af 3) + 1) from ⟨by omega, by omega⟩) (hP.sub [0, 1] rfl) (hD.sub [0, 1] rfl rfl) hS (lv_sub hl [0, 1, 2, 3] rfl)
    exact HL18 404 0 1 _ _ _ (by omega) (show (1 ≤ 1 ∧ 1 ≤ (gz Af 3) + 1) from ⟨by omega, by omega⟩) (hP.sub [0, 1] rfl) (hD.sub [0, 1] rfl rfl) hS (lv_sub hl [0, 1, 2, 3] rfl)
  ·
    subst qz_1
    refine lv_if_ne (tgt := 14) hx hb dX12_changes_5 rfl (fun c => absurd (by decide) c) (fun _ => ?_)
    refine lv_aload_n hx hb dX12_changes_8 rfl (lv_at hl 0 rfl) ?_
    refine lv_iconst (v := iZ 1) hx hb dX12_changes_9 rfl ?_
    refine CWV (As := [.int (iZ 1)]) (rest := []) (wc := _) (wr := [(Ma, .inl (k 1, 5340, .inl Af))]) hx hb hml hown hts hKK hP hD hS hA (m_refuse l D k hm Ma Mn Ms My Mt Mp Mx Mo Mk Ml Mb Mh Mc Mz Mr Mq Mst Mtd Msz Mtk Mfr Men Mva Mfk Mfp Mfs Mse Mlt Mdp Mct Mdr Mrs Mit Mmk Mtp Mbt 1) ci_X12_refuse qm_X12_81 ⟨Nat.le_of_ble_eq_true rfl, Nat.le_of_ble_eq_true rfl⟩ ⟨Nat.le_of_ble_eq_true rfl, Nat.le_of_ble_eq_true rfl⟩ [0] [1] rfl rfl rfl rfl rfl (dj rfl) 0 rfl rfl rfl hl.1 rfl (Nat.le_of_ble_eq_true rfl) dX12_changes_10 (fun u_14 H locs hφ hP hD hS => ?_)
    refine W.eq (g2 := F0 m 13 ls [.int (iZ (-1))]) rfl ?_
    exact EWi hx hb hr hlocks hS (((-1), 1), 0, (), ()) rfl trivial (hP.sub [1, 0] rfl) (hD.sub [1, 0] rfl rfl) dX12_changes_13
end
