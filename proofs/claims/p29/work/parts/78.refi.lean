section
theorem qc_X12_fashionSeen : Cond.code yX12_fashionSeen cX12_fashionSeen 5 (some .int) ∈ gw := tbt (tb8 (List.mem_of_getElem? (i := 199) rfl)) rfl
theorem qi_yX12_fashionSeen : Cond.instanceMethod yX12_fashionSeen ∈ gw := tbt (tb8 (List.mem_of_getElem? (i := 198) rfl)) rfl
theorem qs_X12_fashionSeen : Cond.selects (yX12_fashionSeen).cls yX12_fashionSeen yX12_fashionSeen ∈ gw := tb0 (List.mem_of_getElem? (i := 95) rfl) rfl
theorem ci_X12_fashionSeen : CIv yX12_fashionSeen cX12_fashionSeen 5 (some .int) 3 := ⟨qc_X12_fashionSeen, qi_yX12_fashionSeen, qs_X12_fashionSeen, qz_X12, by decide +kernel⟩
theorem qm_X12_366 : Cond.methodLink RX12 366 yX12_fashionSeen ∈ gw := tbt (tb8 (List.mem_of_getElem? (i := 196) rfl)) rfl
theorem qf_X12_380 : Cond.fieldLink RX12 380 "SlowWorldsModel" "drawn" "I" ∈ gw := tbt (tb6 (List.mem_of_getElem? (i := 73) rfl)) rfl
theorem qk_X12_383 : Cond.constant RX12 383 (65536) ∈ gw := tbt (tb9 (List.mem_of_getElem? (i := 17) rfl)) rfl
def fb_X12_bits_0 : List UInt8 := [0x03, 0x3c, 0x1a, 0x3d, 0x1c, 0x99, 0x00, 0x0f, 0x84, 0x01, 0x01, 0x1c, 0x1c, 0x04, 0x64, 0x7e, 0x3d, 0xa7, 0xff, 0xf3, 0x1b, 0xac]
theorem fl_X12_bits_0 {p j : Nat} {b : UInt8} (e : p = 0 + j) (h : fb_X12_bits_0[j]? = some b) : cX12_bits.data.toList[p]? = some b := fq_l (n := 64) (show (cX12_bits.data.toList.drop 0).take 64 = fb_X12_bits_0 by decide +kernel) e h
theorem dX12_bits_0 : decode cX12_bits 0 = .ok (.iconst 0, 1) := fq1_3 (fl_X12_bits_0 (j := 0) rfl rfl)
theorem dX12_bits_1 : decode cX12_bits 1 = .ok (.istore_n 1, 1) := fq1_60 (fl_X12_bits_0 (j := 1) rfl rfl)
theorem dX12_bits_2 : decode cX12_bits 2 = .ok (.iload_n 0, 1) := fq1_26 (fl_X12_bits_0 (j := 2) rfl rfl)
theorem dX12_bits_3 : decode cX12_bits 3 = .ok (.istore_n 2, 1) := fq1_61 (fl_X12_bits_0 (j := 3) rfl rfl)
theorem dX12_bits_4 : decode cX12_bits 4 = .ok (.iload_n 2, 1) := fq1_28 (fl_X12_bits_0 (j := 4) rfl rfl)
theorem dX12_bits_5 : decode cX12_bits 5 = .ok (.ifCond .eq 15, 3) := fq3_153 (fl_X12_bits_0 (j := 5) rfl rfl) (fl_X12_bits_0 (j := 6) rfl rfl) (fl_X12_bits_0 (j := 7) rfl rfl) (s2p rfl (bl rfl))
theorem dX12_bits_8 : decode cX12_bits 8 = .ok (.iinc 1 1, 3) := fq3_132 (fl_X12_bits_0 (j := 8) rfl rfl) (fl_X12_bits_0 (j := 9) rfl rfl) (fl_X12_bits_0 (j := 10) rfl rfl) rfl (s1p rfl (bl rfl))
theorem dX12_bits_11 : decode cX12_bits 11 = .ok (.iload_n 2, 1) := fq1_28 (fl_X12_bits_0 (j := 11) rfl rfl)
theorem dX12_bits_12 : decode cX12_bits 12 = .ok (.iload_n 2, 1) := fq1_28 (fl_X12_bits_0 (j := 12) rfl rfl)
theorem dX12_bits_13 : decode cX12_bits 13 = .ok (.iconst 1, 1) := fq1_4 (fl_X12_bits_0 (j := 13) rfl rfl)
theorem dX12_bits_14 : decode cX12_bits 14 = .ok (.isub, 1) := fq1_100 (fl_X12_bits_0 (j := 14) rfl rfl)
theorem dX12_bits_15 : decode cX12_bits 15 = .ok (.iand, 1) := fq1_126 (fl_X12_bits_0 (j := 15) rfl rfl)
theorem dX12_bits_16 : decode cX12_bits 16 = .ok (.istore_n 2, 1) := fq1_61 (fl_X12_bits_0 (j := 16) rfl rfl)
theorem dX12_bits_17 : decode cX12_bits 17 = .ok (.goto (-13), 3) := fq3_167 (fl_X12_bits_0 (j := 17) rfl rfl) (fl_X12_bits_0 (j := 18) rfl rfl) (fl_X12_bits_0 (j := 19) rfl rfl) (by decide)
theorem dX12_bits_20 : decode cX12_bits 20 = .ok (.iload_n 1, 1) := fq1_27 (fl_X12_bits_0 (j := 20) rfl rfl)
theorem dX12_bits_21 : decode cX12_bits 21 = .ok (.ireturn, 1) := fq1_172 (fl_X12_bits_0 (j := 21) rfl rfl)
def fb_X12_draw_0 : List UInt8 := [0x2a, 0x2a, 0xb4, 0x01, 0x7c, 0x11, 0x0b, 0x4d, 0x68, 0x11, 0x2b, 0x55, 0x60, 0x13, 0x01, 0x7f, 0x70, 0xb5, 0x01, 0x7c, 0x2a, 0xb4, 0x01, 0x7c, 0x10, 0x08, 0x6c, 0x10, 0x10, 0x70, 0xac]
theorem fl_X12_draw_0 {p j : Nat} {b : UInt8} (e : p = 0 + j) (h : fb_X12_draw_0[j]? = some b) : cX12_draw.data.toList[p]? = some b := fq_l (n := 64) (show (cX12_draw.data.toList.drop 0).take 64 = fb_X12_draw_0 by decide +kernel) e h
theorem dX12_draw_0 : decode cX12_draw 0 = .ok (.aload_n 0, 1) := fq1_42 (fl_X12_draw_0 (j := 0) rfl rfl)
theorem dX12_draw_1 : decode cX12_draw 1 = .ok (.aload_n 0, 1) := fq1_42 (fl_X12_draw_0 (j := 1) rfl rfl)
theorem dX12_draw_2 : decode cX12_draw 2 = .ok (.getfield 380, 3) := fq3_180 (fl_X12_draw_0 (j := 2) rfl rfl) (fl_X12_draw_0 (j := 3) rfl rfl) (fl_X12_draw_0 (j := 4) rfl rfl) rfl
theorem dX12_draw_5 : decode cX12_draw 5 = .ok (.sipush 2893, 3) := fq3_17 (fl_X12_draw_0 (j := 5) rfl rfl) (fl_X12_draw_0 (j := 6) rfl rfl) (fl_X12_draw_0 (j := 7) rfl rfl) (s2p rfl (bl rfl))
theorem dX12_draw_8 : decode cX12_draw 8 = .ok (.imul, 1) := fq1_104 (fl_X12_draw_0 (j := 8) rfl rfl)
theorem dX12_draw_9 : decode cX12_draw 9 = .ok (.sipush 11093, 3) := fq3_17 (fl_X12_draw_0 (j := 9) rfl rfl) (fl_X12_draw_0 (j := 10) rfl rfl) (fl_X12_draw_0 (j := 11) rfl rfl) (s2p rfl (bl rfl))
theorem dX12_draw_12 : decode cX12_draw 12 = .ok (.iadd, 1) := fq1_96 (fl_X12_draw_0 (j := 12) rfl rfl)
theorem dX12_draw_13 : decode cX12_draw 13 = .ok (.ldc_w 383, 3) := fq3_19 (fl_X12_draw_0 (j := 13) rfl rfl) (fl_X12_draw_0 (j := 14) rfl rfl) (fl_X12_draw_0 (j := 15) rfl rfl) rfl
theorem dX12_draw_16 : decode cX12_draw 16 = .ok (.irem, 1) := fq1_112 (fl_X12_draw_0 (j := 16) rfl rfl)
theorem dX12_draw_17 : decode cX12_draw 17 = .ok (.putfield 380, 3) := fq3_181 (fl_X12_draw_0 (j := 17) rfl rfl) (fl_X12_draw_0 (j := 18) rfl rfl) (fl_X12_draw_0 (j := 19) rfl rfl) rfl
theorem dX12_draw_20 : decode cX12_draw 20 = .ok (.aload_n 0, 1) := fq1_42 (fl_X12_draw_0 (j := 20) rfl rfl)
theorem dX12_draw_21 : decode cX12_draw 21 = .ok (.getfield 380, 3) := fq3_180 (fl_X12_draw_0 (j := 21) rfl rfl) (fl_X12_draw_0 (j := 22) rfl rfl) (fl_X12_draw_0 (j := 23) rfl rfl) rfl
theorem dX12_draw_24 : decode cX12_draw 24 = .ok (.bipush 8, 2) := fq2_16 (fl_X12_draw_0 (j := 24) rfl rfl) (fl_X12_draw_0 (j := 25) rfl rfl) (s1p rfl (bl rfl))
theorem dX12_draw_26 : decode cX12_draw 26 = .ok (.idiv, 1) := fq1_108 (fl_X12_draw_0 (j := 26) rfl rfl)
theorem dX12_draw_27 : decode cX12_draw 27 = .ok (.bipush 16, 2) := fq2_16 (fl_X12_draw_0 (j := 27) rfl rfl) (fl_X12_draw_0 (j := 28) rfl rfl) (s1p rfl (bl rfl))
theorem dX12_draw_29 : decode cX12_draw 29 = .ok (.irem, 1) := fq1_112 (fl_X12_draw_0 (j := 29) rfl rfl)
theorem dX12_draw_30 : decode cX12_draw 30 = .ok (.ireturn, 1) := fq1_172 (fl_X12_draw_0 (j := 30) rfl rfl)
def fb_X12_goes_0 : List UInt8 := [0x2a, 0xb4, 0x00, 0x07, 0x06, 0x2e, 0x11, 0x01, 0x90, 0xa0, 0x00, 0x05, 0x03, 0xac, 0x2a, 0xb4, 0x00, 0x07, 0x06, 0x2e, 0x04, 0x60, 0x3c, 0x03, 0x3d, 0x03, 0x3e, 0x1d, 0x2a, 0xb4, 0x00, 0x07, 0x03, 0x2e, 0xa2, 0x00, 0x6f, 0x03, 0x36, 0x04, 0x03, 0x36, 0x05, 0x15, 0x05, 0x2a, 0xb4, 0x00, 0x07, 0x03, 0x2e, 0xa2, 0x00, 0x36, 0x15, 0x05, 0x1d, 0xa0, 0x00, 0x07, 0x02, 0xa7, 0x00, 0x0b]
theorem fl_X12_goes_0 {p j : Nat} {b : UInt8} (e : p = 0 + j) (h : fb_X12_goes_0[j]? = some b) : cX12_goes.data.toList[p]? = some b := fq_l (n := 64) (show (cX12_goes.data.toList.drop 0).take 64 = fb_X12_goes_0 by decide +kernel) e h
theorem dX12_goes_0 : decode cX12_goes 0 = .ok (.aload_n 0, 1) := fq1_42 (fl_X12_goes_0 (j := 0) rfl rfl)
theorem dX12_goes_1 : decode cX12_goes 1 = .ok (.getfield 7, 3) := fq3_180 (fl_X12_goes_0 (j := 1) rfl rfl) (fl_X12_goes_0 (j := 2) rfl rfl) (fl_X12_goes_0 (j := 3) rfl rfl) rfl
theorem dX12_goes_4 : decode cX12_goes 4 = .ok (.iconst 3, 1) := fq1_6 (fl_X12_goes_0 (j := 4) rfl rfl)
theorem dX12_goes_5 : decode cX12_goes 5 = .ok (.iaload, 1) := fq1_46 (fl_X12_goes_0 (j := 5) rfl rfl)
theorem dX12_goes_6 : decode cX12_goes 6 = .ok (.sipush 400, 3) := fq3_17 (fl_X12_goes_0 (j := 6) rfl rfl) (fl_X12_goes_0 (j := 7) rfl rfl) (fl_X12_goes_0 (j := 8) rfl rfl) (s2p rfl (bl rfl))
theorem dX12_goes_9 : decode cX12_goes 9 = .ok (.if_icmp .ne 5, 3) := fq3_160 (fl_X12_goes_0 (j := 9) rfl rfl) (fl_X12_goes_0 (j := 10) rfl rfl) (fl_X12_goes_0 (j := 11) rfl rfl) (s2p rfl (bl rfl))
theorem dX12_goes_12 : decode cX12_goes 12 = .ok (.iconst 0, 1) := fq1_3 (fl_X12_goes_0 (j := 12) rfl rfl)
theorem dX12_goes_13 : decode cX12_goes 13 = .ok (.ireturn, 1) := fq1_172 (fl_X12_goes_0 (j := 13) rfl rfl)
theorem dX12_goes_14 : decode cX12_goes 14 = .ok (.aload_n 0, 1) := fq1_42 (fl_X12_goes_0 (j := 14) rfl rfl)
theorem dX12_goes_15 : decode cX12_goes 15 = .ok (.getfield 7, 3) := fq3_180 (fl_X12_goes_0 (j := 15) rfl rfl) (fl_X12_goes_0 (j := 16) rfl rfl) (fl_X12_goes_0 (j := 17) rfl rfl) rfl
theorem dX12_goes_18 : decode cX12_goes 18 = .ok (.iconst 3, 1) := fq1_6 (fl_X12_goes_0 (j := 18) rfl rfl)
theorem dX12_goes_19 : decode cX12_goes 19 = .ok (.iaload, 1) := fq1_46 (fl_X12_goes_0 (j := 19) rfl rfl)
theorem dX12_goes_20 : decode cX12_goes 20 = .ok (.iconst 1, 1) := fq1_4 (fl_X12_goes_0 (j := 20) rfl rfl)
theorem dX12_goes_21 : decode cX12_goes 21 = .ok (.iadd, 1) := fq1_96 (fl_X12_goes_0 (j := 21) rfl rfl)
theorem dX12_goes_22 : decode cX12_goes 22 = .ok (.istore_n 1, 1) := fq1_60 (fl_X12_goes_0 (j := 22) rfl rfl)
theorem dX12_goes_23 : decode cX12_goes 23 = .ok (.iconst 0, 1) := fq1_3 (fl_X12_goes_0 (j := 23) rfl rfl)
theorem dX12_goes_24 : decode cX12_goes 24 = .ok (.istore_n 2, 1) := fq1_61 (fl_X12_goes_0 (j := 24) rfl rfl)
theorem dX12_goes_25 : decode cX12_goes 25 = .ok (.iconst 0, 1) := fq1_3 (fl_X12_goes_0 (j := 25) rfl rfl)
theorem dX12_goes_26 : decode cX12_goes 26 = .ok (.istore_n 3, 1) := fq1_62 (fl_X12_goes_0 (j := 26) rfl rfl)
theorem dX12_goes_27 : decode cX12_goes 27 = .ok (.iload_n 3, 1) := fq1_29 (fl_X12_goes_0 (j := 27) rfl rfl)
theorem dX12_goes_28 : decode cX12_goes 28 = .ok (.aload_n 0, 1) := fq1_42 (fl_X12_goes_0 (j := 28) rfl rfl)
theorem dX12_goes_29 : decode cX12_goes 29 = .ok (.getfield 7, 3) := fq3_180 (fl_X12_goes_0 (j := 29) rfl rfl) (fl_X12_goes_0 (j := 30) rfl rfl) (fl_X12_goes_0 (j := 31) rfl rfl) rfl
theorem dX12_goes_32 : decode cX12_goes 32 = .ok (.iconst 0, 1) := fq1_3 (fl_X12_goes_0 (j := 32) rfl rfl)
theorem dX12_goes_33 : decode cX12_goes 33 = .ok (.iaload, 1) := fq1_46 (fl_X12_goes_0 (j := 33) rfl rfl)
theorem dX12_goes_34 : decode cX12_goes 34 = .ok (.if_icmp .ge 111, 3) := fq3_162 (fl_X12_goes_0 (j := 34) rfl rfl) (fl_X12_goes_0 (j := 35) rfl rfl) (fl_X12_goes_0 (j := 36) rfl rfl) (s2p rfl (bl rfl))
theorem dX12_goes_37 : decode cX12_goes 37 = .ok (.iconst 0, 1) := fq1_3 (fl_X12_goes_0 (j := 37) rfl rfl)
theorem dX12_goes_38 : decode cX12_goes 38 = .ok (.istore 4, 2) := fq2_54 (fl_X12_goes_0 (j := 38) rfl rfl) (fl_X12_goes_0 (j := 39) rfl rfl) rfl
theorem dX12_goes_40 : decode cX12_goes 40 = .ok (.iconst 0, 1) := fq1_3 (fl_X12_goes_0 (j := 40) rfl rfl)
theorem dX12_goes_41 : decode cX12_goes 41 = .ok (.istore 5, 2) := fq2_54 (fl_X12_goes_0 (j := 41) rfl rfl) (fl_X12_goes_0 (j := 42) rfl rfl) rfl
theorem dX12_goes_43 : decode cX12_goes 43 = .ok (.iload 5, 2) := fq2_21 (fl_X12_goes_0 (j := 43) rfl rfl) (fl_X12_goes_0 (j := 44) rfl rfl) rfl
theorem dX12_goes_45 : decode cX12_goes 45 = .ok (.aload_n 0, 1) := fq1_42 (fl_X12_goes_0 (j := 45) rfl rfl)
theorem dX12_goes_46 : decode cX12_goes 46 = .ok (.getfield 7, 3) := fq3_180 (fl_X12_goes_0 (j := 46) rfl rfl) (fl_X12_goes_0 (j := 47) rfl rfl) (fl_X12_goes_0 (j := 48) rfl rfl) rfl
theorem dX12_goes_49 : decode cX12_goes 49 = .ok (.iconst 0, 1) := fq1_3 (fl_X12_goes_0 (j := 49) rfl rfl)
theorem dX12_goes_50 : decode cX12_goes 50 = .ok (.iaload, 1) := fq1_46 (fl_X12_goes_0 (j := 50) rfl rfl)
theorem dX12_goes_51 : decode cX12_goes 51 = .ok (.if_icmp .ge 54, 3) := fq3_162 (fl_X12_goes_0 (j := 51) rfl rfl) (fl_X12_goes_0 (j := 52) rfl rfl) (fl_X12_goes_0 (j := 53) rfl rfl) (s2p rfl (bl rfl))
theorem dX12_goes_54 : decode cX12_goes 54 = .ok (.iload 5, 2) := fq2_21 (fl_X12_goes_0 (j := 54) rfl rfl) (fl_X12_goes_0 (j := 55) rfl rfl) rfl
theorem dX12_goes_56 : decode cX12_goes 56 = .ok (.iload_n 3, 1) := fq1_29 (fl_X12_goes_0 (j := 56) rfl rfl)
theorem dX12_goes_57 : decode cX12_goes 57 = .ok (.if_icmp .ne 7, 3) := fq3_160 (fl_X12_goes_0 (j := 57) rfl rfl) (fl_X12_goes_0 (j := 58) rfl rfl) (fl_X12_goes_0 (j := 59) rfl rfl) (s2p rfl (bl rfl))
theorem dX12_goes_60 : decode cX12_goes 60 = .ok (.iconst (-1), 1) := fq1_2 (fl_X12_goes_0 (j := 60) rfl rfl)
theorem dX12_goes_61 : decode cX12_goes 61 = .ok (.goto 11, 3) := fq3_167 (fl_X12_goes_0 (j := 61) rfl rfl) (fl_X12_goes_0 (j := 62) rfl rfl) (fl_X12_goes_0 (j := 63) rfl rfl) (s2p rfl (bl rfl))
def fb_X12_goes_1 : List UInt8 := [0x2a, 0x1d, 0x15, 0x05, 0x1b, 0xb6, 0x01, 0x6e, 0x36, 0x06, 0x15, 0x04, 0x15, 0x06, 0x04, 0xa0, 0x00, 0x07, 0x04, 0xa7, 0x00, 0x0d, 0x15, 0x06, 0x9a, 0x00, 0x07, 0x02, 0xa7, 0x00, 0x04, 0x03, 0x60, 0x36, 0x04, 0x84, 0x05, 0x01, 0xa7, 0xff, 0xc5, 0x1c, 0x15, 0x04, 0x9e, 0x00, 0x07, 0x04, 0xa7, 0x00, 0x17, 0x15, 0x04, 0x9c, 0x00, 0x07, 0x03, 0xa7, 0x00, 0x0e, 0x2a, 0x1d, 0x2a, 0xb4]
theorem fl_X12_goes_1 {p j : Nat} {b : UInt8} (e : p = 64 + j) (h : fb_X12_goes_1[j]? = some b) : cX12_goes.data.toList[p]? = some b := fq_l (n := 64) (show (cX12_goes.data.toList.drop 64).take 64 = fb_X12_goes_1 by decide +kernel) e h
theorem dX12_goes_64 : decode cX12_goes 64 = .ok (.aload_n 0, 1) := fq1_42 (fl_X12_goes_1 (j := 0) rfl rfl)
theorem dX12_goes_65 : decode cX12_goes 65 = .ok (.iload_n 3, 1) := fq1_29 (fl_X12_goes_1 (j := 1) rfl rfl)
theorem dX12_goes_66 : decode cX12_goes 66 = .ok (.iload 5, 2) := fq2_21 (fl_X12_goes_1 (j := 2) rfl rfl) (fl_X12_goes_1 (j := 3) rfl rfl) rfl
theorem dX12_goes_68 : decode cX12_goes 68 = .ok (.iload_n 1, 1) := fq1_27 (fl_X12_goes_1 (j := 4) rfl rfl)
theorem dX12_goes_69 : decode cX12_goes 69 = .ok (.invokevirtual 366, 3) := fq3_182 (fl_X12_goes_1 (j := 5) rfl rfl) (fl_X12_goes_1 (j := 6) rfl rfl) (fl_X12_goes_1 (j := 7) rfl rfl) rfl
theorem dX12_goes_72 : decode cX12_goes 72 = .ok (.istore 6, 2) := fq2_54 (fl_X12_goes_1 (j := 8) rfl rfl) (fl_X12_goes_1 (j := 9) rfl rfl) rfl
theorem dX12_goes_74 : decode cX12_goes 74 = .ok (.iload 4, 2) := fq2_21 (fl_X12_goes_1 (j := 10) rfl rfl) (fl_X12_goes_1 (j := 11) rfl rfl) rfl
theorem dX12_goes_76 : decode cX12_goes 76 = .ok (.iload 6, 2) := fq2_21 (fl_X12_goes_1 (j := 12) rfl rfl) (fl_X12_goes_1 (j := 13) rfl rfl) rfl
theorem dX12_goes_78 : decode cX12_goes 78 = .ok (.iconst 1, 1) := fq1_4 (fl_X12_goes_1 (j := 14) rfl rfl)
theorem dX12_goes_79 : decode cX12_goes 79 = .ok (.if_icmp .ne 7, 3) := fq3_160 (fl_X12_goes_1 (j := 15) rfl rfl) (fl_X12_goes_1 (j := 16) rfl rfl) (fl_X12_goes_1 (j := 17) rfl rfl) (s2p rfl (bl rfl))
theorem dX12_goes_82 : decode cX12_goes 82 = .ok (.iconst 1, 1) := fq1_4 (fl_X12_goes_1 (j := 18) rfl rfl)
theorem dX12_goes_83 : decode cX12_goes 83 = .ok (.goto 13, 3) := fq3_167 (fl_X12_goes_1 (j := 19) rfl rfl) (fl_X12_goes_1 (j := 20) rfl rfl) (fl_X12_goes_1 (j := 21) rfl rfl) (s2p rfl (bl rfl))
theorem dX12_goes_86 : decode cX12_goes 86 = .ok (.iload 6, 2) := fq2_21 (fl_X12_goes_1 (j := 22) rfl rfl) (fl_X12_goes_1 (j := 23) rfl rfl) rfl
theorem dX12_goes_88 : decode cX12_goes 88 = .ok (.ifCond .ne 7, 3) := fq3_154 (fl_X12_goes_1 (j := 24) rfl rfl) (fl_X12_goes_1 (j := 25) rfl rfl) (fl_X12_goes_1 (j := 26) rfl rfl) (s2p rfl (bl rfl))
theorem dX12_goes_91 : decode cX12_goes 91 = .ok (.iconst (-1), 1) := fq1_2 (fl_X12_goes_1 (j := 27) rfl rfl)
theorem dX12_goes_92 : decode cX12_goes 92 = .ok (.goto 4, 3) := fq3_167 (fl_X12_goes_1 (j := 28) rfl rfl) (fl_X12_goes_1 (j := 29) rfl rfl) (fl_X12_goes_1 (j := 30) rfl rfl) (s2p rfl (bl rfl))
theorem dX12_goes_95 : decode cX12_goes 95 = .ok (.iconst 0, 1) := fq1_3 (fl_X12_goes_1 (j := 31) rfl rfl)
theorem dX12_goes_96 : decode cX12_goes 96 = .ok (.iadd, 1) := fq1_96 (fl_X12_goes_1 (j := 32) rfl rfl)
theorem dX12_goes_97 : decode cX12_goes 97 = .ok (.istore 4, 2) := fq2_54 (fl_X12_goes_1 (j := 33) rfl rfl) (fl_X12_goes_1 (j := 34) rfl rfl) rfl
theorem dX12_goes_99 : decode cX12_goes 99 = .ok (.iinc 5 1, 3) := fq3_132 (fl_X12_goes_1 (j := 35) rfl rfl) (fl_X12_goes_1 (j := 36) rfl rfl) (fl_X12_goes_1 (j := 37) rfl rfl) rfl (s1p rfl (bl rfl))
theorem dX12_goes_102 : decode cX12_goes 102 = .ok (.goto (-59), 3) := fq3_167 (fl_X12_goes_1 (j := 38) rfl rfl) (fl_X12_goes_1 (j := 39) rfl rfl) (fl_X12_goes_1 (j := 40) rfl rfl) (by decide)
theorem dX12_goes_105 : decode cX12_goes 105 = .ok (.iload_n 2, 1) := fq1_28 (fl_X12_goes_1 (j := 41) rfl rfl)
theorem dX12_goes_106 : decode cX12_goes 106 = .ok (.iload 4, 2) := fq2_21 (fl_X12_goes_1 (j := 42) rfl rfl) (fl_X12_goes_1 (j := 43) rfl rfl) rfl
theorem dX12_goes_108 : decode cX12_goes 108 = .ok (.ifCond .le 7, 3) := fq3_158 (fl_X12_goes_1 (j := 44) rfl rfl) (fl_X12_goes_1 (j := 45) rfl rfl) (fl_X12_goes_1 (j := 46) rfl rfl) (s2p rfl (bl rfl))
theorem dX12_goes_111 : decode cX12_goes 111 = .ok (.iconst 1, 1) := fq1_4 (fl_X12_goes_1 (j := 47) rfl rfl)
theorem dX12_goes_112 : decode cX12_goes 112 = .ok (.goto 23, 3) := fq3_167 (fl_X12_goes_1 (j := 48) rfl rfl) (fl_X12_goes_1 (j := 49) rfl rfl) (fl_X12_goes_1 (j := 50) rfl rfl) (s2p rfl (bl rfl))
theorem dX12_goes_115 : decode cX12_goes 115 = .ok (.iload 4, 2) := fq2_21 (fl_X12_goes_1 (j := 51) rfl rfl) (fl_X12_goes_1 (j := 52) rfl rfl) rfl
theorem dX12_goes_117 : decode cX12_goes 117 = .ok (.ifCond .ge 7, 3) := fq3_156 (fl_X12_goes_1 (j := 53) rfl rfl) (fl_X12_goes_1 (j := 54) rfl rfl) (fl_X12_goes_1 (j := 55) rfl rfl) (s2p rfl (bl rfl))
theorem dX12_goes_120 : decode cX12_goes 120 = .ok (.iconst 0, 1) := fq1_3 (fl_X12_goes_1 (j := 56) rfl rfl)
theorem dX12_goes_121 : decode cX12_goes 121 = .ok (.goto 14, 3) := fq3_167 (fl_X12_goes_1 (j := 57) rfl rfl) (fl_X12_goes_1 (j := 58) rfl rfl) (fl_X12_goes_1 (j := 59) rfl rfl) (s2p rfl (bl rfl))
theorem dX12_goes_124 : decode cX12_goes 124 = .ok (.aload_n 0, 1) := fq1_42 (fl_X12_goes_1 (j := 60) rfl rfl)
theorem dX12_goes_125 : decode cX12_goes 125 = .ok (.iload_n 3, 1) := fq1_29 (fl_X12_goes_1 (j := 61) rfl rfl)
theorem dX12_goes_126 : decode cX12_goes 126 = .ok (.aload_n 0, 1) := fq1_42 (fl_X12_goes_1 (j := 62) rfl rfl)
def fb_X12_goes_2 : List UInt8 := [0x00, 0x07, 0x06, 0x2e, 0xb6, 0x01, 0x6b, 0x1d, 0x78, 0x80, 0x3d, 0x84, 0x03, 0x01, 0xa7, 0xff, 0x8d, 0x2a, 0xb4, 0x00, 0x07, 0x10, 0x76, 0x1b, 0x60, 0x1c, 0x4f, 0x2a, 0xb4, 0x00, 0x07, 0x06, 0x1b, 0x4f, 0x04, 0xac]
theorem fl_X12_goes_2 {p j : Nat} {b : UInt8} (e : p = 128 + j) (h : fb_X12_goes_2[j]? = some b) : cX12_goes.data.toList[p]? = some b := fq_l (n := 64) (show (cX12_goes.data.toList.drop 128).take 64 = fb_X12_goes_2 by decide +kernel) e h
theorem dX12_goes_127 : decode cX12_goes 127 = .ok (.getfield 7, 3) := fq3_180 (fl_X12_goes_1 (j := 63) rfl rfl) (fl_X12_goes_2 (j := 0) rfl rfl) (fl_X12_goes_2 (j := 1) rfl rfl) rfl
theorem dX12_goes_130 : decode cX12_goes 130 = .ok (.iconst 3, 1) := fq1_6 (fl_X12_goes_2 (j := 2) rfl rfl)
theorem dX12_goes_131 : decode cX12_goes 131 = .ok (.iaload, 1) := fq1_46 (fl_X12_goes_2 (j := 3) rfl rfl)
theorem dX12_goes_132 : decode cX12_goes 132 = .ok (.invokevirtual 363, 3) := fq3_182 (fl_X12_goes_2 (j := 4) rfl rfl) (fl_X12_goes_2 (j := 5) rfl rfl) (fl_X12_goes_2 (j := 6) rfl rfl) rfl
theorem dX12_goes_135 : decode cX12_goes 135 = .ok (.iload_n 3, 1) := fq1_29 (fl_X12_goes_2 (j := 7) rfl rfl)
theorem dX12_goes_136 : decode cX12_goes 136 = .ok (.ishl, 1) := fq1_120 (fl_X12_goes_2 (j := 8) rfl rfl)
theorem dX12_goes_137 : decode cX12_goes 137 = .ok (.ior, 1) := fq1_128 (fl_X12_goes_2 (j := 9) rfl rfl)
theorem dX12_goes_138 : decode cX12_goes 138 = .ok (.istore_n 2, 1) := fq1_61 (fl_X12_goes_2 (j := 10) rfl rfl)
theorem dX12_goes_139 : decode cX12_goes 139 = .ok (.iinc 3 1, 3) := fq3_132 (fl_X12_goes_2 (j := 11) rfl rfl) (fl_X12_goes_2 (j := 12) rfl rfl) (fl_X12_goes_2 (j := 13) rfl rfl) rfl (s1p rfl (bl rfl))
theorem dX12_goes_142 : decode cX12_goes 142 = .ok (.goto (-115), 3) := fq3_167 (fl_X12_goes_2 (j := 14) rfl rfl) (fl_X12_goes_2 (j := 15) rfl rfl) (fl_X12_goes_2 (j := 16) rfl rfl) (by decide)
theorem dX12_goes_145 : decode cX12_goes 145 = .ok (.aload_n 0, 1) := fq1_42 (fl_X12_goes_2 (j := 17) rfl rfl)
theorem dX12_goes_146 : decode cX12_goes 146 = .ok (.getfield 7, 3) := fq3_180 (fl_X12_goes_2 (j := 18) rfl rfl) (fl_X12_goes_2 (j := 19) rfl rfl) (fl_X12_goes_2 (j := 20) rfl rfl) rfl
theorem dX12_goes_149 : decode cX12_goes 149 = .ok (.bipush 118, 2) := fq2_16 (fl_X12_goes_2 (j := 21) rfl rfl) (fl_X12_goes_2 (j := 22) rfl rfl) (s1p rfl (bl rfl))
theorem dX12_goes_151 : decode cX12_goes 151 = .ok (.iload_n 1, 1) := fq1_27 (fl_X12_goes_2 (j := 23) rfl rfl)
theorem dX12_goes_152 : decode cX12_goes 152 = .ok (.iadd, 1) := fq1_96 (fl_X12_goes_2 (j := 24) rfl rfl)
theorem dX12_goes_153 : decode cX12_goes 153 = .ok (.iload_n 2, 1) := fq1_28 (fl_X12_goes_2 (j := 25) rfl rfl)
theorem dX12_goes_154 : decode cX12_goes 154 = .ok (.iastore, 1) := fq1_79 (fl_X12_goes_2 (j := 26) rfl rfl)
theorem dX12_goes_155 : decode cX12_goes 155 = .ok (.aload_n 0, 1) := fq1_42 (fl_X12_goes_2 (j := 27) rfl rfl)
theorem dX12_goes_156 : decode cX12_goes 156 = .ok (.getfield 7, 3) := fq3_180 (fl_X12_goes_2 (j := 28) rfl rfl) (fl_X12_goes_2 (j := 29) rfl rfl) (fl_X12_goes_2 (j := 30) rfl rfl) rfl
theorem dX12_goes_159 : decode cX12_goes 159 = .ok (.iconst 3, 1) := fq1_6 (fl_X12_goes_2 (j := 31) rfl rfl)
theorem dX12_goes_160 : decode cX12_goes 160 = .ok (.iload_n 1, 1) := fq1_27 (fl_X12_goes_2 (j := 32) rfl rfl)
theorem dX12_goes_161 : decode cX12_goes 161 = .ok (.iastore, 1) := fq1_79 (fl_X12_goes_2 (j := 33) rfl rfl)
theorem dX12_goes_162 : decode cX12_goes 162 = .ok (.iconst 1, 1) := fq1_4 (fl_X12_goes_2 (j := 34) rfl rfl)
theorem dX12_goes_163 : decode cX12_goes 163 = .ok (.ireturn, 1) := fq1_172 (fl_X12_goes_2 (j := 35) rfl rfl)
def fb_X12_orders_0 : List UInt8 := [0x2a, 0xb4, 0x00, 0x07, 0x07, 0x2e, 0x10, 0x14, 0xa0, 0x00, 0x05, 0x03, 0xac, 0x2a, 0xb4, 0x00, 0x07, 0x2a, 0xb4, 0x00, 0x07, 0x07, 0x2e, 0xb8, 0x01, 0x3b, 0x1b, 0x4f, 0x2a, 0xb4, 0x00, 0x07, 0x2a, 0xb4, 0x00, 0x07, 0x07, 0x2e, 0xb8, 0x01, 0x3b, 0x04, 0x60, 0x2a, 0xb4, 0x00, 0x07, 0x06, 0x2e, 0x4f, 0x2a, 0xb4, 0x00, 0x07, 0x07, 0x5c, 0x2e, 0x04, 0x60, 0x4f, 0x04, 0xac]
theorem fl_X12_orders_0 {p j : Nat} {b : UInt8} (e : p = 0 + j) (h : fb_X12_orders_0[j]? = some b) : cX12_orders.data.toList[p]? = some b := fq_l (n := 64) (show (cX12_orders.data.toList.drop 0).take 64 = fb_X12_orders_0 by decide +kernel) e h
theorem dX12_orders_0 : decode cX12_orders 0 = .ok (.aload_n 0, 1) := fq1_42 (fl_X12_orders_0 (j := 0) rfl rfl)
theorem dX12_orders_1 : decode cX12_orders 1 = .ok (.getfield 7, 3) := fq3_180 (fl_X12_orders_0 (j := 1) rfl rfl) (fl_X12_orders_0 (j := 2) rfl rfl) (fl_X12_orders_0 (j := 3) rfl rfl) rfl
theorem dX12_orders_4 : decode cX12_orders 4 = .ok (.iconst 4, 1) := fq1_7 (fl_X12_orders_0 (j := 4) rfl rfl)
theorem dX12_orders_5 : decode cX12_orders 5 = .ok (.iaload, 1) := fq1_46 (fl_X12_orders_0 (j := 5) rfl rfl)
theorem dX12_orders_6 : decode cX12_orders 6 = .ok (.bipush 20, 2) := fq2_16 (fl_X12_orders_0 (j := 6) rfl rfl) (fl_X12_orders_0 (j := 7) rfl rfl) (s1p rfl (bl rfl))
theorem dX12_orders_8 : decode cX12_orders 8 = .ok (.if_icmp .ne 5, 3) := fq3_160 (fl_X12_orders_0 (j := 8) rfl rfl) (fl_X12_orders_0 (j := 9) rfl rfl) (fl_X12_orders_0 (j := 10) rfl rfl) (s2p rfl (bl rfl))
theorem dX12_orders_11 : decode cX12_orders 11 = .ok (.iconst 0, 1) := fq1_3 (fl_X12_orders_0 (j := 11) rfl rfl)
theorem dX12_orders_12 : decode cX12_orders 12 = .ok (.ireturn, 1) := fq1_172 (fl_X12_orders_0 (j := 12) rfl rfl)
theorem dX12_orders_13 : decode cX12_orders 13 = .ok (.aload_n 0, 1) := fq1_42 (fl_X12_orders_0 (j := 13) rfl rfl)
theorem dX12_orders_14 : decode cX12_orders 14 = .ok (.getfield 7, 3) := fq3_180 (fl_X12_orders_0 (j := 14) rfl rfl) (fl_X12_orders_0 (j := 15) rfl rfl) (fl_X12_orders_0 (j := 16) rfl rfl) rfl
theorem dX12_orders_17 : decode cX12_orders 17 = .ok (.aload_n 0, 1) := fq1_42 (fl_X12_orders_0 (j := 17) rfl rfl)
theorem dX12_orders_18 : decode cX12_orders 18 = .ok (.getfield 7, 3) := fq3_180 (fl_X12_orders_0 (j := 18) rfl rfl) (fl_X12_orders_0 (j := 19) rfl rfl) (fl_X12_orders_0 (j := 20) rfl rfl) rfl
theorem dX12_orders_21 : decode cX12_orders 21 = .ok (.iconst 4, 1) := fq1_7 (fl_X12_orders_0 (j := 21) rfl rfl)
theorem dX12_orders_22 : decode cX12_orders 22 = .ok (.iaload, 1) := fq1_46 (fl_X12_orders_0 (j := 22) rfl rfl)
theorem dX12_orders_23 : decode cX12_orders 23 = .ok (.invokestatic 315, 3) := fq3_184 (fl_X12_orders_0 (j := 23) rfl rfl) (fl_X12_orders_0 (j := 24) rfl rfl) (fl_X12_orders_0 (j := 25) rfl rfl) rfl
theorem dX12_orders_26 : decode cX12_orders 26 = .ok (.iload_n 1, 1) := fq1_27 (fl_X12_orders_0 (j := 26) rfl rfl)
theorem dX12_orders_27 : decode cX12_orders 27 = .ok (.iastore, 1) := fq1_79 (fl_X12_orders_0 (j := 27) rfl rfl)
theorem dX12_orders_28 : decode cX12_orders 28 = .ok (.aload_n 0, 1) := fq1_42 (fl_X12_orders_0 (j := 28) rfl rfl)
theorem dX12_orders_29 : decode cX12_orders 29 = .ok (.getfield 7, 3) := fq3_180 (fl_X12_orders_0 (j := 29) rfl rfl) (fl_X12_orders_0 (j := 30) rfl rfl) (fl_X12_orders_0 (j := 31) rfl rfl) rfl
theorem dX12_orders_32 : decode cX12_orders 32 = .ok (.aload_n 0, 1) := fq1_42 (fl_X12_orders_0 (j := 32) rfl rfl)
theorem dX12_orders_33 : decode cX12_orders 33 = .ok (.getfield 7, 3) := fq3_180 (fl_X12_orders_0 (j := 33) rfl rfl) (fl_X12_orders_0 (j := 34) rfl rfl) (fl_X12_orders_0 (j := 35) rfl rfl) rfl
theorem dX12_orders_36 : decode cX12_orders 36 = .ok (.iconst 4, 1) := fq1_7 (fl_X12_orders_0 (j := 36) rfl rfl)
theorem dX12_orders_37 : decode cX12_orders 37 = .ok (.iaload, 1) := fq1_46 (fl_X12_orders_0 (j := 37) rfl rfl)
theorem dX12_orders_38 : decode cX12_orders 38 = .ok (.invokestatic 315, 3) := fq3_184 (fl_X12_orders_0 (j := 38) rfl rfl) (fl_X12_orders_0 (j := 39) rfl rfl) (fl_X12_orders_0 (j := 40) rfl rfl) rfl
theorem dX12_orders_41 : decode cX12_orders 41 = .ok (.iconst 1, 1) := fq1_4 (fl_X12_orders_0 (j := 41) rfl rfl)
theorem dX12_orders_42 : decode cX12_orders 42 = .ok (.iadd, 1) := fq1_96 (fl_X12_orders_0 (j := 42) rfl rfl)
theorem dX12_orders_43 : decode cX12_orders 43 = .ok (.aload_n 0, 1) := fq1_42 (fl_X12_orders_0 (j := 43) rfl rfl)
theorem dX12_orders_44 : decode cX12_orders 44 = .ok (.getfield 7, 3) := fq3_180 (fl_X12_orders_0 (j := 44) rfl rfl) (fl_X12_orders_0 (j := 45) rfl rfl) (fl_X12_orders_0 (j := 46) rfl rfl) rfl
theorem dX12_orders_47 : decode cX12_orders 47 = .ok (.iconst 3, 1) := fq1_6 (fl_X12_orders_0 (j := 47) rfl rfl)
theorem dX12_orders_48 : decode cX12_orders 48 = .ok (.iaload, 1) := fq1_46 (fl_X12_orders_0 (j := 48) rfl rfl)
theorem dX12_orders_49 : decode cX12_orders 49 = .ok (.iastore, 1) := fq1_79 (fl_X12_orders_0 (j := 49) rfl rfl)
theorem dX12_orders_50 : decode cX12_orders 50 = .ok (.aload_n 0, 1) := fq1_42 (fl_X12_orders_0 (j := 50) rfl rfl)
theorem dX12_orders_51 : decode cX12_orders 51 = .ok (.getfield 7, 3) := fq3_180 (fl_X12_orders_0 (j := 51) rfl rfl) (fl_X12_orders_0 (j := 52) rfl rfl) (fl_X12_orders_0 (j := 53) rfl rfl) rfl
theorem dX12_orders_54 : decode cX12_orders 54 = .ok (.iconst 4, 1) := fq1_7 (fl_X12_orders_0 (j := 54) rfl rfl)
theorem dX12_orders_55 : decode cX12_orders 55 = .ok (.dup2, 1) := fq1_92 (fl_X12_orders_0 (j := 55) rfl rfl)
theorem dX12_orders_56 : decode cX12_orders 56 = .ok (.iaload, 1) := fq1_46 (fl_X12_orders_0 (j := 56) rfl rfl)
theorem dX12_orders_57 : decode cX12_orders 57 = .ok (.iconst 1, 1) := fq1_4 (fl_X12_orders_0 (j := 57) rfl rfl)
theorem dX12_orders_58 : decode cX12_orders 58 = .ok (.iadd, 1) := fq1_96 (fl_X12_orders_0 (j := 58) rfl rfl)
theorem dX12_orders_59 : decode cX12_orders 59 = .ok (.iastore, 1) := fq1_79 (fl_X12_orders_0 (j := 59) rfl rfl)
theorem dX12_orders_60 : decode cX12_orders 60 = .ok (.iconst 1, 1) := fq1_4 (fl_X12_orders_0 (j := 60) rfl rfl)
theorem dX12_orders_61 : decode cX12_orders 61 = .ok (.ireturn, 1) := fq1_172 (fl_X12_orders_0 (j := 61) rfl rfl)
def fb_X12_wears_0 : List UInt8 := [0x2a, 0xb4, 0x00, 0x07, 0x10, 0x76, 0x2a, 0xb4, 0x00, 0x07, 0x06, 0x2e, 0x60, 0x2a, 0xb4, 0x00, 0x07, 0x10, 0x76, 0x2a, 0xb4, 0x00, 0x07, 0x06, 0x2e, 0x60, 0x2e, 0x04, 0x1b, 0x78, 0x02, 0x82, 0x7e, 0x1c, 0x1b, 0x78, 0x80, 0x4f, 0xb1]
theorem fl_X12_wears_0 {p j : Nat} {b : UInt8} (e : p = 0 + j) (h : fb_X12_wears_0[j]? = some b) : cX12_wears.data.toList[p]? = some b := fq_l (n := 64) (show (cX12_wears.data.toList.drop 0).take 64 = fb_X12_wears_0 by decide +kernel) e h
theorem dX12_wears_0 : decode cX12_wears 0 = .ok (.aload_n 0, 1) := fq1_42 (fl_X12_wears_0 (j := 0) rfl rfl)
theorem dX12_wears_1 : decode cX12_wears 1 = .ok (.getfield 7, 3) := fq3_180 (fl_X12_wears_0 (j := 1) rfl rfl) (fl_X12_wears_0 (j := 2) rfl rfl) (fl_X12_wears_0 (j := 3) rfl rfl) rfl
theorem dX12_wears_4 : decode cX12_wears 4 = .ok (.bipush 118, 2) := fq2_16 (fl_X12_wears_0 (j := 4) rfl rfl) (fl_X12_wears_0 (j := 5) rfl rfl) (s1p rfl (bl rfl))
theorem dX12_wears_6 : decode cX12_wears 6 = .ok (.aload_n 0, 1) := fq1_42 (fl_X12_wears_0 (j := 6) rfl rfl)
theorem dX12_wears_7 : decode cX12_wears 7 = .ok (.getfield 7, 3) := fq3_180 (fl_X12_wears_0 (j := 7) rfl rfl) (fl_X12_wears_0 (j := 8) rfl rfl) (fl_X12_wears_0 (j := 9) rfl rfl) rfl
theorem dX12_wears_10 : decode cX12_wears 10 = .ok (.iconst 3, 1) := fq1_6 (fl_X12_wears_0 (j := 10) rfl rfl)
theorem dX12_wears_11 : decode cX12_wears 11 = .ok (.iaload, 1) := fq1_46 (fl_X12_wears_0 (j := 11) rfl rfl)
theorem dX12_wears_12 : decode cX12_wears 12 = .ok (.iadd, 1) := fq1_96 (fl_X12_wears_0 (j := 12) rfl rfl)
theorem dX12_wears_13 : decode cX12_wears 13 = .ok (.aload_n 0, 1) := fq1_42 (fl_X12_wears_0 (j := 13) rfl rfl)
theorem dX12_wears_14 : decode cX12_wears 14 = .ok (.getfield 7, 3) := fq3_180 (fl_X12_wears_0 (j := 14) rfl rfl) (fl_X12_wears_0 (j := 15) rfl rfl) (fl_X12_wears_0 (j := 16) rfl rfl) rfl
theorem dX12_wears_17 : decode cX12_wears 17 = .ok (.bipush 118, 2) := fq2_16 (fl_X12_wears_0 (j := 17) rfl rfl) (fl_X12_wears_0 (j := 18) rfl rfl) (s1p rfl (bl rfl))
theorem dX12_wears_19 : decode cX12_wears 19 = .ok (.aload_n 0, 1) := fq1_42 (fl_X12_wears_0 (j := 19) rfl rfl)
theorem dX12_wears_20 : decode cX12_wears 20 = .ok (.getfield 7, 3) := fq3_180 (fl_X12_wears_0 (j := 20) rfl rfl) (fl_X12_wears_0 (j := 21) rfl rfl) (fl_X12_wears_0 (j := 22) rfl rfl) rfl
theorem dX12_wears_23 : decode cX12_wears 23 = .ok (.iconst 3, 1) := fq1_6 (fl_X12_wears_0 (j := 23) rfl rfl)
theorem dX12_wears_24 : decode cX12_wears 24 = .ok (.iaload, 1) := fq1_46 (fl_X12_wears_0 (j := 24) rfl rfl)
theorem dX12_wears_25 : decode cX12_wears 25 = .ok (.iadd, 1) := fq1_96 (fl_X12_wears_0 (j := 25) rfl rfl)
theorem dX12_wears_26 : decode cX12_wears 26 = .ok (.iaload, 1) := fq1_46 (fl_X12_wears_0 (j := 26) rfl rfl)
theorem dX12_wears_27 : decode cX12_wears 27 = .ok (.iconst 1, 1) := fq1_4 (fl_X12_wears_0 (j := 27) rfl rfl)
theorem dX12_wears_28 : decode cX12_wears 28 = .ok (.iload_n 1, 1) := fq1_27 (fl_X12_wears_0 (j := 28) rfl rfl)
theorem dX12_wears_29 : decode cX12_wears 29 = .ok (.ishl, 1) := fq1_120 (fl_X12_wears_0 (j := 29) rfl rfl)
theorem dX12_wears_30 : decode cX12_wears 30 = .ok (.iconst (-1), 1) := fq1_2 (fl_X12_wears_0 (j := 30) rfl rfl)
theorem dX12_wears_31 : decode cX12_wears 31 = .ok (.ixor, 1) := fq1_130 (fl_X12_wears_0 (j := 31) rfl rfl)
theorem dX12_wears_32 : decode cX12_wears 32 = .ok (.iand, 1) := fq1_126 (fl_X12_wears_0 (j := 32) rfl rfl)
theorem dX12_wears_33 : decode cX12_wears 33 = .ok (.iload_n 2, 1) := fq1_28 (fl_X12_wears_0 (j := 33) rfl rfl)
theorem dX12_wears_34 : decode cX12_wears 34 = .ok (.iload_n 1, 1) := fq1_27 (fl_X12_wears_0 (j := 34) rfl rfl)
theorem dX12_wears_35 : decode cX12_wears 35 = .ok (.ishl, 1) := fq1_120 (fl_X12_wears_0 (j := 35) rfl rfl)
theorem dX12_wears_36 : decode cX12_wears 36 = .ok (.ior, 1) := fq1_128 (fl_X12_wears_0 (j := 36) rfl rfl)
theorem dX12_wears_37 : decode cX12_wears 37 = .ok (.iastore, 1) := fq1_79 (fl_X12_wears_0 (j := 37) rfl rfl)
theorem dX12_wears_38 : decode cX12_wears 38 = .ok (.return_, 1) := fq1_177 (fl_X12_wears_0 (j := 38) rfl rfl)
end

section
/-- what the course of a world leaves alone -/
def FR (g f : Nat → Int32) : Prop := (∀ e : Int, 520 ≤ e ∨ (5 ≤ e ∧ e < 78) → gz g e = gz f e) ∧ gz g 0 = gz f 0 ∧ gz g 1 = gz f 1 ∧ gz g 2 = gz f 2
theorem FR.rf (f : Nat → Int32) : FR f f := ⟨fun _ _ => rfl, rfl, rfl, rfl⟩
theorem FR.tr {h g f : Nat → Int32} (a : FR h g) (b : FR g f) : FR h f := ⟨fun e q => (a.1 e q).trans (b.1 e q), a.2.1.trans b.2.1, a.2.2.1.trans b.2.2.1, a.2.2.2.trans b.2.2.2⟩
theorem FR.z {g f : Nat → Int32} (a : FR g f) : gz g 0 = gz f 0 ∧ gz g 5 = gz f 5 := ⟨a.2.1, a.1 5 (by omega)⟩
theorem FR.up {g f : Nat → Int32} {i v : Int} (hg : g = upd f (iZ i).toNatClampNeg (iZ v)) (hi : i = 3 ∨ i = 4 ∨ (78 ≤ i ∧ i < 520)) (hv : -2147483648 ≤ v ∧ v < 2147483648) : FR g f := by
  have c := fun j hj => gz_upc (j := j) hg (by omega) hv hj
  refine ⟨fun e q => ?_, ?_, ?_, ?_⟩
  · have := c e (by omega); omega
  · have := c 0 (by omega); omega
  · have := c 1 (by omega); omega
  · have := c 2 (by omega); omega
theorem M0.like3 {f g : Nat → Int32} (h0 : ∀ e : Int, 0 ≤ e → (e < 118 ∨ 520 ≤ e) → e < 884 → ¬ e = 3 → gz g e = gz f e) (h3 : 0 ≤ gz g 3 ∧ gz g 3 ≤ 400) (hf : M0 f) : M0 g := by
  have h : ∀ e : Int, 0 ≤ e ∧ (e < 118 ∨ 520 ≤ e) → e < 884 ∧ ¬ e = 3 → gz g e = gz f e := fun e q r => h0 e q.1 q.2 r.1 r.2
  obtain ⟨a0, a1, a3, a4, a5, aF, aO, aS⟩ := hf
  refine ⟨by rw [h 0 (by omega) (by omega)]; exact a0, by rw [h 1 (by omega) (by omega)]; exact a1, h3, by rw [h 4 (by omega) (by omega)]; exact a4, by rw [h 5 (by omega) (by omega)]; exact a5, ?_, ?_, ?_⟩
  · rw [h 0 (by omega) (by omega)]
    intro r h1 h2
    have e : ∀ w : Int, 0 ≤ w → w < 6 → gz (sh g 10) ((r * 6) + w) = gz (sh f 10) ((r * 6) + w) := fun w g1 g2 => by
      rw [gz_sh (by omega) (by omega), gz_sh (by omega) (by omega)]
      exact h _ (by omega) (by omega)
    rw [e 0 (by omega) (by omega), e 1 (by omega) (by omega), e 2 (by omega) (by omega), e 3 (by omega) (by omega), e 4 (by omega) (by omega), e 5 (by omega) (by omega)]
    exact aF r h1 h2
  · rw [h 0 (by omega) (by omega), h 4 (by omega) (by omega)]
    intro o h1 h2
    rw [h _ (by omega) (by omega), h _ (by omega) (by omega)]
    exact aO o h1 h2
  · rw [h 0 (by omega) (by omega), h 5 (by omega) (by omega)]
    intro o h1 h2
    rw [h _ (by omega) (by omega), h _ (by omega) (by omega), h _ (by omega) (by omega), h _ (by omega) (by omega)]
    exact aS o h1 h2
theorem M0.far {f g : Nat → Int32} {i v : Int} (h : M0 f) (hg : g = upd f (iZ i).toNatClampNeg (iZ v)) (hi : (118 ≤ i ∧ i < 520) ∨ (884 ≤ i ∧ i < 2147483648)) (hv : -2147483648 ≤ v ∧ v < 2147483648) : M0 g :=
  M0.like (fun e h1 h2 h3 => by have c := gz_upc (j := e) hg (by omega) hv h1; omega) h
theorem M0.now {f g : Nat → Int32} {v : Int} (h : M0 f) (hg : g = upd f (iZ 3).toNatClampNeg (iZ v)) (hv : 0 ≤ v ∧ v ≤ 400) : M0 g :=
  M0.like3 (fun e h1 h2 h3 h4 => by have c := gz_upc (j := e) hg (by omega) (by omega) h1; omega) (by have c := gz_upc (j := 3) hg (by omega) (by omega) (by omega); omega) h
theorem M0.ord {f f1 f2 f3 : Nat → Int32} {e1 v1 e2 v2 v3 : Int} (h : M0 f) (hg1 : f1 = upd f (iZ e1).toNatClampNeg (iZ v1)) (hg2 : f2 = upd f1 (iZ e2).toNatClampNeg (iZ v2)) (hg3 : f3 = upd f2 (iZ 4).toNatClampNeg (iZ v3)) (he1 : e1 = 78 + 2 * gz f 4) (he2 : e2 = 79 + 2 * gz f 4) (hv1 : 0 ≤ v1 ∧ v1 < gz f 0) (hv2 : 0 ≤ v2 ∧ v2 ≤ 400) (hv3 : v3 = gz f 4 + 1) (ho : gz f 4 < 20) : M0 f3 := by
  obtain ⟨a0, a1, a3, a4, a5, aF, aO, aS⟩ := id h
  have c : ∀ j : Int, 0 ≤ j → (j = 4 ∧ gz f3 j = v3) ∨ (j = e2 ∧ gz f3 j = v2) ∨ (j = e1 ∧ gz f3 j = v1) ∨ (¬ j = 4 ∧ ¬ j = e2 ∧ ¬ j = e1 ∧ gz f3 j = gz f j) := fun j hj => by
    have c1 := gz_upc (j := j) hg1 (by omega) (by omega) hj
    have c2 := gz_upc (j := j) hg2 (by omega) (by omega) hj
    have c3 := gz_upc (j := j) hg3 (by omega) (by omega) hj
    omega
  have c0 := c 0 (by omega)
  have c1 := c 1 (by omega)
  have c3 := c 3 (by omega)
  have c4 := c 4 (by omega)
  have c5 := c 5 (by omega)
  refine ⟨by omega, by omega, by omega, by omega, by omega, ?_, ?_, ?_⟩
  · rw [show gz f3 0 = gz f 0 by omega]
    intro r h1 h2
    have e : ∀ w : Int, 0 ≤ w → w < 6 → gz (sh f3 10) ((r * 6) + w) = gz (sh f 10) ((r * 6) + w) := fun w g1 g2 => by
      rw [gz_sh (by omega) (by omega), gz_sh (by omega) (by omega)]
      have := c (10 + ((r * 6) + w)) (by omega)
      omega
    rw [e 0 (by omega) (by omega), e 1 (by omega) (by omega), e 2 (by omega) (by omega), e 3 (by omega) (by omega), e 4 (by omega) (by omega), e 5 (by omega) (by omega)]
    exact aF r h1 h2
  · intro o h1 h2
    have x1 := c (78 + (2 * o)) (by omega)
    have x2 := c ((78 + (2 * o)) + 1) (by omega)
    rcases Int.lt_or_eq_of_le (show o ≤ gz f 4 by omega) with q | q
    · have := aO o h1 q
      omega
    · omega
  · intro q h1 h2
    have := aS q h1 (by omega)
    have x0 := c (520 + (6 * q)) (by omega)
    have x1 := c ((520 + (6 * q)) + 1) (by omega)
    have x2 := c ((520 + (6 * q)) + 2) (by omega)
    have x4 := c ((520 + (6 * q)) + 4) (by omega)
    omega
/-- the length of the way to 0 of a set -/
def um (z : Int) : Nat := (iZ z).toBitVec.toNat
theorem um_lt {z z2 : Int} (hz : -2147483648 ≤ z ∧ z < 2147483648) (h0 : ¬ z = 0) (h : iZ z2 = iZ z &&& iZ (z - 1)) : um z2 < um z := by
  unfold um
  rw [h, Int32.toBitVec_and, BitVec.toNat_and]
  have e : iZ (z - 1) = iZ z - 1 := (iZ_sub z 1).symm
  rw [e, Int32.toBitVec_sub]
  have hne : (iZ z).toBitVec ≠ 0#32 := by
    intro q
    apply h0
    have : iZ z = 0 := Int32.toBitVec_inj.mp q
    exact (zne rfl hz).mp this
  generalize (iZ z).toBitVec = x at hne ⊢
  have h1 : x.toNat ≠ 0 := fun q => hne (BitVec.eq_of_toNat_eq q)
  have h2 : (x - (1 : Int32).toBitVec).toNat = x.toNat - 1 := by
    have := x.isLt
    have e1 : (1 : Int32).toBitVec = 1#32 := rfl
    rw [e1, BitVec.toNat_sub, show (1#32).toNat = 1 from rfl]
    omega
  have h3 := Nat.and_le_right (n := x.toNat) (m := (x - (1 : Int32).toBitVec).toNat)
  omega
/-- what is left of all loops -/
def sumP (f : Nat → Int32) : Nat → Int
  | 0 => 0
  | n + 1 => sumP f n + max 0 (gz f n)
theorem sumP_0 (f : Nat → Int32) (n : Nat) : 0 ≤ sumP f n := by
  induction n with
  | zero => exact Int.le_refl 0
  | succ n ih => show 0 ≤ sumP f n + max 0 (gz f n); omega
theorem sumP_up {f g : Nat → Int32} {o v : Int} (hg : g = upd f (iZ o).toNatClampNeg (iZ v)) (ho : 0 ≤ o ∧ o < 2147483648) (hv : -2147483648 ≤ v ∧ v < 2147483648) (n : Nat) : (o < n ∧ sumP g n = sumP f n + max 0 v - max 0 (gz f o)) ∨ (¬ o < n ∧ sumP g n = sumP f n) := by
  induction n with
  | zero => exact Or.inr ⟨by omega, rfl⟩
  | succ n ih =>
    have c := gz_upc (j := (n : Int)) hg ho hv (by omega)
    have e1 : sumP g (n + 1) = sumP g n + max 0 (gz g n) := rfl
    have e2 : sumP f (n + 1) = sumP f n + max 0 (gz f n) := rfl
    by_cases h : (n : Int) = o
    · rw [← h] at ih ⊢
      have c2 : gz g n = v := by omega
      left
      refine ⟨by omega, ?_⟩
      rw [e1, e2, c2]
      omega
    · have c2 : gz g n = gz f n := by omega
      rw [e1, e2, c2]
      omega
set_option maxHeartbeats 4000000 in
set_option maxRecDepth 100000 in
theorem m_wears (l : Launch) (D : va_G) (k : Nat → ClassId) (fs : List Value) (hm : Nat) (Ma : Nat) (Af : Nat → Int32) (x : Int) (y : Int) (f0 : fs[0]? = some (.ref Ma)) (hM : M0 Af) : WD (σ := ((Int) × (Int64) × ((Nat → Int32)) × (Unit))) l yX12_wears cX12_wears 3 none 0 0 0 D k [.ref hm, .int (iZ x), .int (iZ y)] [(hm, .inr (12, fs)), (Ma, .inl (k 1, 5340, .inl Af))] (fun _ => none) (fun u => (M0 u.2.2.1) ∧ (FR u.2.2.1 Af)) (fun u => [(hm, .inr (12, fs)), (Ma, .inl (k 1, 5340, .inl u.2.2.1))]) := by
  refine MW (by decide) (Nat.le_of_ble_eq_true rfl) (fun p e s m below meth c ls A hx hb hml hr hlocks hin hts hown hKK hP hD hS hA hl => ?_)
  have hK := hKK.1
  have hl : lv_has ls 3 [(0, .ref hm), (1, .int (iZ x)), (2, .int (iZ y))] := hl
  obtain ⟨m0, m1, m3, m4, m5, mF, mO, mS⟩ := id hM
  refine lv_aload_n hx hb dX12_wears_0 rfl (lv_at hl 0 rfl) ?_
  refine va_get (D := D) (ci := 12) (v := .ref Ma) (C := RX12) (T := TX12) (N := 36) hx hb hts iX12 hown hK hP 0 rfl rfl 0 (bl rfl) (hts _ qf_X12_7) (fun _ h => h) f0 dX12_wears_1 ?_
  refine lv_bipush (v := iZ 118) hx hb dX12_wears_4 bip_118 ?_
  refine lv_aload_n hx hb dX12_wears_6 rfl (lv_at hl 0 rfl) ?_
  refine va_get (D := D) (ci := 12) (v := .ref Ma) (C := RX12) (T := TX12) (N := 36) hx hb hts iX12 hown hK hP 0 rfl rfl 0 (bl rfl) (hts _ qf_X12_7) (fun _ h => h) f0 dX12_wears_7 ?_
  refine lv_iconst (v := iZ 3) hx hb dX12_wears_10 rfl ?_
  refine va_iald hx hb hK hP 1 1 rfl rfl (zin (e := 3) (n := 5340) ⟨by omega, by omega⟩ (bl rfl)) dX12_wears_11 ?_
  refine lv_topi (fun x_1 ex_1 => ?_)
  obtain rfl : x_1 = iZ (gz Af 3) := ex_1.trans (gz_eq ⟨by omega, by omega⟩)
  have h_2 := gz_rg Af 3
  refine lv_iadd hx hb dX12_wears_12 ?_
  refine lv_topi (fun x_3 ex_3 => ?_)
  obtain rfl : x_3 = iZ (118 + (gz Af 3)) := ex_3.trans (iZ_add 118 (gz Af 3))
  refine lv_aload_n hx hb dX12_wears_13 rfl (lv_at hl 0 rfl) ?_
  refine va_get (D := D) (ci := 12) (v := .ref Ma) (C := RX12) (T := TX12) (N := 36) hx hb hts iX12 hown hK hP 0 rfl rfl 0 (bl rfl) (hts _ qf_X12_7) (fun _ h => h) f0 dX12_wears_14 ?_
  refine lv_bipush (v := iZ 118) hx hb dX12_wears_17 bip_118 ?_
  refine lv_aload_n hx hb dX12_wears_19 rfl (lv_at hl 0 rfl) ?_
  refine va_get (D := D) (ci := 12) (v := .ref Ma) (C := RX12) (T := TX12) (N := 36) hx hb hts iX12 hown hK hP 0 rfl rfl 0 (bl rfl) (hts _ qf_X12_7) (fun _ h => h) f0 dX12_wears_20 ?_
  refine lv_iconst (v := iZ 3) hx hb dX12_wears_23 rfl ?_
  refine va_iald hx hb hK hP 1 1 rfl rfl (zin (e := 3) (n := 5340) ⟨by omega, by omega⟩ (bl rfl)) dX12_wears_24 ?_
  refine lv_topi (fun x_4 ex_4 => ?_)
  obtain rfl : x_4 = iZ (gz Af 3) := ex_4.trans (gz_eq ⟨by omega, by omega⟩)
  have h_5 := gz_rg Af 3
  refine lv_iadd hx hb dX12_wears_25 ?_
  refine lv_topi (fun x_6 ex_6 => ?_)
  obtain rfl : x_6 = iZ (118 + (gz Af 3)) := ex_6.trans (iZ_add 118 (gz Af 3))
  refine va_iald hx hb hK hP 1 1 rfl rfl (zin (e := (118 + (gz Af 3))) (n := 5340) ⟨by omega, by omega⟩ (bl rfl)) dX12_wears_26 ?_
  refine lv_topi (fun x_7 ex_7 => ?_)
  obtain rfl : x_7 = iZ (gz Af (118 + (gz Af 3))) := ex_7.trans (gz_eq ⟨by omega, by omega⟩)
  have h_8 := gz_rg Af (118 + (gz Af 3))
  refine lv_iconst (v := iZ 1) hx hb dX12_wears_27 rfl ?_
  refine lv_iload_n hx hb dX12_wears_28 rfl (lv_at hl 1 rfl) ?_
  refine lv_ishl hx hb dX12_wears_29 ?_
  refine lv_topi (fun x_10 ex_10 => ?_)
  obtain ⟨z_9, hz_9, hz_9a, hz_9b⟩ := i32_z x_10
  subst hz_9
  refine lv_iconst (v := iZ (-1)) hx hb dX12_wears_30 rfl ?_
  refine lv_ixor hx hb dX12_wears_31 ?_
  refine lv_topi (fun x_12 ex_12 => ?_)
  obtain ⟨z_11, hz_11, hz_11a, hz_11b⟩ := i32_z x_12
  subst hz_11
  refine lv_iand hx hb dX12_wears_32 ?_
  refine lv_topi (fun x_14 ex_14 => ?_)
  obtain ⟨z_13, hz_13, hz_13a, hz_13b⟩ := i32_z x_14
  subst hz_13
  refine lv_iload_n hx hb dX12_wears_33 rfl (lv_at hl 2 rfl) ?_
  refine lv_iload_n hx hb dX12_wears_34 rfl (lv_at hl 1 rfl) ?_
  refine lv_ishl hx hb dX12_wears_35 ?_
  refine lv_topi (fun x_16 ex_16 => ?_)
  obtain ⟨z_15, hz_15, hz_15a, hz_15b⟩ := i32_z x_16
  subst hz_15
  refine lv_ior hx hb dX12_wears_36 ?_
  refine lv_topi (fun x_18 ex_18 => ?_)
  obtain ⟨z_17, hz_17, hz_17a, hz_17b⟩ := i32_z x_18
  subst hz_17
  refine va_iast hx hb hK hP hD hS 1 1 rfl rfl (zin (e := (118 + (gz Af 3))) (n := 5340) ⟨by omega, by omega⟩ (bl rfl)) dX12_wears_37 (fun H locs hP hD hS => ?_)
  obtain ⟨f_19, hf_19⟩ : ∃ gg9, gg9 = upd Af (iZ (118 + (gz Af 3))).toNatClampNeg (iZ z_17) := ⟨_, rfl⟩
  rw [← hf_19] at hP hD
  exact EWv hx hb hr hlocks hS (0, 0, f_19, ()) rfl ⟨(show M0 f_19 from (M0.far hM hf_19 (Or.inl ⟨by omega, by omega⟩) ⟨by omega, by omega⟩)), (show FR f_19 Af from (FR.up hf_19 (Or.inr (Or.inr ⟨by omega, by omega⟩)) ⟨by omega, by omega⟩))⟩ (hP.sub [0, 1] rfl) (hD.sub [0, 1] rfl rfl) dX12_wears_38
set_option maxHeartbeats 4000000 in
set_option maxRecDepth 100000 in
theorem m_orders (l : Launch) (D : va_G) (k : Nat → ClassId) (fs : List Value) (hm : Nat) (Ma : Nat) (Af : Nat → Int32) (x : Int) (f0 : fs[0]? = some (.ref Ma)) (hM : M0 Af) (h9x : 0 ≤ x ∧ x < gz Af 0) : WD (σ := ((Int) × (Int64) × ((Nat → Int32)) × (Unit))) l yX12_orders cX12_orders 2 (some .boolean) 1 0 0 D k [.ref hm, .int (iZ x)] [(hm, .inr (12, fs)), (Ma, .inl (k 1, 5340, .inl Af))] (fun u => some (.int (iZ u.1))) (fun u => (M0 u.2.2.1) ∧ (FR u.2.2.1 Af) ∧ (u.1 = 0 ∨ u.1 = 1)) (fun u => [(hm, .inr (12, fs)), (Ma, .inl (k 1, 5340, .inl u.2.2.1))]) := by
  refine MW (by decide) (Nat.le_of_ble_eq_true rfl) (fun p e s m below meth c ls A hx hb hml hr hlocks hin hts hown hKK hP hD hS hA hl => ?_)
  have hK := hKK.1
  have hl : lv_has ls 2 [(0, .ref hm), (1, .int (iZ x))] := hl
  obtain ⟨m0, m1, m3, m4, m5, mF, mO, mS⟩ := id hM
  refine lv_aload_n hx hb dX12_orders_0 rfl (lv_at hl 0 rfl) ?_
  refine va_get (D := D) (ci := 12) (v := .ref Ma) (C := RX12) (T := TX12) (N := 36) hx hb hts iX12 hown hK hP 0 rfl rfl 0 (bl rfl) (hts _ qf_X12_7) (fun _ h => h) f0 dX12_orders_1 ?_
  refine lv_iconst (v := iZ 4) hx hb dX12_orders_4 rfl ?_
  refine va_iald hx hb hK hP 1 1 rfl rfl (zin (e := 4) (n := 5340) ⟨by omega, by omega⟩ (bl rfl)) dX12_orders_5 ?_
  refine lv_topi (fun x_1 ex_1 => ?_)
  obtain rfl : x_1 = iZ (gz Af 4) := ex_1.trans (gz_eq ⟨by omega, by omega⟩)
  have h_2 := gz_rg Af 4
  refine lv_bipush (v := iZ 20) hx hb dX12_orders_6 bip_20 ?_
  refine lv_icmp_ne (tgt := 13) hx hb dX12_orders_8 rfl (fun c_3 => ?_) (fun c_3 => ?_)
  ·
    have c_3 := mt (zeq (x := iZ (gz Af 4)) (y := iZ 20) rfl rfl (gz_rg Af 4) wn_20).mpr c_3
    refine lv_aload_n hx hb dX12_orders_13 rfl (lv_at hl 0 rfl) ?_
    refine va_get (D := D) (ci := 12) (v := .ref Ma) (C := RX12) (T := TX12) (N := 36) hx hb hts iX12 hown hK hP 0 rfl rfl 0 (bl rfl) (hts _ qf_X12_7) (fun _ h => h) f0 dX12_orders_14 ?_
    refine lv_aload_n hx hb dX12_orders_17 rfl (lv_at hl 0 rfl) ?_
    refine va_get (D := D) (ci := 12) (v := .ref Ma) (C := RX12) (T := TX12) (N := 36) hx hb hts iX12 hown hK hP 0 rfl rfl 0 (bl rfl) (hts _ qf_X12_7) (fun _ h => h) f0 dX12_orders_18 ?_
    refine lv_iconst (v := iZ 4) hx hb dX12_orders_21 rfl ?_
    refine va_iald hx hb hK hP 1 1 rfl rfl (zin (e := 4) (n := 5340) ⟨by omega, by omega⟩ (bl rfl)) dX12_orders_22 ?_
    refine lv_topi (fun x_4 ex_4 => ?_)
    obtain rfl : x_4 = iZ (gz Af 4) := ex_4.trans (gz_eq ⟨by omega, by omega⟩)
    have h_5 := gz_rg Af 4
    refine CRS (As := [.int (iZ (gz Af 4))]) (rest := [.ref Ma]) hx hb hml hown hts hKK (hP.sub (ws' := []) [] rfl) (m_givenRow l D k (gz Af 4)) ci_X12_givenRow qm_X12_315 ⟨Nat.le_of_ble_eq_true rfl, Nat.le_of_ble_eq_true rfl⟩ ⟨Nat.le_of_ble_eq_true rfl, Nat.le_of_ble_eq_true rfl⟩ rfl hl.1 rfl (Nat.le_of_ble_eq_true rfl) dX12_orders_23 ?_
    refine lv_iload_n hx hb dX12_orders_26 rfl (lv_at hl 1 rfl) ?_
    refine va_iast hx hb hK hP hD hS 1 1 rfl rfl (zin (e := (78 + (2 * (gz Af 4)))) (n := 5340) ⟨by omega, by omega⟩ (bl rfl)) dX12_orders_27 (fun H locs hP hD hS => ?_)
    obtain ⟨f_6, hf_6⟩ : ∃ gg9, gg9 = upd Af (iZ (78 + (2 * (gz Af 4)))).toNatClampNeg (iZ x) := ⟨_, rfl⟩
    rw [← hf_6] at hP hD
    refine lv_aload_n hx hb dX12_orders_28 rfl (lv_at hl 0 rfl) ?_
    refine va_get (D := D) (ci := 12) (v := .ref Ma) (C := RX12) (T := TX12) (N := 36) hx hb hts iX12 hown hK hP 0 rfl rfl 0 (bl rfl) (hts _ qf_X12_7) (fun _ h => h) f0 dX12_orders_29 ?_
    refine lv_aload_n hx hb dX12_orders_32 rfl (lv_at hl 0 rfl) ?_
    refine va_get (D := D) (ci := 12) (v := .ref Ma) (C := RX12) (T := TX12) (N := 36) hx hb hts iX12 hown hK hP 0 rfl rfl 0 (bl rfl) (hts _ qf_X12_7) (fun _ h => h) f0 dX12_orders_33 ?_
    refine lv_iconst (v := iZ 4) hx hb dX12_orders_36 rfl ?_
    refine va_iald hx hb hK hP 1 1 rfl rfl (zin (e := 4) (n := 5340) ⟨by omega, by omega⟩ (bl rfl)) dX12_orders_37 ?_
    refine lv_topi (fun x_7 ex_7 => ?_)
    obtain rfl : x_7 = iZ (gz f_6 4) := ex_7.trans (gz_eq ⟨by omega, by omega⟩)
    have h_8 := gz_rg f_6 4
    have ch_9 := gz_upc (j := 4) hf_6 ⟨by omega, by omega⟩ ⟨by omega, by omega⟩ (by omega)
    refine CRS (As := [.int (iZ (gz f_6 4))]) (rest := [.ref Ma]) hx hb hml hown hts hKK (hP.sub (ws' := []) [] rfl) (m_givenRow l D k (gz f_6 4)) ci_X12_givenRow qm_X12_315 ⟨Nat.le_of_ble_eq_true rfl, Nat.le_of_ble_eq_true rfl⟩ ⟨Nat.le_of_ble_eq_true rfl, Nat.le_of_ble_eq_true rfl⟩ rfl hl.1 rfl (Nat.le_of_ble_eq_true rfl) dX12_orders_38 ?_
    refine lv_iconst (v := iZ 1) hx hb dX12_orders_41 rfl ?_
    refine lv_iadd hx hb dX12_orders_42 ?_
    refine lv_topi (fun x_10 ex_10 => ?_)
    obtain rfl : x_10 = iZ ((78 + (2 * (gz f_6 4))) + 1) := ex_10.trans (iZ_add (78 + (2 * (gz f_6 4))) 1)
    refine lv_aload_n hx hb dX12_orders_43 rfl (lv_at hl 0 rfl) ?_
    refine va_get (D := D) (ci := 12) (v := .ref Ma) (C := RX12) (T := TX12) (N := 36) hx hb hts iX12 hown hK hP 0 rfl rfl 0 (bl rfl) (hts _ qf_X12_7) (fun _ h => h) f0 dX12_orders_44 ?_
    refine lv_iconst (v := iZ 3) hx hb dX12_orders_47 rfl ?_
    refine va_iald hx hb hK hP 1 1 rfl rfl (zin (e := 3) (n := 5340) ⟨by omega, by omega⟩ (bl rfl)) dX12_orders_48 ?_
    refine lv_topi (fun x_11 ex_11 => ?_)
    obtain rfl : x_11 = iZ (gz f_6 3) := ex_11.trans (gz_eq ⟨by omega, by omega⟩)
    have h_12 := gz_rg f_6 3
    have ch_13 := gz_upc (j := 3) hf_6 ⟨by omega, by omega⟩ ⟨by omega, by omega⟩ (by omega)
    refine va_iast hx hb hK hP hD hS 1 1 rfl rfl (zin (e := ((78 + (2 * (gz f_6 4))) + 1)) (n := 5340) ⟨by omega, by omega⟩ (bl rfl)) dX12_orders_49 (fun H locs hP hD hS => ?_)
    obtain ⟨f_14, hf_14⟩ : ∃ gg9, gg9 = upd f_6 (iZ ((78 + (2 * (gz f_6 4))) + 1)).toNatClampNeg (iZ (gz f_6 3)) := ⟨_, rfl⟩
    rw [← hf_14] at hP hD
    refine lv_aload_n hx hb dX12_orders_50 rfl (lv_at hl 0 rfl) ?_
    refine va_get (D := D) (ci := 12) (v := .ref Ma) (C := RX12) (T := TX12) (N := 36) hx hb hts iX12 hown hK hP 0 rfl rfl 0 (bl rfl) (hts _ qf_X12_7) (fun _ h => h) f0 dX12_orders_51 ?_
    refine lv_iconst (v := iZ 4) hx hb dX12_orders_54 rfl ?_
    refine lv_dup2_11 hx hb dX12_orders_55 rfl rfl ?_
    refine va_iald hx hb hK hP 1 1 rfl rfl (zin (e := 4) (n := 5340) ⟨by omega, by omega⟩ (bl rfl)) dX12_orders_56 ?_
    refine lv_topi (fun x_15 ex_15 => ?_)
    obtain rfl : x_15 = iZ (gz f_14 4) := ex_15.trans (gz_eq ⟨by omega, by omega⟩)
    have h_16 := gz_rg f_14 4
    have ch_17 := gz_upc (j := 4) hf_6 ⟨by omega, by omega⟩ ⟨by omega, by omega⟩ (by omega)
    have ch_18 := gz_upc (j := 4) hf_14 ⟨by omega, by omega⟩ ⟨by omega, by omega⟩ (by omega)
    refine lv_iconst (v := iZ 1) hx hb dX12_orders_57 rfl ?_
    refine lv_iadd hx hb dX12_orders_58 ?_
    refine lv_topi (fun x_19 ex_19 => ?_)
    obtain rfl : x_19 = iZ ((gz f_14 4) + 1) := ex_19.trans (iZ_add (gz f_14 4) 1)
    refine va_iast hx hb hK hP hD hS 1 1 rfl rfl (zin (e := 4) (n := 5340) ⟨by omega, by omega⟩ (bl rfl)) dX12_orders_59 (fun H locs hP hD hS => ?_)
    obtain ⟨f_20, hf_20⟩ : ∃ gg9, gg9 = upd f_14 (iZ 4).toNatClampNeg (iZ ((gz f_14 4) + 1)) := ⟨_, rfl⟩
    rw [← hf_20] at hP hD
    refine lv_iconst (v := iZ 1) hx hb dX12_orders_60 rfl ?_
    exact EWz hx hb hr hlocks hS (1, 0, f_20, ()) rfl rfl ⟨(show M0 f_20 from (M0.ord hM hf_6 hf_14 hf_20 (by omega) (by omega) ⟨by omega, by omega⟩ ⟨by omega, by omega⟩ (by omega) (by omega))), (show FR f_20 Af from (FR.tr (FR.up hf_20 (Or.inr (Or.inl rfl)) ⟨by omega, by omega⟩) (FR.tr (FR.up hf_14 (Or.inr (Or.inr ⟨by omega, by omega⟩)) ⟨by omega, by omega⟩) (FR.up hf_6 (Or.inr (Or.inr ⟨by omega, by omega⟩)) ⟨by omega, by omega⟩)))), (show 1 = 0 ∨ 1 = 1 from (Or.inr rfl))⟩ (hP.sub [0, 1] rfl) (hD.sub [0, 1] rfl rfl) dX12_orders_61
  ·
    have c_3 := (zeq (x := iZ (gz Af 4)) (y := iZ 20) rfl rfl (gz_rg Af 4) wn_20).mp c_3
    refine lv_iconst (v := iZ 0) hx hb dX12_orders_11 rfl ?_
    exact EWz hx hb hr hlocks hS (0, 0, Af, ()) rfl rfl ⟨(show M0 Af from hM), (show FR Af Af from (FR.rf Af)), (show 0 = 0 ∨ 0 = 1 from (Or.inl rfl))⟩ (hP.sub [0, 1] rfl) (hD.sub [0, 1] rfl rfl) dX12_orders_12
set_option maxHeartbeats 4000000 in
set_option maxRecDepth 100000 in
theorem m_goes (l : Launch) (D : va_G) (k : Nat → ClassId) (fs : List Value) (hm : Nat) (Ma : Nat) (Af : Nat → Int32) (f0 : fs[0]? = some (.ref Ma)) (hM : M0 Af) : WD (σ := ((Int) × (Int64) × ((Nat → Int32)) × (Unit))) l yX12_goes cX12_goes 7 (some .boolean) 7 0 0 D k [.ref hm] [(hm, .inr (12, fs)), (Ma, .inl (k 1, 5340, .inl Af))] (fun u => some (.int (iZ u.1))) (fun u => (M0 u.2.2.1) ∧ (FR u.2.2.1 Af) ∧ (u.1 = 0 ∨ u.1 = 1)) (fun u => [(hm, .inr (12, fs)), (Ma, .inl (k 1, 5340, .inl u.2.2.1))]) := by
  refine MW (by decide) (Nat.le_of_ble_eq_true rfl) (fun p e s m below meth c ls A hx hb hml hr hlocks hin hts hown hKK hP hD hS hA hl => ?_)
  have hK := hKK.1
  have hl : lv_has ls 7 [(0, .ref hm)] := hl
  obtain ⟨m0, m1, m3, m4, m5, mF, mO, mS⟩ := id hM
  refine lv_aload_n hx hb dX12_goes_0 rfl (lv_at hl 0 rfl) ?_
  refine va_get (D := D) (ci := 12) (v := .ref Ma) (C := RX12) (T := TX12) (N := 36) hx hb hts iX12 hown hK hP 0 rfl rfl 0 (bl rfl) (hts _ qf_X12_7) (fun _ h => h) f0 dX12_goes_1 ?_
  refine lv_iconst (v := iZ 3) hx hb dX12_goes_4 rfl ?_
  refine va_iald hx hb hK hP 1 1 rfl rfl (zin (e := 3) (n := 5340) ⟨by omega, by omega⟩ (bl rfl)) dX12_goes_5 ?_
  refine lv_topi (fun x_1 ex_1 => ?_)
  obtain rfl : x_1 = iZ (gz Af 3) := ex_1.trans (gz_eq ⟨by omega, by omega⟩)
  have h_2 := gz_rg Af 3
  refine lv_sipush (v := iZ 400) hx hb dX12_goes_6 sip_400 ?_
  refine lv_icmp_ne (tgt := 14) hx hb dX12_goes_9 rfl (fun c_3 => ?_) (fun c_3 => ?_)
  ·
    have c_3 := mt (zeq (x := iZ (gz Af 3)) (y := iZ 400) rfl rfl (gz_rg Af 3) wn_400).mpr c_3
    refine lv_aload_n hx hb dX12_goes_14 rfl (lv_at hl 0 rfl) ?_
    refine va_get (D := D) (ci := 12) (v := .ref Ma) (C := RX12) (T := TX12) (N := 36) hx hb hts iX12 hown hK hP 0 rfl rfl 0 (bl rfl) (hts _ qf_X12_7) (fun _ h => h) f0 dX12_goes_15 ?_
    refine lv_iconst (v := iZ 3) hx hb dX12_goes_18 rfl ?_
    refine va_iald hx hb hK hP 1 1 rfl rfl (zin (e := 3) (n := 5340) ⟨by omega, by omega⟩ (bl rfl)) dX12_goes_19 ?_
    refine lv_topi (fun x_4 ex_4 => ?_)
    obtain rfl : x_4 = iZ (gz Af 3) := ex_4.trans (gz_eq ⟨by omega, by omega⟩)
    have h_5 := gz_rg Af 3
    refine lv_iconst (v := iZ 1) hx hb dX12_goes_20 rfl ?_
    refine lv_iadd hx hb dX12_goes_21 ?_
    refine lv_topi (fun x_6 ex_6 => ?_)
    obtain rfl : x_6 = iZ ((gz Af 3) + 1) := ex_6.trans (iZ_add (gz Af 3) 1)
    refine lv_istore_n (lv' := [(1, .int (iZ ((gz Af 3) + 1))), (0, .ref hm)]) hx hb dX12_goes_22 rfl hl (bl rfl) rfl (fun ls hl => ?_)
    refine lv_iconst (v := iZ 0) hx hb dX12_goes_23 rfl ?_
    refine lv_istore_n (lv' := [(2, .int (iZ 0)), (1, .int (iZ ((gz Af 3) + 1))), (0, .ref hm)]) hx hb dX12_goes_24 rfl hl (bl rfl) rfl (fun ls hl => ?_)
    refine lv_iconst (v := iZ 0) hx hb dX12_goes_25 rfl ?_
    refine lv_istore_n (lv' := [(3, .int (iZ 0)), (2, .int (iZ 0)), (1, .int (iZ ((gz Af 3) + 1))), (0, .ref hm)]) hx hb dX12_goes_26 rfl hl (bl rfl) rfl (fun ls hl => ?_)
    have HL27 : ∀ (fu : Nat) (v2_27 : Int) (v3_27 : Int) (H : Heap) (locs : List Loc) (ls : Array Slot), ((gz Af 0) + 2 - v3_27) < (fu : Int) → ((0 ≤ v3_27 ∧ v3_27 ≤ (gz Af 0) + 1)) → (-2147483648 ≤ v2_27 ∧ v2_27 < 2147483648) → va_P D vwCl [(hm, .inr (12, fs)), (Ma, .inl (k 1, 5340, .inl Af))] H → va_D A [(hm, .inr (12, fs)), (Ma, .inl (k 1, 5340, .inl Af))] → va_S A s.heap H locs → lv_has ls 7 [(3, .int (iZ v3_27)), (2, .int (iZ v2_27)), (1, .int (iZ ((gz Af 3) + 1))), (0, .ref hm)] → W p l e (rj 7 0 0) s m [.ref hm].toArray below meth c H locs 0 0 (MQ below (QW (σ := ((Int) × (Int64) × ((Nat → Int32)) × (Unit))) (fun u => some (.int (iZ u.1))) (fun u => (M0 u.2.2.1) ∧ (FR u.2.2.1 Af) ∧ (u.1 = 0 ∨ u.1 = 1)) (fun u => [(hm, .inr (12, fs)), (Ma, .inl (k 1, 5340, .inl u.2.2.1))]) D A) [.ref hm].toArray s 0 0 A) (F0 m 27 ls []) := by
      intro fu
      induction fu with
      | zero => intro v2_27 v3_27 H locs ls hμ27 hi27 hf0_27 hP hD hS hl; exact absurd hμ27 (by omega)
      | succ fu ih27 =>
        intro v2_27 v3_27 H locs ls hμ27 hi27 hf0_27 hP hD hS hl
        refine lv_iload_n hx hb dX12_goes_27 rfl (lv_at hl 0 rfl) ?_
        refine lv_aload_n hx hb dX12_goes_28 rfl (lv_at hl 3 rfl) ?_
        refine va_get (D := D) (ci := 12) (v := .ref Ma) (C := RX12) (T := TX12) (N := 36) hx hb hts iX12 hown hK hP 0 rfl rfl 0 (bl rfl) (hts _ qf_X12_7) (fun _ h => h) f0 dX12_goes_29 ?_
        refine lv_iconst (v := iZ 0) hx hb dX12_goes_32 rfl ?_
        refine va_iald hx hb hK hP 1 1 rfl rfl (zin (e := 0) (n := 5340) ⟨by omega, by omega⟩ (bl rfl)) dX12_goes_33 ?_
        refine lv_topi (fun x_7 ex_7 => ?_)
        obtain rfl : x_7 = iZ (gz Af 0) := ex_7.trans (gz_eq ⟨by omega, by omega⟩)
        have h_8 := gz_rg Af 0
        refine lv_icmp_ge (tgt := 145) hx hb dX12_goes_34 rfl (fun c_9 => ?_) (fun c_9 => ?_)
        ·
          have c_9 := (zle (x := iZ (gz Af 0)) (y := iZ v3_27) rfl rfl (gz_rg Af 0) ⟨by omega, by omega⟩).mp c_9
          refine lv_aload_n hx hb dX12_goes_145 rfl (lv_at hl 3 rfl) ?_
          refine va_get (D := D) (ci := 12) (v := .ref Ma) (C := RX12) (T := TX12) (N := 36) hx hb hts iX12 hown hK hP 0 rfl rfl 0 (bl rfl) (hts _ qf_X12_7) (fun _ h => h) f0 dX12_goes_146 ?_
          refine lv_bipush (v := iZ 118) hx hb dX12_goes_149 bip_118 ?_
          refine lv_iload_n hx hb dX12_goes_151 rfl (lv_at hl 2 rfl) ?_
          refine lv_iadd hx hb dX12_goes_152 ?_
          refine lv_topi (fun x_10 ex_10 => ?_)
          obtain rfl : x_10 = iZ (118 + ((gz Af 3) + 1)) := ex_10.trans (iZ_add 118 ((gz Af 3) + 1))
          refine lv_iload_n hx hb dX12_goes_153 rfl (lv_at hl 1 rfl) ?_
          refine va_iast hx hb hK hP hD hS 1 1 rfl rfl (zin (e := (118 + ((gz Af 3) + 1))) (n := 5340) ⟨by omega, by omega⟩ (bl rfl)) dX12_goes_154 (fun H locs hP hD hS => ?_)
          obtain ⟨f_11, hf_11⟩ : ∃ gg9, gg9 = upd Af (iZ (118 + ((gz Af 3) + 1))).toNatClampNeg (iZ v2_27) := ⟨_, rfl⟩
          rw [← hf_11] at hP hD
          refine lv_aload_n hx hb dX12_goes_155 rfl (lv_at hl 3 rfl) ?_
          refine va_get (D := D) (ci := 12) (v := .ref Ma) (C := RX12) (T := TX12) (N := 36) hx hb hts iX12 hown hK hP 0 rfl rfl 0 (bl rfl) (hts _ qf_X12_7) (fun _ h => h) f0 dX12_goes_156 ?_
          refine lv_iconst (v := iZ 3) hx hb dX12_goes_159 rfl ?_
          refine lv_iload_n hx hb dX12_goes_160 rfl (lv_at hl 2 rfl) ?_
          refine va_iast hx hb hK hP hD hS 1 1 rfl rfl (zin (e := 3) (n := 5340) ⟨by omega, by omega⟩ (bl rfl)) dX12_goes_161 (fun H locs hP hD hS => ?_)
          obtain ⟨f_12, hf_12⟩ : ∃ gg9, gg9 = upd f_11 (iZ 3).toNatClampNeg (iZ ((gz Af 3) + 1)) := ⟨_, rfl⟩
          rw [← hf_12] at hP hD
          refine lv_iconst (v := iZ 1) hx hb dX12_goes_162 rfl ?_
          exact EWz hx hb hr hlocks hS (1, 0, f_12, ()) rfl rfl ⟨(show M0 f_12 from (M0.now (M0.far hM hf_11 (Or.inl ⟨by omega, by omega⟩) ⟨by omega, by omega⟩) hf_12 ⟨by omega, by omega⟩)), (show FR f_12 Af from (FR.tr (FR.up hf_12 (Or.inl rfl) ⟨by omega, by omega⟩) (FR.up hf_11 (Or.inr (Or.inr ⟨by omega, by omega⟩)) ⟨by omega, by omega⟩))), (show 1 = 0 ∨ 1 = 1 from (Or.inr rfl))⟩ (hP.sub [0, 1] rfl) (hD.sub [0, 1] rfl rfl) dX12_goes_163
        ·
          have c_9 := mt (zle (x := iZ (gz Af 0)) (y := iZ v3_27) rfl rfl (gz_rg Af 0) ⟨by omega, by omega⟩).mpr c_9
          refine lv_iconst (v := iZ 0) hx hb dX12_goes_37 rfl ?_
          refine lv_istore (lv' := [(4, .int (iZ 0)), (3, .int (iZ v3_27)), (2, .int (iZ v2_27)), (1, .int (iZ ((gz Af 3) + 1))), (0, .ref hm)]) hx hb dX12_goes_38 hl (bl rfl) rfl (fun ls hl => ?_)
          refine lv_iconst (v := iZ 0) hx hb dX12_goes_40 rfl ?_
          refine lv_istore (lv' := [(5, .int (iZ 0)), (4, .int (iZ 0)), (3, .int (iZ v3_27)), (2, .int (iZ v2_27)), (1, .int (iZ ((gz Af 3) + 1))), (0, .ref hm)]) hx hb dX12_goes_41 hl (bl rfl) rfl (fun ls hl => ?_)
          have HL43 : ∀ (fu : Nat) (v4_43 : Int) (v5_43 : Int) (H : Heap) (locs : List Loc) (ls : Array Slot), ((gz Af 0) + 2 - v5_43) < (fu : Int) → ((0 ≤ v5_43 ∧ v5_43 ≤ (gz Af 0) + 1)) → (-(v5_43) ≤ v4_43 ∧ v4_43 ≤ v5_43) → va_P D vwCl [(hm, .inr (12, fs)), (Ma, .inl (k 1, 5340, .inl Af))] H → va_D A [(hm, .inr (12, fs)), (Ma, .inl (k 1, 5340, .inl Af))] → va_S A s.heap H locs → lv_has ls 7 [(5, .int (iZ v5_43)), (4, .int (iZ v4_43)), (3, .int (iZ v3_27)), (2, .int (iZ v2_27)), (1, .int (iZ ((gz Af 3) + 1))), (0, .ref hm)] → W p l e (rj 7 0 0) s m [.ref hm].toArray below meth c H locs 0 0 (MQ below (QW (σ := ((Int) × (Int64) × ((Nat → Int32)) × (Unit))) (fun u => some (.int (iZ u.1))) (fun u => (M0 u.2.2.1) ∧ (FR u.2.2.1 Af) ∧ (u.1 = 0 ∨ u.1 = 1)) (fun u => [(hm, .inr (12, fs)), (Ma, .inl (k 1, 5340, .inl u.2.2.1))]) D A) [.ref hm].toArray s 0 0 A) (F0 m 43 ls []) := by
            intro fu
            induction fu with
            | zero => intro v4_43 v5_43 H locs ls hμ43 hi43 hf0_43 hP hD hS hl; exact absurd hμ43 (by omega)
            | succ fu ih43 =>
              intro v4_43 v5_43 H locs ls hμ43 hi43 hf0_43 hP hD hS hl
              refine lv_iload hx hb dX12_goes_43 (lv_at hl 0 rfl) ?_
              refine lv_aload_n hx hb dX12_goes_45 rfl (lv_at hl 5 rfl) ?_
              refine va_get (D := D) (ci := 12) (v := .ref Ma) (C := RX12) (T := TX12) (N := 36) hx hb hts iX12 hown hK hP 0 rfl rfl 0 (bl rfl) (hts _ qf_X12_7) (fun _ h => h) f0 dX12_goes_46 ?_
              refine lv_iconst (v := iZ 0) hx hb dX12_goes_49 rfl ?_
              refine va_iald hx hb hK hP 1 1 rfl rfl (zin (e := 0) (n := 5340) ⟨by omega, by omega⟩ (bl rfl)) dX12_goes_50 ?_
              refine lv_topi (fun x_13 ex_13 => ?_)
              obtain rfl : x_13 = iZ (gz Af 0) := ex_13.trans (gz_eq ⟨by omega, by omega⟩)
              have h_14 := gz_rg Af 0
              refine lv_icmp_ge (tgt := 105) hx hb dX12_goes_51 rfl (fun c_15 => ?_) (fun c_15 => ?_)
              ·
                have c_15 := (zle (x := iZ (gz Af 0)) (y := iZ v5_43) rfl rfl (gz_rg Af 0) ⟨by omega, by omega⟩).mp c_15
                refine lv_iload_n hx hb dX12_goes_105 rfl (lv_at hl 3 rfl) ?_
                refine lv_iload hx hb dX12_goes_106 (lv_at hl 1 rfl) ?_
                refine lv_if_le (tgt := 115) hx hb dX12_goes_108 rfl (fun c_16 => ?_) (fun c_16 => ?_)
                ·
                  have c_16 := (zle (x := iZ v4_43) (y := iZ 0) rfl rfl ⟨by omega, by omega⟩ wn_0).mp c_16
                  refine lv_iload hx hb dX12_goes_115 (lv_at hl 1 rfl) ?_
                  refine lv_if_ge (tgt := 124) hx hb dX12_goes_117 rfl (fun c_17 => ?_) (fun c_17 => ?_)
                  ·
                    have c_17 := (zle (x := iZ 0) (y := iZ v4_43) rfl rfl wn_0 ⟨by omega, by omega⟩).mp c_17
                    refine lv_aload_n hx hb dX12_goes_124 rfl (lv_at hl 5 rfl) ?_
                    refine lv_iload_n hx hb dX12_goes_125 rfl (lv_at hl 2 rfl) ?_
                    refine lv_aload_n hx hb dX12_goes_126 rfl (lv_at hl 5 rfl) ?_
                    refine va_get (D := D) (ci := 12) (v := .ref Ma) (C := RX12) (T := TX12) (N := 36) hx hb hts iX12 hown hK hP 0 rfl rfl 0 (bl rfl) (hts _ qf_X12_7) (fun _ h => h) f0 dX12_goes_127 ?_
                    refine lv_iconst (v := iZ 3) hx hb dX12_goes_130 rfl ?_
                    refine va_iald hx hb hK hP 1 1 rfl rfl (zin (e := 3) (n := 5340) ⟨by omega, by omega⟩ (bl rfl)) dX12_goes_131 ?_
                    refine lv_topi (fun x_18 ex_18 => ?_)
                    obtain rfl : x_18 = iZ (gz Af 3) := ex_18.trans (gz_eq ⟨by omega, by omega⟩)
                    have h_19 := gz_rg Af 3
                    refine CPV (As := [.int (iZ v3_27), .int (iZ (gz Af 3))]) (rest := [.int (iZ v2_27)]) hx hb hml hown hts hKK hP (m_wore l D k fs hm Ma Af v3_27 (gz Af 3) f0 hM ⟨by omega, by omega⟩) ci_X12_woreIn qm_X12_363 ⟨Nat.le_of_ble_eq_true rfl, Nat.le_of_ble_eq_true rfl⟩ ⟨Nat.le_of_ble_eq_true rfl, Nat.le_of_ble_eq_true rfl⟩ 0 rfl rfl rfl hl.1 rfl (Nat.le_of_ble_eq_true rfl) dX12_goes_132 (fun z_20 hz_20 => ?_)
                    have hbz_20 := hz_20.2
                    refine lv_iload_n hx hb dX12_goes_135 rfl (lv_at hl 2 rfl) ?_
                    refine lv_ishl hx hb dX12_goes_136 ?_
                    refine lv_topi (fun x_22 ex_22 => ?_)
                    obtain ⟨z_21, hz_21, hz_21a, hz_21b⟩ := i32_z x_22
                    subst hz_21
                    refine lv_ior hx hb dX12_goes_137 ?_
                    refine lv_topi (fun x_24 ex_24 => ?_)
                    obtain ⟨z_23, hz_23, hz_23a, hz_23b⟩ := i32_z x_24
                    subst hz_23
                    refine lv_istore_n (lv' := [(2, .int (iZ z_23)), (5, .int (iZ v5_43)), (4, .int (iZ v4_43)), (3, .int (iZ v3_27)), (1, .int (iZ ((gz Af 3) + 1))), (0, .ref hm)]) hx hb dX12_goes_138 rfl hl (bl rfl) rfl (fun ls hl => ?_)
                    refine lv_iinc (v := iZ (v3_27 + 1)) (lv' := [(3, .int (iZ (v3_27 + 1))), (2, .int (iZ z_23)), (5, .int (iZ v5_43)), (4, .int (iZ v4_43)), (1, .int (iZ ((gz Af 3) + 1))), (0, .ref hm)]) hx hb dX12_goes_139 hl (k := 3) rfl (iZ_add v3_27 1) (by decide) rfl (fun ls hl => ?_)
                    refine lv_goto (tgt := 27) hx hb dX12_goes_142 rfl ?_
                    exact ih27  z_23 (v3_27 + 1) _ _ _ (by omega) (show (0 ≤ (v3_27 + 1) ∧ (v3_27 + 1) ≤ (gz Af 0) + 1) from ⟨by omega, by omega⟩) (show -2147483648 ≤ z_23 ∧ z_23 < 2147483648 from (by omega)) (hP.sub [0, 1] rfl) (hD.sub [0, 1] rfl rfl) hS (lv_sub hl [0, 1, 4, 5] rfl)
                  ·
                    have c_17 := mt (zle (x := iZ 0) (y := iZ v4_43) rfl rfl wn_0 ⟨by omega, by omega⟩).mpr c_17
                    refine lv_iconst (v := iZ 0) hx hb dX12_goes_120 rfl ?_
                    refine lv_goto (tgt := 135) hx hb dX12_goes_121 rfl ?_
                    refine lv_iload_n hx hb dX12_goes_135 rfl (lv_at hl 2 rfl) ?_
                    refine lv_ishl hx hb dX12_goes_136 ?_
                    refine lv_topi (fun x_26 ex_26 => ?_)
                    obtain ⟨z_25, hz_25, hz_25a, hz_25b⟩ := i32_z x_26
                    subst hz_25
                    refine lv_ior hx hb dX12_goes_137 ?_
                    refine lv_topi (fun x_28 ex_28 => ?_)
                    obtain ⟨z_27, hz_27, hz_27a, hz_27b⟩ := i32_z x_28
                    subst hz_27
                    refine lv_istore_n (lv' := [(2, .int (iZ z_27)), (5, .int (iZ v5_43)), (4, .int (iZ v4_43)), (3, .int (iZ v3_27)), (1, .int (iZ ((gz Af 3) + 1))), (0, .ref hm)]) hx hb dX12_goes_138 rfl hl (bl rfl) rfl (fun ls hl => ?_)
                    refine lv_iinc (v := iZ (v3_27 + 1)) (lv' := [(3, .int (iZ (v3_27 + 1))), (2, .int (iZ z_27)), (5, .int (iZ v5_43)), (4, .int (iZ v4_43)), (1, .int (iZ ((gz Af 3) + 1))), (0, .ref hm)]) hx hb dX12_goes_139 hl (k := 3) rfl (iZ_add v3_27 1) (by decide) rfl (fun ls hl => ?_)
                    refine lv_goto (tgt := 27) hx hb dX12_goes_142 rfl ?_
                    exact ih27  z_27 (v3_27 + 1) _ _ _ (by omega) (show (0 ≤ (v3_27 + 1) ∧ (v3_27 + 1) ≤ (gz Af 0) + 1) from ⟨by omega, by omega⟩) (show -2147483648 ≤ z_27 ∧ z_27 < 2147483648 from (by omega)) (hP.sub [0, 1] rfl) (hD.sub [0, 1] rfl rfl) hS (lv_sub hl [0, 1, 4, 5] rfl)
                ·
                  have c_16 := mt (zle (x := iZ v4_43) (y := iZ 0) rfl rfl ⟨by omega, by omega⟩ wn_0).mpr c_16
                  refine lv_iconst (v := iZ 1) hx hb dX12_goes_111 rfl ?_
                  refine lv_goto (tgt := 135) hx hb dX12_goes_112 rfl ?_
                  refine lv_iload_n hx hb dX12_goes_135 rfl (lv_at hl 2 rfl) ?_
                  refine lv_ishl hx hb dX12_goes_136 ?_
                  refine lv_topi (fun x_30 ex_30 => ?_)
                  obtain ⟨z_29, hz_29, hz_29a, hz_29b⟩ := i32_z x_30
                  subst hz_29
                  refine lv_ior hx hb dX12_goes_137 ?_
                  refine lv_topi (fun x_32 ex_32 => ?_)
                  obtain ⟨z_31, hz_31, hz_31a, hz_31b⟩ := i32_z x_32
                  subst hz_31
                  refine lv_istore_n (lv' := [(2, .int (iZ z_31)), (5, .int (iZ v5_43)), (4, .int (iZ v4_43)), (3, .int (iZ v3_27)), (1, .int (iZ ((gz Af 3) + 1))), (0, .ref hm)]) hx hb dX12_goes_138 rfl hl (bl rfl) rfl (fun ls hl => ?_)
                  refine lv_iinc (v := iZ (v3_27 + 1)) (lv' := [(3, .int (iZ (v3_27 + 1))), (2, .int (iZ z_31)), (5, .int (iZ v5_43)), (4, .int (iZ v4_43)), (1, .int (iZ ((gz Af 3) + 1))), (0, .ref hm)]) hx hb dX12_goes_139 hl (k := 3) rfl (iZ_add v3_27 1) (by decide) rfl (fun ls hl => ?_)
                  refine lv_goto (tgt := 27) hx hb dX12_goes_142 rfl ?_
                  exact ih27  z_31 (v3_27 + 1) _ _ _ (by omega) (show (0 ≤ (v3_27 + 1) ∧ (v3_27 + 1) ≤ (gz Af 0) + 1) from ⟨by omega, by omega⟩) (show -2147483648 ≤ z_31 ∧ z_31 < 2147483648 from (by omega)) (hP.sub [0, 1] rfl) (hD.sub [0, 1] rfl rfl) hS (lv_sub hl [0, 1, 4, 5] rfl)
              ·
                have c_15 := mt (zle (x := iZ (gz Af 0)) (y := iZ v5_43) rfl rfl (gz_rg Af 0) ⟨by omega, by omega⟩).mpr c_15
                refine lv_iload hx hb dX12_goes_54 (lv_at hl 0 rfl) ?_
                refine lv_iload_n hx hb dX12_goes_56 rfl (lv_at hl 2 rfl) ?_
                refine lv_icmp_ne (tgt := 64) hx hb dX12_goes_57 rfl (fun c_33 => ?_) (fun c_33 => ?_)
                ·
                  have c_33 := mt (zeq (x := iZ v5_43) (y := iZ v3_27) rfl rfl ⟨by omega, by omega⟩ ⟨by omega, by omega⟩).mpr c_33
                  refine lv_aload_n hx hb dX12_goes_64 rfl (lv_at hl 5 rfl) ?_
                  refine lv_iload_n hx hb dX12_goes_65 rfl (lv_at hl 2 rfl) ?_
                  refine lv_iload hx hb dX12_goes_66 (lv_at hl 0 rfl) ?_
                  refine lv_iload_n hx hb dX12_goes_68 rfl (lv_at hl 4 rfl) ?_
                  refine CPV (As := [.int (iZ v3_27), .int (iZ v5_43), .int (iZ ((gz Af 3) + 1))]) (rest := []) hx hb hml hown hts hKK hP (m_fseen l D k fs hm Ma Af v3_27 v5_43 ((gz Af 3) + 1) f0 hM ⟨by omega, by omega⟩ ⟨by omega, by omega⟩ ⟨by omega, by omega⟩) ci_X12_fashionSeen qm_X12_366 ⟨Nat.le_of_ble_eq_true rfl, Nat.le_of_ble_eq_true rfl⟩ ⟨Nat.le_of_ble_eq_true rfl, Nat.le_of_ble_eq_true rfl⟩ 0 rfl rfl rfl hl.1 rfl (Nat.le_of_ble_eq_true rfl) dX12_goes_69 (fun z_34 hz_34 => ?_)
                  refine lv_istore (lv' := [(6, .int (iZ z_34)), (5, .int (iZ v5_43)), (4, .int (iZ v4_43)), (3, .int (iZ v3_27)), (2, .int (iZ v2_27)), (1, .int (iZ ((gz Af 3) + 1))), (0, .ref hm)]) hx hb dX12_goes_72 hl (bl rfl) rfl (fun ls hl => ?_)
                  refine lv_iload hx hb dX12_goes_74 (lv_at hl 2 rfl) ?_
                  refine lv_iload hx hb dX12_goes_76 (lv_at hl 0 rfl) ?_
                  refine lv_iconst (v := iZ 1) hx hb dX12_goes_78 rfl ?_
                  refine lv_icmp_ne (tgt := 86) hx hb dX12_goes_79 rfl (fun c_35 => ?_) (fun c_35 => ?_)
                  ·
                    have c_35 := mt (zeq (x := iZ z_34) (y := iZ 1) rfl rfl ⟨by omega, by omega⟩ wn_1).mpr c_35
                    refine lv_iload hx hb dX12_goes_86 (lv_at hl 0 rfl) ?_
                    refine lv_if_ne (tgt := 95) hx hb dX12_goes_88 rfl (fun c_36 => ?_) (fun c_36 => ?_)
                    ·
                      have c_36 := mt (zeq (x := iZ z_34) (y := iZ 0) rfl rfl ⟨by omega, by omega⟩ wn_0).mpr c_36
                      refine lv_iconst (v := iZ 0) hx hb dX12_goes_95 rfl ?_
                      refine lv_iadd hx hb dX12_goes_96 ?_
                      refine lv_topi (fun x_37 ex_37 => ?_)
                      obtain rfl : x_37 = iZ (v4_43 + 0) := ex_37.trans (iZ_add v4_43 0)
                      refine lv_istore (lv' := [(4, .int (iZ (v4_43 + 0))), (6, .int (iZ z_34)), (5, .int (iZ v5_43)), (3, .int (iZ v3_27)), (2, .int (iZ v2_27)), (1, .int (iZ ((gz Af 3) + 1))), (0, .ref hm)]) hx hb dX12_goes_97 hl (bl rfl) rfl (fun ls hl => ?_)
                      refine lv_iinc (v := iZ (v5_43 + 1)) (lv' := [(5, .int (iZ (v5_43 + 1))), (4, .int (iZ (v4_43 + 0))), (6, .int (iZ z_34)), (3, .int (iZ v3_27)), (2, .int (iZ v2_27)), (1, .int (iZ ((gz Af 3) + 1))), (0, .ref hm)]) hx hb dX12_goes_99 hl (k := 2) rfl (iZ_add v5_43 1) (by decide) rfl (fun ls hl => ?_)
                      refine lv_goto (tgt := 43) hx hb dX12_goes_102 rfl ?_
                      exact ih43  (v4_43 + 0) (v5_43 + 1) _ _ _ (by omega) (show (0 ≤ (v5_43 + 1) ∧ (v5_43 + 1) ≤ (gz Af 0) + 1) from ⟨by omega, by omega⟩) (show -((v5_43 + 1)) ≤ (v4_43 + 0) ∧ (v4_43 + 0) ≤ (v5_43 + 1) from (by omega)) (hP.sub [0, 1] rfl) (hD.sub [0, 1] rfl rfl) hS (lv_sub hl [0, 1, 3, 4, 5, 6] rfl)
                    ·
                      have c_36 := (zeq (x := iZ z_34) (y := iZ 0) rfl rfl ⟨by omega, by omega⟩ wn_0).mp c_36
                      refine lv_iconst (v := iZ (-1)) hx hb dX12_goes_91 rfl ?_
                      refine lv_goto (tgt := 96) hx hb dX12_goes_92 rfl ?_
                      refine lv_iadd hx hb dX12_goes_96 ?_
                      refine lv_topi (fun x_38 ex_38 => ?_)
                      obtain rfl : x_38 = iZ (v4_43 + (-1)) := ex_38.trans (iZ_add v4_43 (-1))
                      refine lv_istore (lv' := [(4, .int (iZ (v4_43 + (-1)))), (6, .int (iZ z_34)), (5, .int (iZ v5_43)), (3, .int (iZ v3_27)), (2, .int (iZ v2_27)), (1, .int (iZ ((gz Af 3) + 1))), (0, .ref hm)]) hx hb dX12_goes_97 hl (bl rfl) rfl (fun ls hl => ?_)
                      refine lv_iinc (v := iZ (v5_43 + 1)) (lv' := [(5, .int (iZ (v5_43 + 1))), (4, .int (iZ (v4_43 + (-1)))), (6, .int (iZ z_34)), (3, .int (iZ v3_27)), (2, .int (iZ v2_27)), (1, .int (iZ ((gz Af 3) + 1))), (0, .ref hm)]) hx hb dX12_goes_99 hl (k := 2) rfl (iZ_add v5_43 1) (by decide) rfl (fun ls hl => ?_)
                      refine lv_goto (tgt := 43) hx hb dX12_goes_102 rfl ?_
                      exact ih43  (v4_43 + (-1)) (v5_43 + 1) _ _ _ (by omega) (show (0 ≤ (v5_43 + 1) ∧ (v5_43 + 1) ≤ (gz Af 0) + 1) from ⟨by omega, by omega⟩) (show -((v5_43 + 1)) ≤ (v4_43 + (-1)) ∧ (v4_43 + (-1)) ≤ (v5_43 + 1) from (by omega)) (hP.sub [0, 1] rfl) (hD.sub [0, 1] rfl rfl) hS (lv_sub hl [0, 1, 3, 4, 5, 6] rfl)
                  ·
                    have c_35 := (zeq (x := iZ z_34) (y := iZ 1) rfl rfl ⟨by omega, by omega⟩ wn_1).mp c_35
                    refine lv_iconst (v := iZ 1) hx hb dX12_goes_82 rfl ?_
                    refine lv_goto (tgt := 96) hx hb dX12_goes_83 rfl ?_
                    refine lv_iadd hx hb dX12_goes_96 ?_
                    refine lv_topi (fun x_39 ex_39 => ?_)
                    obtain rfl : x_39 = iZ (v4_43 + 1) := ex_39.trans (iZ_add v4_43 1)
                    refine lv_istore (lv' := [(4, .int (iZ (v4_43 + 1))), (6, .int (iZ z_34)), (5, .int (iZ v5_43)), (3, .int (iZ v3_27)), (2, .int (iZ v2_27)), (1, .int (iZ ((gz Af 3) + 1))), (0, .ref hm)]) hx hb dX12_goes_97 hl (bl rfl) rfl (fun ls hl => ?_)
                    refine lv_iinc (v := iZ (v5_43 + 1)) (lv' := [(5, .int (iZ (v5_43 + 1))), (4, .int (iZ (v4_43 + 1))), (6, .int (iZ z_34)), (3, .int (iZ v3_27)), (2, .int (iZ v2_27)), (1, .int (iZ ((gz Af 3) + 1))), (0, .ref hm)]) hx hb dX12_goes_99 hl (k := 2) rfl (iZ_add v5_43 1) (by decide) rfl (fun ls hl => ?_)
                    refine lv_goto (tgt := 43) hx hb dX12_goes_102 rfl ?_
                    exact ih43  (v4_43 + 1) (v5_43 + 1) _ _ _ (by omega) (show (0 ≤ (v5_43 + 1) ∧ (v5_43 + 1) ≤ (gz Af 0) + 1) from ⟨by omega, by omega⟩) (show -((v5_43 + 1)) ≤ (v4_43 + 1) ∧ (v4_43 + 1) ≤ (v5_43 + 1) from (by omega)) (hP.sub [0, 1] rfl) (hD.sub [0, 1] rfl rfl) hS (lv_sub hl [0, 1, 3, 4, 5, 6] rfl)
                ·
                  have c_33 := (zeq (x := iZ v5_43) (y := iZ v3_27) rfl rfl ⟨by omega, by omega⟩ ⟨by omega, by omega⟩).mp c_33
                  refine lv_iconst (v := iZ (-1)) hx hb dX12_goes_60 rfl ?_
                  refine lv_goto (tgt := 72) hx hb dX12_goes_61 rfl ?_
                  refine lv_istore (lv' := [(6, .int (iZ (-1))), (5, .int (iZ v5_43)), (4, .int (iZ v4_43)), (3, .int (iZ v3_27)), (2, .int (iZ v2_27)), (1, .int (iZ ((gz Af 3) + 1))), (0, .ref hm)]) hx hb dX12_goes_72 hl (bl rfl) rfl (fun ls hl => ?_)
                  refine lv_iload hx hb dX12_goes_74 (lv_at hl 2 rfl) ?_
                  refine lv_iload hx hb dX12_goes_76 (lv_at hl 0 rfl) ?_
                  refine lv_iconst (v := iZ 1) hx hb dX12_goes_78 rfl ?_
                  refine lv_icmp_ne (tgt := 86) hx hb dX12_goes_79 rfl (fun _ => ?_) (fun c => absurd c (by decide))
                  refine lv_iload hx hb dX12_goes_86 (lv_at hl 0 rfl) ?_
                  refine lv_if_ne (tgt := 95) hx hb dX12_goes_88 rfl (fun _ => ?_) (fun c => absurd c (by decide))
                  refine lv_iconst (v := iZ 0) hx hb dX12_goes_95 rfl ?_
                  refine lv_iadd hx hb dX12_goes_96 ?_
                  refine lv_topi (fun x_42 ex_42 => ?_)
                  obtain rfl : x_42 = iZ (v4_43 + 0) := ex_42.trans (iZ_add v4_43 0)
                  refine lv_istore (lv' := [(4, .int (iZ (v4_43 + 0))), (6, .int (iZ (-1))), (5, .int (iZ v5_43)), (3, .int (iZ v3_27)), (2, .int (iZ v2_27)), (1, .int (iZ ((gz Af 3) + 1))), (0, .ref hm)]) hx hb dX12_goes_97 hl (bl rfl) rfl (fun ls hl => ?_)
                  refine lv_iinc (v := iZ (v5_43 + 1)) (lv' := [(5, .int (iZ (v5_43 + 1))), (4, .int (iZ (v4_43 + 0))), (6, .int (iZ (-1))), (3, .int (iZ v3_27)), (2, .int (iZ v2_27)), (1, .int (iZ ((gz Af 3) + 1))), (0, .ref hm)]) hx hb dX12_goes_99 hl (k := 2) rfl (iZ_add v5_43 1) (by decide) rfl (fun ls hl => ?_)
                  refine lv_goto (tgt := 43) hx hb dX12_goes_102 rfl ?_
                  exact ih43  (v4_43 + 0) (v5_43 + 1) _ _ _ (by omega) (show (0 ≤ (v5_43 + 1) ∧ (v5_43 + 1) ≤ (gz Af 0) + 1) from ⟨by omega, by omega⟩) (show -((v5_43 + 1)) ≤ (v4_43 + 0) ∧ (v4_43 + 0) ≤ (v5_43 + 1) from (by omega)) (hP.sub [0, 1] rfl) (hD.sub [0, 1] rfl rfl) hS (lv_sub hl [0, 1, 3, 4, 5, 6] rfl)
          exact HL43 10 0 0 _ _ _ (by omega) (show (0 ≤ 0 ∧ 0 ≤ (gz Af 0) + 1) from ⟨by omega, by omega⟩) (show -(0) ≤ 0 ∧ 0 ≤ 0 from (by omega)) (hP.sub [0, 1] rfl) (hD.sub [0, 1] rfl rfl) hS (lv_sub hl [0, 1, 2, 3, 4, 5] rfl)
    exact HL27 10 0 0 _ _ _ (by omega) (show (0 ≤ 0 ∧ 0 ≤ (gz Af 0) + 1) from ⟨by omega, by omega⟩) (show -2147483648 ≤ 0 ∧ 0 < 2147483648 from (by omega)) (hP.sub [0, 1] rfl) (hD.sub [0, 1] rfl rfl) hS (lv_sub hl [0, 1, 2, 3] rfl)
  ·
    have c_3 := (zeq (x := iZ (gz Af 3)) (y := iZ 400) rfl rfl (gz_rg Af 3) wn_400).mp c_3
    refine lv_iconst (v := iZ 0) hx hb dX12_goes_12 rfl ?_
    exact EWz hx hb hr hlocks hS (0, 0, Af, ()) rfl rfl ⟨(show M0 Af from hM), (show FR Af Af from (FR.rf Af)), (show 0 = 0 ∨ 0 = 1 from (Or.inl rfl))⟩ (hP.sub [0, 1] rfl) (hD.sub [0, 1] rfl rfl) dX12_goes_13
set_option maxHeartbeats 4000000 in
set_option maxRecDepth 100000 in
theorem m_draw (l : Launch) (D : va_G) (k : Nat → ClassId) (hm : Nat) (Ma : Nat) (Mn : Nat) (Ms : Nat) (My : Nat) (Mt : Nat) (Mp : Nat) (Mx : Nat) (Mo : Nat) (Mk : Nat) (Ml : Nat) (Mb : Nat) (Mh : Nat) (Mc : Nat) (Mz : Nat) (Mr : Nat) (Mq : Nat) (Mst : Int) (Mtd : Int) (Msz : Int) (Mtk : Int) (Mfr : Int) (Men : Int) (Mva : Int) (Mfk : Int) (Mfp : Int) (Mfs : Int) (Mse : Int) (Mlt : Int) (Mdp : Int) (Mct : Int) (Mdr : Int) (Mrs : Int) (Mit : Int) (Mmk : Int) (Mtp : Int64) (Mbt : Int64) (hdr : 0 ≤ Mdr ∧ Mdr ≤ 65535) : WD (σ := ((Int × Int) × (Int64) × (Unit) × (Unit))) l yX12_draw cX12_draw 1 (some .int) 0 0 0 D k [.ref hm] [(hm, .inr (12, [.ref Ma, .ref Mn, .int (iZ Mst), .long Mtp, .long Mbt, .ref Ms, .ref My, .ref Mt, .ref Mp, .ref Mx, .int (iZ Mtd), .int (iZ Msz), .int (iZ Mtk), .int (iZ Mfr), .int (iZ Men), .int (iZ Mva), .int (iZ Mfk), .int (iZ Mfp), .int (iZ Mfs), .int (iZ Mse), .int (iZ Mlt), .ref Mo, .int (iZ Mdp), .int (iZ Mct), .ref Mk, .ref Ml, .ref Mb, .ref Mh, .ref Mc, .int (iZ Mdr), .int (iZ Mrs), .ref Mz, .ref Mr, .ref Mq, .int (iZ Mit), .int (iZ Mmk)]))] (fun u => some (.int (iZ u.1.1))) (fun u => (0 ≤ u.1.2 ∧ u.1.2 ≤ 65535) ∧ 0 ≤ u.1.1 ∧ u.1.1 ≤ 15) (fun u => [(hm, .inr (12, [.ref Ma, .ref Mn, .int (iZ Mst), .long Mtp, .long Mbt, .ref Ms, .ref My, .ref Mt, .ref Mp, .ref Mx, .int (iZ Mtd), .int (iZ Msz), .int (iZ Mtk), .int (iZ Mfr), .int (iZ Men), .int (iZ Mva), .int (iZ Mfk), .int (iZ Mfp), .int (iZ Mfs), .int (iZ Mse), .int (iZ Mlt), .ref Mo, .int (iZ Mdp), .int (iZ Mct), .ref Mk, .ref Ml, .ref Mb, .ref Mh, .ref Mc, .int (iZ u.1.2), .int (iZ Mrs), .ref Mz, .ref Mr, .ref Mq, .int (iZ Mit), .int (iZ Mmk)]))]) := by
  refine MW (by decide) (Nat.le_of_ble_eq_true rfl) (fun p e s m below meth c ls A hx hb hml hr hlocks hin hts hown hKK hP hD hS hA hl => ?_)
  have hK := hKK.1
  have hl : lv_has ls 1 [(0, .ref hm)] := hl
  refine lv_aload_n hx hb dX12_draw_0 rfl (lv_at hl 0 rfl) ?_
  refine lv_aload_n hx hb dX12_draw_1 rfl (lv_at hl 0 rfl) ?_
  refine va_get (D := D) (ci := 12) (v := .int (iZ Mdr)) (C := RX12) (T := TX12) (N := 36) hx hb hts iX12 hown hK hP 0 rfl rfl 29 (bl rfl) (hts _ qf_X12_380) (fun _ h => h) rfl dX12_draw_2 ?_
  refine lv_sipush (v := iZ 2893) hx hb dX12_draw_5 sip_2893 ?_
  refine lv_imul hx hb dX12_draw_8 ?_
  refine lv_topi (fun x_1 ex_1 => ?_)
  obtain rfl : x_1 = iZ (Mdr * 2893) := ex_1.trans (iZ_mul Mdr 2893)
  refine lv_sipush (v := iZ 11093) hx hb dX12_draw_9 sip_11093 ?_
  refine lv_iadd hx hb dX12_draw_12 ?_
  refine lv_topi (fun x_2 ex_2 => ?_)
  obtain rfl : x_2 = iZ ((Mdr * 2893) + 11093) := ex_2.trans (iZ_add (Mdr * 2893) 11093)
  refine lv_ldcw (own := RX12) (v := 65536) hx hb hown (hts _ qk_X12_383) dX12_draw_13 ?_
  refine W.eq (g2 := F0 m 16 ls [.int (iZ 65536), .int (iZ ((Mdr * 2893) + 11093)), .ref hm]) rfl ?_
  refine lv_irem hx hb dX12_draw_16 (by rw [zne rfl ⟨by omega, by omega⟩]; omega) ?_
  refine lv_topi (fun x_3 ex_3 => ?_)
  obtain rfl : x_3 = iZ (((Mdr * 2893) + 11093) % 65536) := ex_3.trans (iZ_rem (a := ((Mdr * 2893) + 11093)) (b := 65536) (by omega) (by omega) (by omega) (by omega))
  refine va_put (D := D) (ci := 12) (v := .int (iZ (((Mdr * 2893) + 11093) % 65536))) (ty := .int) (C := RX12) (T := TX12) (N := 36) hx hb hts iX12 tyX12 tyX12_ok nmX12 hown hK hP hD hS 0 rfl rfl 29 (bl rfl) (hts _ qf_X12_380) (fun _ h => h) rfl (by decide +kernel) rfl rfl (Nat.le_of_ble_eq_true rfl) dX12_draw_17 (fun H locs hP hD hS => ?_)
  refine lv_aload_n hx hb dX12_draw_20 rfl (lv_at hl 0 rfl) ?_
  refine va_get (D := D) (ci := 12) (v := .int (iZ (((Mdr * 2893) + 11093) % 65536))) (C := RX12) (T := TX12) (N := 36) hx hb hts iX12 hown hK hP 0 rfl rfl 29 (bl rfl) (hts _ qf_X12_380) (fun _ h => h) rfl dX12_draw_21 ?_
  refine lv_bipush (v := iZ 8) hx hb dX12_draw_24 bip_8 ?_
  refine lv_idiv hx hb dX12_draw_26 (by rw [zne rfl ⟨by omega, by omega⟩]; omega) ?_
  have hd_26 := zdiv_b (a := (((Mdr * 2893) + 11093) % 65536)) (b := 8) (by omega) (by omega)
  refine lv_topi (fun x_4 ex_4 => ?_)
  obtain rfl : x_4 = iZ ((((Mdr * 2893) + 11093) % 65536) / 8) := ex_4.trans (iZ_div (a := (((Mdr * 2893) + 11093) % 65536)) (b := 8) (by omega) (by omega) (by omega) (by omega))
  refine lv_bipush (v := iZ 16) hx hb dX12_draw_27 bip_16 ?_
  refine lv_irem hx hb dX12_draw_29 (by rw [zne rfl ⟨by omega, by omega⟩]; omega) ?_
  refine lv_topi (fun x_5 ex_5 => ?_)
  obtain rfl : x_5 = iZ (((((Mdr * 2893) + 11093) % 65536) / 8) % 16) := ex_5.trans (iZ_rem (a := ((((Mdr * 2893) + 11093) % 65536) / 8)) (b := 16) (by omega) (by omega) (by omega) (by omega))
  exact EWi hx hb hr hlocks hS (((((((Mdr * 2893) + 11093) % 65536) / 8) % 16), (((Mdr * 2893) + 11093) % 65536)), 0, (), ()) rfl (show (0 ≤ (((Mdr * 2893) + 11093) % 65536) ∧ (((Mdr * 2893) + 11093) % 65536) ≤ 65535) ∧ 0 ≤ (((((Mdr * 2893) + 11093) % 65536) / 8) % 16) ∧ (((((Mdr * 2893) + 11093) % 65536) / 8) % 16) ≤ 15 from (by omega)) (hP.sub [0] rfl) (hD.sub [0] rfl rfl) dX12_draw_30
set_option maxHeartbeats 4000000 in
set_option maxRecDepth 100000 in
theorem m_bits (l : Launch) (D : va_G) (k : Nat → ClassId) (x : Int) (h9x : -2147483648 ≤ x ∧ x < 2147483648) : RP l yX12_bits cX12_bits 3 (some .int) 0 D k [.int (iZ x)] [] (fun z => ∃ v9 : Int, z = v9) := by
  refine MRP (by decide) (Nat.le_of_ble_eq_true rfl) (fun p e s m below meth c ls hx hb hml hr hlocks hts hown hKK hP hl => ?_)
  have hK := hKK.1
  have hl : lv_has ls 3 [(0, .int (iZ x))] := hl
  refine lv_iconst (v := iZ 0) hx hb dX12_bits_0 rfl ?_
  refine lv_istore_n (lv' := [(1, .int (iZ 0)), (0, .int (iZ x))]) hx hb dX12_bits_1 rfl hl (bl rfl) rfl (fun ls hl => ?_)
  refine lv_iload_n hx hb dX12_bits_2 rfl (lv_at hl 1 rfl) ?_
  refine lv_istore_n (lv' := [(2, .int (iZ x)), (1, .int (iZ 0)), (0, .int (iZ x))]) hx hb dX12_bits_3 rfl hl (bl rfl) rfl (fun ls hl => ?_)
  have HL1 : ∀ (fu : Nat) (ct kk : Int) (ls : Array Slot), ((um kk : Nat) : Int) < (fu : Int) → (-2147483648 ≤ kk ∧ kk < 2147483648) → lv_has ls 3 [(2, .int (iZ kk)), (1, .int (iZ ct)), (0, .int (iZ x))] → W p l e (rj 0 0 0) s m [.int (iZ x)].toArray below meth c s.heap [] 0 0 (MQ below (QcP (fun z => ∃ v9 : Int, z = v9)) [.int (iZ x)].toArray s 0 0 (fun _ => False)) (F0 m 4 ls []) := by
    intro fu
    induction fu with
    | zero => intro ct kk ls hμ1 hkk hl; exact absurd hμ1 (by omega)
    | succ fu ih1 =>
      intro ct kk ls hμ1 hkk hl
      refine lv_iload_n hx hb dX12_bits_4 rfl (lv_at hl 0 rfl) ?_
      refine lv_if_eq (tgt := 20) hx hb dX12_bits_5 rfl (fun c_1 => ?_) (fun c_1 => ?_)
      ·
        have c_1 := (zeq (x := iZ kk) (y := iZ 0) rfl rfl ⟨by omega, by omega⟩ wn_0).mp c_1
        refine lv_iload_n hx hb dX12_bits_20 rfl (lv_at hl 1 rfl) ?_
        exact EPi hx hb hr hlocks ⟨_, rfl⟩ dX12_bits_21
      ·
        have c_1 := mt (zeq (x := iZ kk) (y := iZ 0) rfl rfl ⟨by omega, by omega⟩ wn_0).mpr c_1
        refine lv_iinc (v := iZ (ct + 1)) (lv' := [(1, .int (iZ (ct + 1))), (2, .int (iZ kk)), (0, .int (iZ x))]) hx hb dX12_bits_8 hl (k := 1) rfl (iZ_add ct 1) (by decide) rfl (fun ls hl => ?_)
        refine lv_iload_n hx hb dX12_bits_11 rfl (lv_at hl 1 rfl) ?_
        refine lv_iload_n hx hb dX12_bits_12 rfl (lv_at hl 1 rfl) ?_
        refine lv_iconst (v := iZ 1) hx hb dX12_bits_13 rfl ?_
        refine lv_isub hx hb dX12_bits_14 ?_
        refine lv_topi (fun x_2 ex_2 => ?_)
        obtain rfl : x_2 = iZ (kk - 1) := ex_2.trans (iZ_sub kk 1)
        refine lv_iand hx hb dX12_bits_15 ?_
        refine lv_topi (fun x_4 ex_4 => ?_)
        obtain ⟨z_3, hz_3, hz_3a, hz_3b⟩ := i32_z x_4
        subst hz_3
        have hum := um_lt hkk (by omega) (by assumption)
        refine lv_istore_n (lv' := [(2, .int (iZ z_3)), (1, .int (iZ (ct + 1))), (0, .int (iZ x))]) hx hb dX12_bits_16 rfl hl (bl rfl) rfl (fun ls hl => ?_)
        refine lv_goto (tgt := 4) hx hb dX12_bits_17 rfl ?_
        exact ih1  (ct + 1) z_3 _ (by omega) ⟨by omega, by omega⟩ (lv_sub hl [0, 1, 2] rfl)
  exact HL1 (um x + 1) 0 x _ (by omega) h9x (lv_sub hl [0, 1, 2] rfl)
end
