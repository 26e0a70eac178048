section
theorem qf_X12_13 : Cond.fieldLink RX12 13 "SlowWorldsModel" "names" "[J" ∈ gw := tbt (tb6 (List.mem_of_getElem? (i := 45) rfl)) rfl
theorem qf_X12_412 : Cond.fieldLink RX12 412 "SlowWorldsModel" "marks" "I" ∈ gw := tbt (tb6 (List.mem_of_getElem? (i := 79) rfl)) rfl
theorem qc_X12_copies : Cond.code yX12_copies cX12_copies 4 none ∈ gw := tbt (tb9 (List.mem_of_getElem? (i := 45) rfl)) rfl
theorem qi_yX12_copies : Cond.instanceMethod yX12_copies ∈ gw := tbt (tb9 (List.mem_of_getElem? (i := 44) rfl)) rfl
theorem qs_X12_copies : Cond.selects (yX12_copies).cls yX12_copies yX12_copies ∈ gw := tb0 (List.mem_of_getElem? (i := 104) rfl) rfl
theorem ci_X12_copies : CIv yX12_copies cX12_copies 4 none 2 := ⟨qc_X12_copies, qi_yX12_copies, qs_X12_copies, qz_X12, by decide +kernel⟩
theorem qm_X12_415 : Cond.methodLink RX12 415 yX12_copies ∈ gw := tbt (tb9 (List.mem_of_getElem? (i := 42) rfl)) rfl
def fb_X12_back_0 : List UInt8 := [0x2a, 0xb4, 0x01, 0x9c, 0x9a, 0x00, 0x0a, 0x2a, 0x10, 0x06, 0xb6, 0x00, 0x51, 0xac, 0x2a, 0x2a, 0xb4, 0x01, 0x9c, 0x03, 0xb6, 0x01, 0x9f, 0x2a, 0x59, 0xb4, 0x01, 0x9c, 0x04, 0x64, 0xb5, 0x01, 0x9c, 0x2a, 0x2a, 0xb4, 0x01, 0x9c, 0xb6, 0x00, 0x55, 0xac]
theorem fl_X12_back_0 {p j : Nat} {b : UInt8} (e : p = 0 + j) (h : fb_X12_back_0[j]? = some b) : cX12_back.data.toList[p]? = some b := fq_l (n := 64) (show (cX12_back.data.toList.drop 0).take 64 = fb_X12_back_0 by decide +kernel) e h
theorem dX12_back_0 : decode cX12_back 0 = .ok (.aload_n 0, 1) := fq1_42 (fl_X12_back_0 (j := 0) rfl rfl)
theorem dX12_back_1 : decode cX12_back 1 = .ok (.getfield 412, 3) := fq3_180 (fl_X12_back_0 (j := 1) rfl rfl) (fl_X12_back_0 (j := 2) rfl rfl) (fl_X12_back_0 (j := 3) rfl rfl) rfl
theorem dX12_back_4 : decode cX12_back 4 = .ok (.ifCond .ne 10, 3) := fq3_154 (fl_X12_back_0 (j := 4) rfl rfl) (fl_X12_back_0 (j := 5) rfl rfl) (fl_X12_back_0 (j := 6) rfl rfl) (s2p rfl (bl rfl))
theorem dX12_back_7 : decode cX12_back 7 = .ok (.aload_n 0, 1) := fq1_42 (fl_X12_back_0 (j := 7) rfl rfl)
theorem dX12_back_8 : decode cX12_back 8 = .ok (.bipush 6, 2) := fq2_16 (fl_X12_back_0 (j := 8) rfl rfl) (fl_X12_back_0 (j := 9) rfl rfl) (s1p rfl (bl rfl))
theorem dX12_back_10 : decode cX12_back 10 = .ok (.invokevirtual 81, 3) := fq3_182 (fl_X12_back_0 (j := 10) rfl rfl) (fl_X12_back_0 (j := 11) rfl rfl) (fl_X12_back_0 (j := 12) rfl rfl) rfl
theorem dX12_back_13 : decode cX12_back 13 = .ok (.ireturn, 1) := fq1_172 (fl_X12_back_0 (j := 13) rfl rfl)
theorem dX12_back_14 : decode cX12_back 14 = .ok (.aload_n 0, 1) := fq1_42 (fl_X12_back_0 (j := 14) rfl rfl)
theorem dX12_back_15 : decode cX12_back 15 = .ok (.aload_n 0, 1) := fq1_42 (fl_X12_back_0 (j := 15) rfl rfl)
theorem dX12_back_16 : decode cX12_back 16 = .ok (.getfield 412, 3) := fq3_180 (fl_X12_back_0 (j := 16) rfl rfl) (fl_X12_back_0 (j := 17) rfl rfl) (fl_X12_back_0 (j := 18) rfl rfl) rfl
theorem dX12_back_19 : decode cX12_back 19 = .ok (.iconst 0, 1) := fq1_3 (fl_X12_back_0 (j := 19) rfl rfl)
theorem dX12_back_20 : decode cX12_back 20 = .ok (.invokevirtual 415, 3) := fq3_182 (fl_X12_back_0 (j := 20) rfl rfl) (fl_X12_back_0 (j := 21) rfl rfl) (fl_X12_back_0 (j := 22) rfl rfl) rfl
theorem dX12_back_23 : decode cX12_back 23 = .ok (.aload_n 0, 1) := fq1_42 (fl_X12_back_0 (j := 23) rfl rfl)
theorem dX12_back_24 : decode cX12_back 24 = .ok (.dup, 1) := fq1_89 (fl_X12_back_0 (j := 24) rfl rfl)
theorem dX12_back_25 : decode cX12_back 25 = .ok (.getfield 412, 3) := fq3_180 (fl_X12_back_0 (j := 25) rfl rfl) (fl_X12_back_0 (j := 26) rfl rfl) (fl_X12_back_0 (j := 27) rfl rfl) rfl
theorem dX12_back_28 : decode cX12_back 28 = .ok (.iconst 1, 1) := fq1_4 (fl_X12_back_0 (j := 28) rfl rfl)
theorem dX12_back_29 : decode cX12_back 29 = .ok (.isub, 1) := fq1_100 (fl_X12_back_0 (j := 29) rfl rfl)
theorem dX12_back_30 : decode cX12_back 30 = .ok (.putfield 412, 3) := fq3_181 (fl_X12_back_0 (j := 30) rfl rfl) (fl_X12_back_0 (j := 31) rfl rfl) (fl_X12_back_0 (j := 32) rfl rfl) rfl
theorem dX12_back_33 : decode cX12_back 33 = .ok (.aload_n 0, 1) := fq1_42 (fl_X12_back_0 (j := 33) rfl rfl)
theorem dX12_back_34 : decode cX12_back 34 = .ok (.aload_n 0, 1) := fq1_42 (fl_X12_back_0 (j := 34) rfl rfl)
theorem dX12_back_35 : decode cX12_back 35 = .ok (.getfield 412, 3) := fq3_180 (fl_X12_back_0 (j := 35) rfl rfl) (fl_X12_back_0 (j := 36) rfl rfl) (fl_X12_back_0 (j := 37) rfl rfl) rfl
theorem dX12_back_38 : decode cX12_back 38 = .ok (.invokevirtual 85, 3) := fq3_182 (fl_X12_back_0 (j := 38) rfl rfl) (fl_X12_back_0 (j := 39) rfl rfl) (fl_X12_back_0 (j := 40) rfl rfl) rfl
theorem dX12_back_41 : decode cX12_back 41 = .ok (.ireturn, 1) := fq1_172 (fl_X12_back_0 (j := 41) rfl rfl)
def fb_X12_copies_0 : List UInt8 := [0x03, 0x3e, 0x1d, 0x11, 0x03, 0x7a, 0xa2, 0x00, 0x21, 0x2a, 0xb4, 0x00, 0x07, 0x11, 0x03, 0x7a, 0x1c, 0x68, 0x1d, 0x60, 0x2a, 0xb4, 0x00, 0x07, 0x11, 0x03, 0x7a, 0x1b, 0x68, 0x1d, 0x60, 0x2e, 0x4f, 0x84, 0x03, 0x01, 0xa7, 0xff, 0xde, 0x03, 0x3e, 0x1d, 0x10, 0x06, 0xa2, 0x00, 0x1f, 0x2a, 0xb4, 0x00, 0x0d, 0x10, 0x06, 0x1c, 0x68, 0x1d, 0x60, 0x2a, 0xb4, 0x00, 0x0d, 0x10, 0x06, 0x1b]
theorem fl_X12_copies_0 {p j : Nat} {b : UInt8} (e : p = 0 + j) (h : fb_X12_copies_0[j]? = some b) : cX12_copies.data.toList[p]? = some b := fq_l (n := 64) (show (cX12_copies.data.toList.drop 0).take 64 = fb_X12_copies_0 by decide +kernel) e h
theorem dX12_copies_0 : decode cX12_copies 0 = .ok (.iconst 0, 1) := fq1_3 (fl_X12_copies_0 (j := 0) rfl rfl)
theorem dX12_copies_1 : decode cX12_copies 1 = .ok (.istore_n 3, 1) := fq1_62 (fl_X12_copies_0 (j := 1) rfl rfl)
theorem dX12_copies_2 : decode cX12_copies 2 = .ok (.iload_n 3, 1) := fq1_29 (fl_X12_copies_0 (j := 2) rfl rfl)
theorem dX12_copies_3 : decode cX12_copies 3 = .ok (.sipush 890, 3) := fq3_17 (fl_X12_copies_0 (j := 3) rfl rfl) (fl_X12_copies_0 (j := 4) rfl rfl) (fl_X12_copies_0 (j := 5) rfl rfl) (s2p rfl (bl rfl))
theorem dX12_copies_6 : decode cX12_copies 6 = .ok (.if_icmp .ge 33, 3) := fq3_162 (fl_X12_copies_0 (j := 6) rfl rfl) (fl_X12_copies_0 (j := 7) rfl rfl) (fl_X12_copies_0 (j := 8) rfl rfl) (s2p rfl (bl rfl))
theorem dX12_copies_9 : decode cX12_copies 9 = .ok (.aload_n 0, 1) := fq1_42 (fl_X12_copies_0 (j := 9) rfl rfl)
theorem dX12_copies_10 : decode cX12_copies 10 = .ok (.getfield 7, 3) := fq3_180 (fl_X12_copies_0 (j := 10) rfl rfl) (fl_X12_copies_0 (j := 11) rfl rfl) (fl_X12_copies_0 (j := 12) rfl rfl) rfl
theorem dX12_copies_13 : decode cX12_copies 13 = .ok (.sipush 890, 3) := fq3_17 (fl_X12_copies_0 (j := 13) rfl rfl) (fl_X12_copies_0 (j := 14) rfl rfl) (fl_X12_copies_0 (j := 15) rfl rfl) (s2p rfl (bl rfl))
theorem dX12_copies_16 : decode cX12_copies 16 = .ok (.iload_n 2, 1) := fq1_28 (fl_X12_copies_0 (j := 16) rfl rfl)
theorem dX12_copies_17 : decode cX12_copies 17 = .ok (.imul, 1) := fq1_104 (fl_X12_copies_0 (j := 17) rfl rfl)
theorem dX12_copies_18 : decode cX12_copies 18 = .ok (.iload_n 3, 1) := fq1_29 (fl_X12_copies_0 (j := 18) rfl rfl)
theorem dX12_copies_19 : decode cX12_copies 19 = .ok (.iadd, 1) := fq1_96 (fl_X12_copies_0 (j := 19) rfl rfl)
theorem dX12_copies_20 : decode cX12_copies 20 = .ok (.aload_n 0, 1) := fq1_42 (fl_X12_copies_0 (j := 20) rfl rfl)
theorem dX12_copies_21 : decode cX12_copies 21 = .ok (.getfield 7, 3) := fq3_180 (fl_X12_copies_0 (j := 21) rfl rfl) (fl_X12_copies_0 (j := 22) rfl rfl) (fl_X12_copies_0 (j := 23) rfl rfl) rfl
theorem dX12_copies_24 : decode cX12_copies 24 = .ok (.sipush 890, 3) := fq3_17 (fl_X12_copies_0 (j := 24) rfl rfl) (fl_X12_copies_0 (j := 25) rfl rfl) (fl_X12_copies_0 (j := 26) rfl rfl) (s2p rfl (bl rfl))
theorem dX12_copies_27 : decode cX12_copies 27 = .ok (.iload_n 1, 1) := fq1_27 (fl_X12_copies_0 (j := 27) rfl rfl)
theorem dX12_copies_28 : decode cX12_copies 28 = .ok (.imul, 1) := fq1_104 (fl_X12_copies_0 (j := 28) rfl rfl)
theorem dX12_copies_29 : decode cX12_copies 29 = .ok (.iload_n 3, 1) := fq1_29 (fl_X12_copies_0 (j := 29) rfl rfl)
theorem dX12_copies_30 : decode cX12_copies 30 = .ok (.iadd, 1) := fq1_96 (fl_X12_copies_0 (j := 30) rfl rfl)
theorem dX12_copies_31 : decode cX12_copies 31 = .ok (.iaload, 1) := fq1_46 (fl_X12_copies_0 (j := 31) rfl rfl)
theorem dX12_copies_32 : decode cX12_copies 32 = .ok (.iastore, 1) := fq1_79 (fl_X12_copies_0 (j := 32) rfl rfl)
theorem dX12_copies_33 : decode cX12_copies 33 = .ok (.iinc 3 1, 3) := fq3_132 (fl_X12_copies_0 (j := 33) rfl rfl) (fl_X12_copies_0 (j := 34) rfl rfl) (fl_X12_copies_0 (j := 35) rfl rfl) rfl (s1p rfl (bl rfl))
theorem dX12_copies_36 : decode cX12_copies 36 = .ok (.goto (-34), 3) := fq3_167 (fl_X12_copies_0 (j := 36) rfl rfl) (fl_X12_copies_0 (j := 37) rfl rfl) (fl_X12_copies_0 (j := 38) rfl rfl) (by decide)
theorem dX12_copies_39 : decode cX12_copies 39 = .ok (.iconst 0, 1) := fq1_3 (fl_X12_copies_0 (j := 39) rfl rfl)
theorem dX12_copies_40 : decode cX12_copies 40 = .ok (.istore_n 3, 1) := fq1_62 (fl_X12_copies_0 (j := 40) rfl rfl)
theorem dX12_copies_41 : decode cX12_copies 41 = .ok (.iload_n 3, 1) := fq1_29 (fl_X12_copies_0 (j := 41) rfl rfl)
theorem dX12_copies_42 : decode cX12_copies 42 = .ok (.bipush 6, 2) := fq2_16 (fl_X12_copies_0 (j := 42) rfl rfl) (fl_X12_copies_0 (j := 43) rfl rfl) (s1p rfl (bl rfl))
theorem dX12_copies_44 : decode cX12_copies 44 = .ok (.if_icmp .ge 31, 3) := fq3_162 (fl_X12_copies_0 (j := 44) rfl rfl) (fl_X12_copies_0 (j := 45) rfl rfl) (fl_X12_copies_0 (j := 46) rfl rfl) (s2p rfl (bl rfl))
theorem dX12_copies_47 : decode cX12_copies 47 = .ok (.aload_n 0, 1) := fq1_42 (fl_X12_copies_0 (j := 47) rfl rfl)
theorem dX12_copies_48 : decode cX12_copies 48 = .ok (.getfield 13, 3) := fq3_180 (fl_X12_copies_0 (j := 48) rfl rfl) (fl_X12_copies_0 (j := 49) rfl rfl) (fl_X12_copies_0 (j := 50) rfl rfl) rfl
theorem dX12_copies_51 : decode cX12_copies 51 = .ok (.bipush 6, 2) := fq2_16 (fl_X12_copies_0 (j := 51) rfl rfl) (fl_X12_copies_0 (j := 52) rfl rfl) (s1p rfl (bl rfl))
theorem dX12_copies_53 : decode cX12_copies 53 = .ok (.iload_n 2, 1) := fq1_28 (fl_X12_copies_0 (j := 53) rfl rfl)
theorem dX12_copies_54 : decode cX12_copies 54 = .ok (.imul, 1) := fq1_104 (fl_X12_copies_0 (j := 54) rfl rfl)
theorem dX12_copies_55 : decode cX12_copies 55 = .ok (.iload_n 3, 1) := fq1_29 (fl_X12_copies_0 (j := 55) rfl rfl)
theorem dX12_copies_56 : decode cX12_copies 56 = .ok (.iadd, 1) := fq1_96 (fl_X12_copies_0 (j := 56) rfl rfl)
theorem dX12_copies_57 : decode cX12_copies 57 = .ok (.aload_n 0, 1) := fq1_42 (fl_X12_copies_0 (j := 57) rfl rfl)
theorem dX12_copies_58 : decode cX12_copies 58 = .ok (.getfield 13, 3) := fq3_180 (fl_X12_copies_0 (j := 58) rfl rfl) (fl_X12_copies_0 (j := 59) rfl rfl) (fl_X12_copies_0 (j := 60) rfl rfl) rfl
theorem dX12_copies_61 : decode cX12_copies 61 = .ok (.bipush 6, 2) := fq2_16 (fl_X12_copies_0 (j := 61) rfl rfl) (fl_X12_copies_0 (j := 62) rfl rfl) (s1p rfl (bl rfl))
theorem dX12_copies_63 : decode cX12_copies 63 = .ok (.iload_n 1, 1) := fq1_27 (fl_X12_copies_0 (j := 63) rfl rfl)
def fb_X12_copies_1 : List UInt8 := [0x68, 0x1d, 0x60, 0x2f, 0x50, 0x84, 0x03, 0x01, 0xa7, 0xff, 0xe1, 0xb1]
theorem fl_X12_copies_1 {p j : Nat} {b : UInt8} (e : p = 64 + j) (h : fb_X12_copies_1[j]? = some b) : cX12_copies.data.toList[p]? = some b := fq_l (n := 64) (show (cX12_copies.data.toList.drop 64).take 64 = fb_X12_copies_1 by decide +kernel) e h
theorem dX12_copies_64 : decode cX12_copies 64 = .ok (.imul, 1) := fq1_104 (fl_X12_copies_1 (j := 0) rfl rfl)
theorem dX12_copies_65 : decode cX12_copies 65 = .ok (.iload_n 3, 1) := fq1_29 (fl_X12_copies_1 (j := 1) rfl rfl)
theorem dX12_copies_66 : decode cX12_copies 66 = .ok (.iadd, 1) := fq1_96 (fl_X12_copies_1 (j := 2) rfl rfl)
theorem dX12_copies_67 : decode cX12_copies 67 = .ok (.laload, 1) := fq1_47 (fl_X12_copies_1 (j := 3) rfl rfl)
theorem dX12_copies_68 : decode cX12_copies 68 = .ok (.lastore, 1) := fq1_80 (fl_X12_copies_1 (j := 4) rfl rfl)
theorem dX12_copies_69 : decode cX12_copies 69 = .ok (.iinc 3 1, 3) := fq3_132 (fl_X12_copies_1 (j := 5) rfl rfl) (fl_X12_copies_1 (j := 6) rfl rfl) (fl_X12_copies_1 (j := 7) rfl rfl) rfl (s1p rfl (bl rfl))
theorem dX12_copies_72 : decode cX12_copies 72 = .ok (.goto (-31), 3) := fq3_167 (fl_X12_copies_1 (j := 8) rfl rfl) (fl_X12_copies_1 (j := 9) rfl rfl) (fl_X12_copies_1 (j := 10) rfl rfl) (by decide)
theorem dX12_copies_75 : decode cX12_copies 75 = .ok (.return_, 1) := fq1_177 (fl_X12_copies_1 (j := 11) rfl rfl)
def fb_X12_mark_0 : List UInt8 := [0x2a, 0xb4, 0x01, 0x9c, 0x06, 0xa0, 0x00, 0x09, 0x2a, 0x07, 0xb6, 0x00, 0x51, 0xac, 0x2a, 0x59, 0xb4, 0x01, 0x9c, 0x04, 0x60, 0xb5, 0x01, 0x9c, 0x2a, 0x03, 0x2a, 0xb4, 0x01, 0x9c, 0xb6, 0x01, 0x9f, 0x2a, 0x2a, 0xb4, 0x01, 0x9c, 0xb6, 0x00, 0x55, 0xac]
theorem fl_X12_mark_0 {p j : Nat} {b : UInt8} (e : p = 0 + j) (h : fb_X12_mark_0[j]? = some b) : cX12_mark.data.toList[p]? = some b := fq_l (n := 64) (show (cX12_mark.data.toList.drop 0).take 64 = fb_X12_mark_0 by decide +kernel) e h
theorem dX12_mark_0 : decode cX12_mark 0 = .ok (.aload_n 0, 1) := fq1_42 (fl_X12_mark_0 (j := 0) rfl rfl)
theorem dX12_mark_1 : decode cX12_mark 1 = .ok (.getfield 412, 3) := fq3_180 (fl_X12_mark_0 (j := 1) rfl rfl) (fl_X12_mark_0 (j := 2) rfl rfl) (fl_X12_mark_0 (j := 3) rfl rfl) rfl
theorem dX12_mark_4 : decode cX12_mark 4 = .ok (.iconst 3, 1) := fq1_6 (fl_X12_mark_0 (j := 4) rfl rfl)
theorem dX12_mark_5 : decode cX12_mark 5 = .ok (.if_icmp .ne 9, 3) := fq3_160 (fl_X12_mark_0 (j := 5) rfl rfl) (fl_X12_mark_0 (j := 6) rfl rfl) (fl_X12_mark_0 (j := 7) rfl rfl) (s2p rfl (bl rfl))
theorem dX12_mark_8 : decode cX12_mark 8 = .ok (.aload_n 0, 1) := fq1_42 (fl_X12_mark_0 (j := 8) rfl rfl)
theorem dX12_mark_9 : decode cX12_mark 9 = .ok (.iconst 4, 1) := fq1_7 (fl_X12_mark_0 (j := 9) rfl rfl)
theorem dX12_mark_10 : decode cX12_mark 10 = .ok (.invokevirtual 81, 3) := fq3_182 (fl_X12_mark_0 (j := 10) rfl rfl) (fl_X12_mark_0 (j := 11) rfl rfl) (fl_X12_mark_0 (j := 12) rfl rfl) rfl
theorem dX12_mark_13 : decode cX12_mark 13 = .ok (.ireturn, 1) := fq1_172 (fl_X12_mark_0 (j := 13) rfl rfl)
theorem dX12_mark_14 : decode cX12_mark 14 = .ok (.aload_n 0, 1) := fq1_42 (fl_X12_mark_0 (j := 14) rfl rfl)
theorem dX12_mark_15 : decode cX12_mark 15 = .ok (.dup, 1) := fq1_89 (fl_X12_mark_0 (j := 15) rfl rfl)
theorem dX12_mark_16 : decode cX12_mark 16 = .ok (.getfield 412, 3) := fq3_180 (fl_X12_mark_0 (j := 16) rfl rfl) (fl_X12_mark_0 (j := 17) rfl rfl) (fl_X12_mark_0 (j := 18) rfl rfl) rfl
theorem dX12_mark_19 : decode cX12_mark 19 = .ok (.iconst 1, 1) := fq1_4 (fl_X12_mark_0 (j := 19) rfl rfl)
theorem dX12_mark_20 : decode cX12_mark 20 = .ok (.iadd, 1) := fq1_96 (fl_X12_mark_0 (j := 20) rfl rfl)
theorem dX12_mark_21 : decode cX12_mark 21 = .ok (.putfield 412, 3) := fq3_181 (fl_X12_mark_0 (j := 21) rfl rfl) (fl_X12_mark_0 (j := 22) rfl rfl) (fl_X12_mark_0 (j := 23) rfl rfl) rfl
theorem dX12_mark_24 : decode cX12_mark 24 = .ok (.aload_n 0, 1) := fq1_42 (fl_X12_mark_0 (j := 24) rfl rfl)
theorem dX12_mark_25 : decode cX12_mark 25 = .ok (.iconst 0, 1) := fq1_3 (fl_X12_mark_0 (j := 25) rfl rfl)
theorem dX12_mark_26 : decode cX12_mark 26 = .ok (.aload_n 0, 1) := fq1_42 (fl_X12_mark_0 (j := 26) rfl rfl)
theorem dX12_mark_27 : decode cX12_mark 27 = .ok (.getfield 412, 3) := fq3_180 (fl_X12_mark_0 (j := 27) rfl rfl) (fl_X12_mark_0 (j := 28) rfl rfl) (fl_X12_mark_0 (j := 29) rfl rfl) rfl
theorem dX12_mark_30 : decode cX12_mark 30 = .ok (.invokevirtual 415, 3) := fq3_182 (fl_X12_mark_0 (j := 30) rfl rfl) (fl_X12_mark_0 (j := 31) rfl rfl) (fl_X12_mark_0 (j := 32) rfl rfl) rfl
theorem dX12_mark_33 : decode cX12_mark 33 = .ok (.aload_n 0, 1) := fq1_42 (fl_X12_mark_0 (j := 33) rfl rfl)
theorem dX12_mark_34 : decode cX12_mark 34 = .ok (.aload_n 0, 1) := fq1_42 (fl_X12_mark_0 (j := 34) rfl rfl)
theorem dX12_mark_35 : decode cX12_mark 35 = .ok (.getfield 412, 3) := fq3_180 (fl_X12_mark_0 (j := 35) rfl rfl) (fl_X12_mark_0 (j := 36) rfl rfl) (fl_X12_mark_0 (j := 37) rfl rfl) rfl
theorem dX12_mark_38 : decode cX12_mark 38 = .ok (.invokevirtual 85, 3) := fq3_182 (fl_X12_mark_0 (j := 38) rfl rfl) (fl_X12_mark_0 (j := 39) rfl rfl) (fl_X12_mark_0 (j := 40) rfl rfl) rfl
theorem dX12_mark_41 : decode cX12_mark 41 = .ok (.ireturn, 1) := fq1_172 (fl_X12_mark_0 (j := 41) rfl rfl)
def fb_X12_plain_0 : List UInt8 := [0x03, 0x3d, 0x1c, 0x11, 0x03, 0x7a, 0xa2, 0x00, 0x12, 0x2a, 0xb4, 0x00, 0x07, 0x1b, 0x1c, 0x60, 0x03, 0x4f, 0x84, 0x02, 0x01, 0xa7, 0xff, 0xed, 0x2a, 0xb4, 0x00, 0x07, 0x1b, 0x08, 0x60, 0x02, 0x4f, 0xb1]
theorem fl_X12_plain_0 {p j : Nat} {b : UInt8} (e : p = 0 + j) (h : fb_X12_plain_0[j]? = some b) : cX12_plain.data.toList[p]? = some b := fq_l (n := 64) (show (cX12_plain.data.toList.drop 0).take 64 = fb_X12_plain_0 by decide +kernel) e h
theorem dX12_plain_0 : decode cX12_plain 0 = .ok (.iconst 0, 1) := fq1_3 (fl_X12_plain_0 (j := 0) rfl rfl)
theorem dX12_plain_1 : decode cX12_plain 1 = .ok (.istore_n 2, 1) := fq1_61 (fl_X12_plain_0 (j := 1) rfl rfl)
theorem dX12_plain_2 : decode cX12_plain 2 = .ok (.iload_n 2, 1) := fq1_28 (fl_X12_plain_0 (j := 2) rfl rfl)
theorem dX12_plain_3 : decode cX12_plain 3 = .ok (.sipush 890, 3) := fq3_17 (fl_X12_plain_0 (j := 3) rfl rfl) (fl_X12_plain_0 (j := 4) rfl rfl) (fl_X12_plain_0 (j := 5) rfl rfl) (s2p rfl (bl rfl))
theorem dX12_plain_6 : decode cX12_plain 6 = .ok (.if_icmp .ge 18, 3) := fq3_162 (fl_X12_plain_0 (j := 6) rfl rfl) (fl_X12_plain_0 (j := 7) rfl rfl) (fl_X12_plain_0 (j := 8) rfl rfl) (s2p rfl (bl rfl))
theorem dX12_plain_9 : decode cX12_plain 9 = .ok (.aload_n 0, 1) := fq1_42 (fl_X12_plain_0 (j := 9) rfl rfl)
theorem dX12_plain_10 : decode cX12_plain 10 = .ok (.getfield 7, 3) := fq3_180 (fl_X12_plain_0 (j := 10) rfl rfl) (fl_X12_plain_0 (j := 11) rfl rfl) (fl_X12_plain_0 (j := 12) rfl rfl) rfl
theorem dX12_plain_13 : decode cX12_plain 13 = .ok (.iload_n 1, 1) := fq1_27 (fl_X12_plain_0 (j := 13) rfl rfl)
theorem dX12_plain_14 : decode cX12_plain 14 = .ok (.iload_n 2, 1) := fq1_28 (fl_X12_plain_0 (j := 14) rfl rfl)
theorem dX12_plain_15 : decode cX12_plain 15 = .ok (.iadd, 1) := fq1_96 (fl_X12_plain_0 (j := 15) rfl rfl)
theorem dX12_plain_16 : decode cX12_plain 16 = .ok (.iconst 0, 1) := fq1_3 (fl_X12_plain_0 (j := 16) rfl rfl)
theorem dX12_plain_17 : decode cX12_plain 17 = .ok (.iastore, 1) := fq1_79 (fl_X12_plain_0 (j := 17) rfl rfl)
theorem dX12_plain_18 : decode cX12_plain 18 = .ok (.iinc 2 1, 3) := fq3_132 (fl_X12_plain_0 (j := 18) rfl rfl) (fl_X12_plain_0 (j := 19) rfl rfl) (fl_X12_plain_0 (j := 20) rfl rfl) rfl (s1p rfl (bl rfl))
theorem dX12_plain_21 : decode cX12_plain 21 = .ok (.goto (-19), 3) := fq3_167 (fl_X12_plain_0 (j := 21) rfl rfl) (fl_X12_plain_0 (j := 22) rfl rfl) (fl_X12_plain_0 (j := 23) rfl rfl) (by decide)
theorem dX12_plain_24 : decode cX12_plain 24 = .ok (.aload_n 0, 1) := fq1_42 (fl_X12_plain_0 (j := 24) rfl rfl)
theorem dX12_plain_25 : decode cX12_plain 25 = .ok (.getfield 7, 3) := fq3_180 (fl_X12_plain_0 (j := 25) rfl rfl) (fl_X12_plain_0 (j := 26) rfl rfl) (fl_X12_plain_0 (j := 27) rfl rfl) rfl
theorem dX12_plain_28 : decode cX12_plain 28 = .ok (.iload_n 1, 1) := fq1_27 (fl_X12_plain_0 (j := 28) rfl rfl)
theorem dX12_plain_29 : decode cX12_plain 29 = .ok (.iconst 5, 1) := fq1_8 (fl_X12_plain_0 (j := 29) rfl rfl)
theorem dX12_plain_30 : decode cX12_plain 30 = .ok (.iadd, 1) := fq1_96 (fl_X12_plain_0 (j := 30) rfl rfl)
theorem dX12_plain_31 : decode cX12_plain 31 = .ok (.iconst (-1), 1) := fq1_2 (fl_X12_plain_0 (j := 31) rfl rfl)
theorem dX12_plain_32 : decode cX12_plain 32 = .ok (.iastore, 1) := fq1_79 (fl_X12_plain_0 (j := 32) rfl rfl)
theorem dX12_plain_33 : decode cX12_plain 33 = .ok (.return_, 1) := fq1_177 (fl_X12_plain_0 (j := 33) rfl rfl)
end

section
set_option maxHeartbeats 4000000 in
set_option maxRecDepth 100000 in
theorem m_plain (l : Launch) (D : va_G) (k : Nat → ClassId) (fs : List Value) (hm : Nat) (Ma : Nat) (Af : Nat → Int32) (x : Int) (f0 : fs[0]? = some (.ref Ma)) (h9x : 0 ≤ x ∧ x ≤ 4450) : WD (σ := ((Int) × (Int64) × ((Nat → Int32)) × (Unit))) l yX12_plain cX12_plain 3 none 0 0 0 D k [.ref hm, .int (iZ x)] [(hm, .inr (12, fs)), (Ma, .inl (k 1, 5340, .inl Af))] (fun _ => none) (fun u => (∀ e : Int, 0 ≤ e → e < 890 → gz u.2.2.1 (x + e) = if e = 5 then -1 else 0) ∧ ∀ j : Int, 0 ≤ j → (j < x ∨ x + 890 ≤ j) → gz u.2.2.1 j = gz Af j) (fun u => [(hm, .inr (12, fs)), (Ma, .inl (k 1, 5340, .inl u.2.2.1))]) := by
  refine MW (by decide) (Nat.le_of_ble_eq_true rfl) (fun p e s m below meth c ls A hx hb hml hr hlocks hin hts hown hKK hP hD hS hA hl => ?_)
  have hK := hKK.1
  have hl : lv_has ls 3 [(0, .ref hm), (1, .int (iZ x))] := hl
  refine lv_iconst (v := iZ 0) hx hb dX12_plain_0 rfl ?_
  refine lv_istore_n (lv' := [(2, .int (iZ 0)), (0, .ref hm), (1, .int (iZ x))]) hx hb dX12_plain_1 rfl hl (bl rfl) rfl (fun ls hl => ?_)
  have HL2 : ∀ (fu : Nat) (v2_2 : Int) (Afq2 : Nat → Int32) (H : Heap) (locs : List Loc) (ls : Array Slot), ((889) + 2 - v2_2) < (fu : Int) → ((0 ≤ v2_2 ∧ v2_2 ≤ (889) + 1)) → (∀ e : Int, 0 ≤ e → e < v2_2 → gz Afq2 (x + e) = 0) → (∀ e : Int, 0 ≤ e → (e < x ∨ x + v2_2 ≤ e) → gz Afq2 e = gz Af e) → va_P D vwCl [(hm, .inr (12, fs)), (Ma, .inl (k 1, 5340, .inl Afq2))] H → va_D A [(hm, .inr (12, fs)), (Ma, .inl (k 1, 5340, .inl Afq2))] → va_S A s.heap H locs → lv_has ls 3 [(2, .int (iZ v2_2)), (0, .ref hm), (1, .int (iZ x))] → W p l e (rj 0 0 0) s m [.ref hm, .int (iZ x)].toArray below meth c H locs 0 0 (MQ below (QW (σ := ((Int) × (Int64) × ((Nat → Int32)) × (Unit))) (fun _ => none) (fun u => (∀ e : Int, 0 ≤ e → e < 890 → gz u.2.2.1 (x + e) = if e = 5 then -1 else 0) ∧ ∀ j : Int, 0 ≤ j → (j < x ∨ x + 890 ≤ j) → gz u.2.2.1 j = gz Af j) (fun u => [(hm, .inr (12, fs)), (Ma, .inl (k 1, 5340, .inl u.2.2.1))]) D A) [.ref hm, .int (iZ x)].toArray s 0 0 A) (F0 m 2 ls []) := by
    intro fu
    induction fu with
    | zero => intro v2_2 Afq2 H locs ls hμ2 hi2 hw1 hk1 hP hD hS hl; exact absurd hμ2 (by omega)
    | succ fu ih2 =>
      intro v2_2 Afq2 H locs ls hμ2 hi2 hw1 hk1 hP hD hS hl
      refine lv_iload_n hx hb dX12_plain_2 rfl (lv_at hl 0 rfl) ?_
      refine lv_sipush (v := iZ 890) hx hb dX12_plain_3 sip_890 ?_
      refine lv_icmp_ge (tgt := 24) hx hb dX12_plain_6 rfl (fun c_1 => ?_) (fun c_1 => ?_)
      ·
        have c_1 := (zle (x := iZ 890) (y := iZ v2_2) rfl rfl wn_890 ⟨by omega, by omega⟩).mp c_1
        refine lv_aload_n hx hb dX12_plain_24 rfl (lv_at hl 1 rfl) ?_
        refine va_get (D := D) (ci := 12) (v := .ref Ma) (C := RX12) (T := TX12) (N := 36) hx hb hts iX12 hown hK hP 0 rfl rfl 0 (bl rfl) (hts _ qf_X12_7) (fun _ h => h) f0 dX12_plain_25 ?_
        refine lv_iload_n hx hb dX12_plain_28 rfl (lv_at hl 2 rfl) ?_
        refine lv_iconst (v := iZ 5) hx hb dX12_plain_29 rfl ?_
        refine lv_iadd hx hb dX12_plain_30 ?_
        refine lv_topi (fun x_2 ex_2 => ?_)
        obtain rfl : x_2 = iZ (x + 5) := ex_2.trans (iZ_add x 5)
        refine lv_iconst (v := iZ (-1)) hx hb dX12_plain_31 rfl ?_
        refine va_iast hx hb hK hP hD hS 1 1 rfl rfl (zin (e := (x + 5)) (n := 5340) ⟨by omega, by omega⟩ (bl rfl)) dX12_plain_32 (fun H locs hP hD hS => ?_)
        obtain ⟨f_3, hf_3⟩ : ∃ gg9, gg9 = upd Afq2 (iZ (x + 5)).toNatClampNeg (iZ (-1)) := ⟨_, rfl⟩
        rw [← hf_3] at hP hD
        exact EWv hx hb hr hlocks hS (0, 0, f_3, ()) rfl (show (∀ e : Int, 0 ≤ e → e < 890 → gz f_3 (x + e) = if e = 5 then -1 else 0) ∧ ∀ j : Int, 0 ≤ j → (j < x ∨ x + 890 ≤ j) → gz f_3 j = gz Af j from ⟨fun e h1 h2 => by have c1 := gz_upc (j := x + e) hf_3 ⟨by omega, by omega⟩ ⟨by omega, by omega⟩ (by omega); have := hw1 e h1 (by omega); by_cases h5 : e = 5; rw [if_pos h5]; omega; rw [if_neg h5]; omega, fun j h1 h2 => by have c1 := gz_upc (j := j) hf_3 ⟨by omega, by omega⟩ ⟨by omega, by omega⟩ (by omega); have := hk1 j h1 (by omega); omega⟩) (hP.sub [0, 1] rfl) (hD.sub [0, 1] rfl rfl) dX12_plain_33
      ·
        have c_1 := mt (zle (x := iZ 890) (y := iZ v2_2) rfl rfl wn_890 ⟨by omega, by omega⟩).mpr c_1
        refine lv_aload_n hx hb dX12_plain_9 rfl (lv_at hl 1 rfl) ?_
        refine va_get (D := D) (ci := 12) (v := .ref Ma) (C := RX12) (T := TX12) (N := 36) hx hb hts iX12 hown hK hP 0 rfl rfl 0 (bl rfl) (hts _ qf_X12_7) (fun _ h => h) f0 dX12_plain_10 ?_
        refine lv_iload_n hx hb dX12_plain_13 rfl (lv_at hl 2 rfl) ?_
        refine lv_iload_n hx hb dX12_plain_14 rfl (lv_at hl 0 rfl) ?_
        refine lv_iadd hx hb dX12_plain_15 ?_
        refine lv_topi (fun x_4 ex_4 => ?_)
        obtain rfl : x_4 = iZ (x + v2_2) := ex_4.trans (iZ_add x v2_2)
        refine lv_iconst (v := iZ 0) hx hb dX12_plain_16 rfl ?_
        refine va_iast hx hb hK hP hD hS 1 1 rfl rfl (zin (e := (x + v2_2)) (n := 5340) ⟨by omega, by omega⟩ (bl rfl)) dX12_plain_17 (fun H locs hP hD hS => ?_)
        obtain ⟨f_5, hf_5⟩ : ∃ gg9, gg9 = upd Afq2 (iZ (x + v2_2)).toNatClampNeg (iZ 0) := ⟨_, rfl⟩
        rw [← hf_5] at hP hD
        refine lv_iinc (v := iZ (v2_2 + 1)) (lv' := [(2, .int (iZ (v2_2 + 1))), (0, .ref hm), (1, .int (iZ x))]) hx hb dX12_plain_18 hl (k := 0) rfl (iZ_add v2_2 1) (by decide) rfl (fun ls hl => ?_)
        refine lv_goto (tgt := 2) hx hb dX12_plain_21 rfl ?_
        exact ih2  (v2_2 + 1) f_5 _ _ _ (by omega) (show (0 ≤ (v2_2 + 1) ∧ (v2_2 + 1) ≤ (889) + 1) from ⟨by omega, by omega⟩) (show ∀ e : Int, 0 ≤ e → e < (v2_2 + 1) → gz f_5 (x + e) = 0 from (fun e h1 h2 => by have c1 := gz_upc (j := x + e) hf_5 ⟨by omega, by omega⟩ ⟨by omega, by omega⟩ (by omega); rcases Int.lt_or_eq_of_le (show e ≤ v2_2 by omega) with h3 | h3; have := hw1 e h1 h3; omega; omega)) (show ∀ e : Int, 0 ≤ e → (e < x ∨ x + (v2_2 + 1) ≤ e) → gz f_5 e = gz Af e from (fun e h1 h2 => by have c1 := gz_upc (j := e) hf_5 ⟨by omega, by omega⟩ ⟨by omega, by omega⟩ (by omega); have := hk1 e h1 (by omega); omega)) (hP.sub [0, 1] rfl) (hD.sub [0, 1] rfl rfl) hS (lv_sub hl [0, 1, 2] rfl)
  exact HL2 893 0 Af _ _ _ (by omega) (show (0 ≤ 0 ∧ 0 ≤ (889) + 1) from ⟨by omega, by omega⟩) (show ∀ e : Int, 0 ≤ e → e < 0 → gz Af (x + e) = 0 from (fun e h1 h2 => absurd h1 (by omega))) (show ∀ e : Int, 0 ≤ e → (e < x ∨ x + 0 ≤ e) → gz Af e = gz Af e from (fun e h1 h2 => rfl)) (hP.sub [0, 1] rfl) (hD.sub [0, 1] rfl rfl) hS (lv_sub hl [0, 1, 2] rfl)
set_option maxHeartbeats 4000000 in
set_option maxRecDepth 100000 in
theorem m_copies (l : Launch) (D : va_G) (k : Nat → ClassId) (fs : List Value) (hm : Nat) (Ma : Nat) (Mn : Nat) (Af : Nat → Int32) (Nf : Nat → Int64) (x : Int) (y : Int) (f0 : fs[0]? = some (.ref Ma)) (f1 : fs[1]? = some (.ref Mn)) (h9x : 0 ≤ x ∧ x ≤ 3) (h9y : 0 ≤ y ∧ y ≤ 3) (hne : ¬ x = y) : WD (σ := ((Int) × (Int64) × ((Nat → Int32)) × ((Nat → Int64)))) l yX12_copies cX12_copies 4 none 0 0 0 D k [.ref hm, .int (iZ x), .int (iZ y)] [(hm, .inr (12, fs)), (Ma, .inl (k 1, 5340, .inl Af)), (Mn, .inl (k 2, 36, .inr (.inl Nf)))] (fun _ => none) (fun u => (∀ e : Int, 0 ≤ e → e < 890 → gz u.2.2.1 (890 * y + e) = gz Af (890 * x + e)) ∧ ∀ j : Int, 0 ≤ j → (j < 890 * y ∨ 890 * y + 890 ≤ j) → gz u.2.2.1 j = gz Af j) (fun u => [(hm, .inr (12, fs)), (Ma, .inl (k 1, 5340, .inl u.2.2.1)), (Mn, .inl (k 2, 36, .inr (.inl u.2.2.2)))]) := by
  refine MW (by decide) (Nat.le_of_ble_eq_true rfl) (fun p e s m below meth c ls A hx hb hml hr hlocks hin hts hown hKK hP hD hS hA hl => ?_)
  have hK := hKK.1
  have hl : lv_has ls 4 [(0, .ref hm), (1, .int (iZ x)), (2, .int (iZ y))] := hl
  refine lv_iconst (v := iZ 0) hx hb dX12_copies_0 rfl ?_
  refine lv_istore_n (lv' := [(3, .int (iZ 0)), (0, .ref hm), (1, .int (iZ x)), (2, .int (iZ y))]) hx hb dX12_copies_1 rfl hl (bl rfl) rfl (fun ls hl => ?_)
  have HL2 : ∀ (fu : Nat) (v3_2 : Int) (Afq2 : Nat → Int32) (H : Heap) (locs : List Loc) (ls : Array Slot), ((889) + 2 - v3_2) < (fu : Int) → ((0 ≤ v3_2 ∧ v3_2 ≤ (889) + 1)) → (∀ e : Int, 0 ≤ e → e < v3_2 → gz Afq2 (890 * y + e) = gz Af (890 * x + e)) → (∀ e : Int, 0 ≤ e → (e < 890 * y ∨ 890 * y + v3_2 ≤ e) → gz Afq2 e = gz Af e) → va_P D vwCl [(hm, .inr (12, fs)), (Ma, .inl (k 1, 5340, .inl Afq2)), (Mn, .inl (k 2, 36, .inr (.inl Nf)))] H → va_D A [(hm, .inr (12, fs)), (Ma, .inl (k 1, 5340, .inl Afq2)), (Mn, .inl (k 2, 36, .inr (.inl Nf)))] → va_S A s.heap H locs → lv_has ls 4 [(3, .int (iZ v3_2)), (0, .ref hm), (1, .int (iZ x)), (2, .int (iZ y))] → W p l e (rj 0 0 0) s m [.ref hm, .int (iZ x), .int (iZ y)].toArray below meth c H locs 0 0 (MQ below (QW (σ := ((Int) × (Int64) × ((Nat → Int32)) × ((Nat → Int64)))) (fun _ => none) (fun u => (∀ e : Int, 0 ≤ e → e < 890 → gz u.2.2.1 (890 * y + e) = gz Af (890 * x + e)) ∧ ∀ j : Int, 0 ≤ j → (j < 890 * y ∨ 890 * y + 890 ≤ j) → gz u.2.2.1 j = gz Af j) (fun u => [(hm, .inr (12, fs)), (Ma, .inl (k 1, 5340, .inl u.2.2.1)), (Mn, .inl (k 2, 36, .inr (.inl u.2.2.2)))]) D A) [.ref hm, .int (iZ x), .int (iZ y)].toArray s 0 0 A) (F0 m 2 ls []) := by
    intro fu
    induction fu with
    | zero => intro v3_2 Afq2 H locs ls hμ2 hi2 hw1 hk1 hP hD hS hl; exact absurd hμ2 (by omega)
    | succ fu ih2 =>
      intro v3_2 Afq2 H locs ls hμ2 hi2 hw1 hk1 hP hD hS hl
      refine lv_iload_n hx hb dX12_copies_2 rfl (lv_at hl 0 rfl) ?_
      refine lv_sipush (v := iZ 890) hx hb dX12_copies_3 sip_890 ?_
      refine lv_icmp_ge (tgt := 39) hx hb dX12_copies_6 rfl (fun c_1 => ?_) (fun c_1 => ?_)
      ·
        have c_1 := (zle (x := iZ 890) (y := iZ v3_2) rfl rfl wn_890 ⟨by omega, by omega⟩).mp c_1
        refine lv_iconst (v := iZ 0) hx hb dX12_copies_39 rfl ?_
        refine lv_istore_n (lv' := [(3, .int (iZ 0)), (0, .ref hm), (1, .int (iZ x)), (2, .int (iZ y))]) hx hb dX12_copies_40 rfl hl (bl rfl) rfl (fun ls hl => ?_)
        have HL41 : ∀ (fu : Nat) (v3_41 : Int) (Nfq41 : Nat → Int64) (H : Heap) (locs : List Loc) (ls : Array Slot), ((5) + 2 - v3_41) < (fu : Int) → ((0 ≤ v3_41 ∧ v3_41 ≤ (5) + 1)) → va_P D vwCl [(hm, .inr (12, fs)), (Ma, .inl (k 1, 5340, .inl Afq2)), (Mn, .inl (k 2, 36, .inr (.inl Nfq41)))] H → va_D A [(hm, .inr (12, fs)), (Ma, .inl (k 1, 5340, .inl Afq2)), (Mn, .inl (k 2, 36, .inr (.inl Nfq41)))] → va_S A s.heap H locs → lv_has ls 4 [(3, .int (iZ v3_41)), (0, .ref hm), (1, .int (iZ x)), (2, .int (iZ y))] → W p l e (rj 0 0 0) s m [.ref hm, .int (iZ x), .int (iZ y)].toArray below meth c H locs 0 0 (MQ below (QW (σ := ((Int) × (Int64) × ((Nat → Int32)) × ((Nat → Int64)))) (fun _ => none) (fun u => (∀ e : Int, 0 ≤ e → e < 890 → gz u.2.2.1 (890 * y + e) = gz Af (890 * x + e)) ∧ ∀ j : Int, 0 ≤ j → (j < 890 * y ∨ 890 * y + 890 ≤ j) → gz u.2.2.1 j = gz Af j) (fun u => [(hm, .inr (12, fs)), (Ma, .inl (k 1, 5340, .inl u.2.2.1)), (Mn, .inl (k 2, 36, .inr (.inl u.2.2.2)))]) D A) [.ref hm, .int (iZ x), .int (iZ y)].toArray s 0 0 A) (F0 m 41 ls []) := by
          intro fu
          induction fu with
          | zero => intro v3_41 Nfq41 H locs ls hμ41 hi41 hP hD hS hl; exact absurd hμ41 (by omega)
          | succ fu ih41 =>
            intro v3_41 Nfq41 H locs ls hμ41 hi41 hP hD hS hl
            refine lv_iload_n hx hb dX12_copies_41 rfl (lv_at hl 0 rfl) ?_
            refine lv_bipush (v := iZ 6) hx hb dX12_copies_42 bip_6 ?_
            refine lv_icmp_ge (tgt := 75) hx hb dX12_copies_44 rfl (fun c_2 => ?_) (fun c_2 => ?_)
            ·
              have c_2 := (zle (x := iZ 6) (y := iZ v3_41) rfl rfl wn_6 ⟨by omega, by omega⟩).mp c_2
              exact EWv hx hb hr hlocks hS (0, 0, Afq2, Nfq41) rfl (show (∀ e : Int, 0 ≤ e → e < 890 → gz Afq2 (890 * y + e) = gz Af (890 * x + e)) ∧ ∀ j : Int, 0 ≤ j → (j < 890 * y ∨ 890 * y + 890 ≤ j) → gz Afq2 j = gz Af j from ⟨fun e h1 h2 => hw1 e h1 (by omega), fun j h1 h2 => hk1 j h1 (by omega)⟩) (hP.sub [0, 1, 2] rfl) (hD.sub [0, 1, 2] rfl rfl) dX12_copies_75
            ·
              have c_2 := mt (zle (x := iZ 6) (y := iZ v3_41) rfl rfl wn_6 ⟨by omega, by omega⟩).mpr c_2
              refine lv_aload_n hx hb dX12_copies_47 rfl (lv_at hl 1 rfl) ?_
              refine va_get (D := D) (ci := 12) (v := .ref Mn) (C := RX12) (T := TX12) (N := 36) hx hb hts iX12 hown hK hP 0 rfl rfl 1 (bl rfl) (hts _ qf_X12_13) (fun _ h => h) f1 dX12_copies_48 ?_
              refine lv_bipush (v := iZ 6) hx hb dX12_copies_51 bip_6 ?_
              refine lv_iload_n hx hb dX12_copies_53 rfl (lv_at hl 3 rfl) ?_
              refine lv_imul hx hb dX12_copies_54 ?_
              refine lv_topi (fun x_3 ex_3 => ?_)
              obtain rfl : x_3 = iZ (6 * y) := ex_3.trans (iZ_mul 6 y)
              refine lv_iload_n hx hb dX12_copies_55 rfl (lv_at hl 0 rfl) ?_
              refine lv_iadd hx hb dX12_copies_56 ?_
              refine lv_topi (fun x_4 ex_4 => ?_)
              obtain rfl : x_4 = iZ ((6 * y) + v3_41) := ex_4.trans (iZ_add (6 * y) v3_41)
              refine lv_aload_n hx hb dX12_copies_57 rfl (lv_at hl 1 rfl) ?_
              refine va_get (D := D) (ci := 12) (v := .ref Mn) (C := RX12) (T := TX12) (N := 36) hx hb hts iX12 hown hK hP 0 rfl rfl 1 (bl rfl) (hts _ qf_X12_13) (fun _ h => h) f1 dX12_copies_58 ?_
              refine lv_bipush (v := iZ 6) hx hb dX12_copies_61 bip_6 ?_
              refine lv_iload_n hx hb dX12_copies_63 rfl (lv_at hl 2 rfl) ?_
              refine lv_imul hx hb dX12_copies_64 ?_
              refine lv_topi (fun x_5 ex_5 => ?_)
              obtain rfl : x_5 = iZ (6 * x) := ex_5.trans (iZ_mul 6 x)
              refine lv_iload_n hx hb dX12_copies_65 rfl (lv_at hl 0 rfl) ?_
              refine lv_iadd hx hb dX12_copies_66 ?_
              refine lv_topi (fun x_6 ex_6 => ?_)
              obtain rfl : x_6 = iZ ((6 * x) + v3_41) := ex_6.trans (iZ_add (6 * x) v3_41)
              refine va_lald hx hb hK hP 2 2 rfl rfl (zin (e := ((6 * x) + v3_41)) (n := 36) ⟨by omega, by omega⟩ (bl rfl)) dX12_copies_67 ?_
              refine lv_topl (fun y_7 ey_7 => ?_)
              refine va_last hx hb hK hP hD hS 2 2 rfl rfl (zin (e := ((6 * y) + v3_41)) (n := 36) ⟨by omega, by omega⟩ (bl rfl)) dX12_copies_68 (fun H locs hP hD hS => ?_)
              obtain ⟨f_8, hf_8⟩ : ∃ gg9, gg9 = vp_updL Nfq41 (iZ ((6 * y) + v3_41)).toNatClampNeg y_7 := ⟨_, rfl⟩
              rw [← hf_8] at hP hD
              refine lv_iinc (v := iZ (v3_41 + 1)) (lv' := [(3, .int (iZ (v3_41 + 1))), (0, .ref hm), (1, .int (iZ x)), (2, .int (iZ y))]) hx hb dX12_copies_69 hl (k := 0) rfl (iZ_add v3_41 1) (by decide) rfl (fun ls hl => ?_)
              refine lv_goto (tgt := 41) hx hb dX12_copies_72 rfl ?_
              exact ih41  (v3_41 + 1) f_8 _ _ _ (by omega) (show (0 ≤ (v3_41 + 1) ∧ (v3_41 + 1) ≤ (5) + 1) from ⟨by omega, by omega⟩) (hP.sub [0, 1, 2] rfl) (hD.sub [0, 1, 2] rfl rfl) hS (lv_sub hl [0, 1, 2, 3] rfl)
        exact HL41 9 0 Nf _ _ _ (by omega) (show (0 ≤ 0 ∧ 0 ≤ (5) + 1) from ⟨by omega, by omega⟩) (hP.sub [0, 1, 2] rfl) (hD.sub [0, 1, 2] rfl rfl) hS (lv_sub hl [0, 1, 2, 3] rfl)
      ·
        have c_1 := mt (zle (x := iZ 890) (y := iZ v3_2) rfl rfl wn_890 ⟨by omega, by omega⟩).mpr c_1
        refine lv_aload_n hx hb dX12_copies_9 rfl (lv_at hl 1 rfl) ?_
        refine va_get (D := D) (ci := 12) (v := .ref Ma) (C := RX12) (T := TX12) (N := 36) hx hb hts iX12 hown hK hP 0 rfl rfl 0 (bl rfl) (hts _ qf_X12_7) (fun _ h => h) f0 dX12_copies_10 ?_
        refine lv_sipush (v := iZ 890) hx hb dX12_copies_13 sip_890 ?_
        refine lv_iload_n hx hb dX12_copies_16 rfl (lv_at hl 3 rfl) ?_
        refine lv_imul hx hb dX12_copies_17 ?_
        refine lv_topi (fun x_9 ex_9 => ?_)
        obtain rfl : x_9 = iZ (890 * y) := ex_9.trans (iZ_mul 890 y)
        refine lv_iload_n hx hb dX12_copies_18 rfl (lv_at hl 0 rfl) ?_
        refine lv_iadd hx hb dX12_copies_19 ?_
        refine lv_topi (fun x_10 ex_10 => ?_)
        obtain rfl : x_10 = iZ ((890 * y) + v3_2) := ex_10.trans (iZ_add (890 * y) v3_2)
        refine lv_aload_n hx hb dX12_copies_20 rfl (lv_at hl 1 rfl) ?_
        refine va_get (D := D) (ci := 12) (v := .ref Ma) (C := RX12) (T := TX12) (N := 36) hx hb hts iX12 hown hK hP 0 rfl rfl 0 (bl rfl) (hts _ qf_X12_7) (fun _ h => h) f0 dX12_copies_21 ?_
        refine lv_sipush (v := iZ 890) hx hb dX12_copies_24 sip_890 ?_
        refine lv_iload_n hx hb dX12_copies_27 rfl (lv_at hl 2 rfl) ?_
        refine lv_imul hx hb dX12_copies_28 ?_
        refine lv_topi (fun x_11 ex_11 => ?_)
        obtain rfl : x_11 = iZ (890 * x) := ex_11.trans (iZ_mul 890 x)
        refine lv_iload_n hx hb dX12_copies_29 rfl (lv_at hl 0 rfl) ?_
        refine lv_iadd hx hb dX12_copies_30 ?_
        refine lv_topi (fun x_12 ex_12 => ?_)
        obtain rfl : x_12 = iZ ((890 * x) + v3_2) := ex_12.trans (iZ_add (890 * x) v3_2)
        refine va_iald hx hb hK hP 1 1 rfl rfl (zin (e := ((890 * x) + v3_2)) (n := 5340) ⟨by omega, by omega⟩ (bl rfl)) dX12_copies_31 ?_
        refine lv_topi (fun x_13 ex_13 => ?_)
        obtain rfl : x_13 = iZ (gz Afq2 ((890 * x) + v3_2)) := ex_13.trans (gz_eq ⟨by omega, by omega⟩)
        have h_14 := gz_rg Afq2 ((890 * x) + v3_2)
        refine va_iast hx hb hK hP hD hS 1 1 rfl rfl (zin (e := ((890 * y) + v3_2)) (n := 5340) ⟨by omega, by omega⟩ (bl rfl)) dX12_copies_32 (fun H locs hP hD hS => ?_)
        obtain ⟨f_15, hf_15⟩ : ∃ gg9, gg9 = upd Afq2 (iZ ((890 * y) + v3_2)).toNatClampNeg (iZ (gz Afq2 ((890 * x) + v3_2))) := ⟨_, rfl⟩
        rw [← hf_15] at hP hD
        refine lv_iinc (v := iZ (v3_2 + 1)) (lv' := [(3, .int (iZ (v3_2 + 1))), (0, .ref hm), (1, .int (iZ x)), (2, .int (iZ y))]) hx hb dX12_copies_33 hl (k := 0) rfl (iZ_add v3_2 1) (by decide) rfl (fun ls hl => ?_)
        refine lv_goto (tgt := 2) hx hb dX12_copies_36 rfl ?_
        exact ih2  (v3_2 + 1) f_15 _ _ _ (by omega) (show (0 ≤ (v3_2 + 1) ∧ (v3_2 + 1) ≤ (889) + 1) from ⟨by omega, by omega⟩) (show ∀ e : Int, 0 ≤ e → e < (v3_2 + 1) → gz f_15 (890 * y + e) = gz Af (890 * x + e) from (fun e h1 h2 => by have c1 := gz_upc (j := 890 * y + e) hf_15 ⟨by omega, by omega⟩ ⟨by omega, by omega⟩ (by omega); rcases Int.lt_or_eq_of_le (show e ≤ v3_2 by omega) with h3 | h3; have := hw1 e h1 h3; omega; rw [h3] at c1 ⊢; have c2 := hk1 (890 * x + v3_2) (by omega) (by omega); omega)) (show ∀ e : Int, 0 ≤ e → (e < 890 * y ∨ 890 * y + (v3_2 + 1) ≤ e) → gz f_15 e = gz Af e from (fun e h1 h2 => by have c1 := gz_upc (j := e) hf_15 ⟨by omega, by omega⟩ ⟨by omega, by omega⟩ (by omega); have := hk1 e h1 (by omega); omega)) (hP.sub [0, 1, 2] rfl) (hD.sub [0, 1, 2] rfl rfl) hS (lv_sub hl [0, 1, 2, 3] rfl)
  exact HL2 893 0 Af _ _ _ (by omega) (show (0 ≤ 0 ∧ 0 ≤ (889) + 1) from ⟨by omega, by omega⟩) (show ∀ e : Int, 0 ≤ e → e < 0 → gz Af (890 * y + e) = gz Af (890 * x + e) from (fun e h1 h2 => absurd h1 (by omega))) (show ∀ e : Int, 0 ≤ e → (e < 890 * y ∨ 890 * y + 0 ≤ e) → gz Af e = gz Af e from (fun e h1 h2 => rfl)) (hP.sub [0, 1, 2] rfl) (hD.sub [0, 1, 2] rfl rfl) hS (lv_sub hl [0, 1, 2, 3] rfl)
/-- what is kept of the marks -/
def MK (f : Nat → Int32) (n : Int) : Prop := ∀ m : Int, 1 ≤ m → m ≤ n → M0 (sh f (890 * m))
theorem MK.keep {f g : Nat → Int32} {n : Int} (hn : n ≤ 3) (h : MK f n) (hg : ∀ e : Int, 890 ≤ e → e < 3560 → gz g e = gz f e) : MK g n := fun m h1 h2 =>
  M0.like (fun e a _ c => by rw [gz_sh (by omega) a, gz_sh (by omega) a]; exact hg _ (by omega) (by omega)) (h m h1 h2)
theorem MK.mark {f g : Nat → Int32} {n : Int} (hn : 0 ≤ n ∧ n < 3) (hf : M0 f) (h : MK f n) (h1 : ∀ e : Int, 0 ≤ e → e < 890 → gz g (890 * (n + 1) + e) = gz f (890 * 0 + e)) (h2 : ∀ j : Int, 0 ≤ j → (j < 890 * (n + 1) ∨ 890 * (n + 1) + 890 ≤ j) → gz g j = gz f j) : MK g (n + 1) ∧ M0 g := by
  refine ⟨fun m a b => ?_, M0.like (fun e a b c => h2 e a (by omega)) hf⟩
  rcases Int.lt_or_eq_of_le b with q | q
  · exact M0.like (fun e a2 _ c => by rw [gz_sh (by omega) a2, gz_sh (by omega) a2]; exact h2 _ (by omega) (by omega)) (h m a (by omega))
  · exact M0.like (fun e a2 _ c => by rw [q, gz_sh (by omega) a2, h1 e a2 (by omega)]; congr 1; omega) hf
theorem MK.back {f g : Nat → Int32} {n : Int} (hn : 1 ≤ n ∧ n ≤ 3) (h : MK f n) (h1 : ∀ e : Int, 0 ≤ e → e < 890 → gz g (890 * 0 + e) = gz f (890 * n + e)) (h2 : ∀ j : Int, 0 ≤ j → (j < 890 * 0 ∨ 890 * 0 + 890 ≤ j) → gz g j = gz f j) : MK g (n - 1) ∧ M0 g := by
  refine ⟨fun m a b => M0.like (fun e a2 _ c => by rw [gz_sh (by omega) a2, gz_sh (by omega) a2]; exact h2 _ (by omega) (by omega)) (h m a (by omega)), M0.like (fun e a2 _ c => ?_) (h n hn.1 (Int.le_refl n))⟩
  have := h1 e a2 (by omega)
  rw [show 890 * 0 + e = e by omega] at this
  rw [this, gz_sh (by omega) a2]
set_option maxHeartbeats 4000000 in
set_option maxRecDepth 100000 in
theorem q_mark (l : Launch) (D : va_G) (k : Nat → ClassId) (hm : Nat) (Ma : Nat) (Mn : Nat) (Ms : Nat) (My : Nat) (Mt : Nat) (Mp : Nat) (Mx : Nat) (Mo : Nat) (Mk : Nat) (Ml : Nat) (Mb : Nat) (Mh : Nat) (Mc : Nat) (Mz : Nat) (Mr : Nat) (Mq : Nat) (Mst : Int) (Mtd : Int) (Msz : Int) (Mtk : Int) (Mfr : Int) (Men : Int) (Mva : Int) (Mfk : Int) (Mfp : Int) (Mfs : Int) (Mse : Int) (Mlt : Int) (Mdp : Int) (Mct : Int) (Mdr : Int) (Mrs : Int) (Mit : Int) (Mmk : Int) (Mtp : Int64) (Mbt : Int64) (Af : Nat → Int32) (Nf : Nat → Int64) (hM : M0 Af) (hmk : 0 ≤ Mmk ∧ Mmk ≤ 3) (hMK : MK Af Mmk) : WD (σ := ((Int × Int × Int) × (Int64) × ((Nat → Int32)) × ((Nat → Int64)))) l yX12_mark cX12_mark 1 (some .int) 1 0 0 D k [.ref hm] [(hm, .inr (12, [.ref Ma, .ref Mn, .int (iZ Mst), .long Mtp, .long Mbt, .ref Ms, .ref My, .ref Mt, .ref Mp, .ref Mx, .int (iZ Mtd), .int (iZ Msz), .int (iZ Mtk), .int (iZ Mfr), .int (iZ Men), .int (iZ Mva), .int (iZ Mfk), .int (iZ Mfp), .int (iZ Mfs), .int (iZ Mse), .int (iZ Mlt), .ref Mo, .int (iZ Mdp), .int (iZ Mct), .ref Mk, .ref Ml, .ref Mb, .ref Mh, .ref Mc, .int (iZ Mdr), .int (iZ Mrs), .ref Mz, .ref Mr, .ref Mq, .int (iZ Mit), .int (iZ Mmk)])), (Ma, .inl (k 1, 5340, .inl Af)), (Mn, .inl (k 2, 36, .inr (.inl Nf)))] (fun u => some (.int (iZ u.1.1))) (fun u => (0 ≤ u.1.2.2 ∧ u.1.2.2 ≤ 3) ∧ (MK u.2.2.1 u.1.2.2 ∧ M0 u.2.2.1) ∧ ((Mmk = 3 ∧ u.1.1 = -1 ∧ u.1.2.2 = 3) ∨ (Mmk < 3 ∧ u.1.1 = Mmk + 1 ∧ u.1.2.2 = Mmk + 1)) ∧ (((Mmk : Int) < 3 → (∀ e : Int, 0 ≤ e → e < 890 → gz u.2.2.1 (890 * (Mmk + 1) + e) = gz Af e) ∧ ∀ j : Int, 0 ≤ j → (j < 890 * (Mmk + 1) ∨ 890 * (Mmk + 1) + 890 ≤ j) → gz u.2.2.1 j = gz Af j) ∧ (¬ (Mmk : Int) < 3 → u.2.2.1 = Af))) (fun u => [(hm, .inr (12, [.ref Ma, .ref Mn, .int (iZ u.1.2.1), .long Mtp, .long Mbt, .ref Ms, .ref My, .ref Mt, .ref Mp, .ref Mx, .int (iZ Mtd), .int (iZ Msz), .int (iZ Mtk), .int (iZ Mfr), .int (iZ Men), .int (iZ Mva), .int (iZ Mfk), .int (iZ Mfp), .int (iZ Mfs), .int (iZ Mse), .int (iZ Mlt), .ref Mo, .int (iZ Mdp), .int (iZ Mct), .ref Mk, .ref Ml, .ref Mb, .ref Mh, .ref Mc, .int (iZ Mdr), .int (iZ Mrs), .ref Mz, .ref Mr, .ref Mq, .int (iZ Mit), .int (iZ u.1.2.2)])), (Ma, .inl (k 1, 5340, .inl u.2.2.1)), (Mn, .inl (k 2, 36, .inr (.inl u.2.2.2)))]) := by
  refine MW (by decide) (Nat.le_of_ble_eq_true rfl) (fun p e s m below meth c ls A hx hb hml hr hlocks hin hts hown hKK hP hD hS hA hl => ?_)
  have hK := hKK.1
  have hl : lv_has ls 1 [(0, .ref hm)] := hl
  obtain ⟨m0, m1, m3, m4, m5, mF, mO, mS⟩ := id hM
  refine lv_aload_n hx hb dX12_mark_0 rfl (lv_at hl 0 rfl) ?_
  refine va_get (D := D) (ci := 12) (v := .int (iZ Mmk)) (C := RX12) (T := TX12) (N := 36) hx hb hts iX12 hown hK hP 0 rfl rfl 35 (bl rfl) (hts _ qf_X12_412) (fun _ h => h) rfl dX12_mark_1 ?_
  refine lv_iconst (v := iZ 3) hx hb dX12_mark_4 rfl ?_
  refine lv_icmp_ne (tgt := 14) hx hb dX12_mark_5 rfl (fun c_1 => ?_) (fun c_1 => ?_)
  ·
    have c_1 := mt (zeq (x := iZ Mmk) (y := iZ 3) rfl rfl ⟨by omega, by omega⟩ wn_3).mpr c_1
    refine lv_aload_n hx hb dX12_mark_14 rfl (lv_at hl 0 rfl) ?_
    refine lv_dup hx hb dX12_mark_15 rfl ?_
    refine va_get (D := D) (ci := 12) (v := .int (iZ Mmk)) (C := RX12) (T := TX12) (N := 36) hx hb hts iX12 hown hK hP 0 rfl rfl 35 (bl rfl) (hts _ qf_X12_412) (fun _ h => h) rfl dX12_mark_16 ?_
    refine lv_iconst (v := iZ 1) hx hb dX12_mark_19 rfl ?_
    refine lv_iadd hx hb dX12_mark_20 ?_
    refine lv_topi (fun x_2 ex_2 => ?_)
    obtain rfl : x_2 = iZ (Mmk + 1) := ex_2.trans (iZ_add Mmk 1)
    refine va_put (D := D) (ci := 12) (v := .int (iZ (Mmk + 1))) (ty := .int) (C := RX12) (T := TX12) (N := 36) hx hb hts iX12 tyX12 tyX12_ok nmX12 hown hK hP hD hS 0 rfl rfl 35 (bl rfl) (hts _ qf_X12_412) (fun _ h => h) rfl (by decide +kernel) rfl rfl (Nat.le_of_ble_eq_true rfl) dX12_mark_21 (fun H locs hP hD hS => ?_)
    refine lv_aload_n hx hb dX12_mark_24 rfl (lv_at hl 0 rfl) ?_
    refine lv_iconst (v := iZ 0) hx hb dX12_mark_25 rfl ?_
    refine lv_aload_n hx hb dX12_mark_26 rfl (lv_at hl 0 rfl) ?_
    refine va_get (D := D) (ci := 12) (v := .int (iZ (Mmk + 1))) (C := RX12) (T := TX12) (N := 36) hx hb hts iX12 hown hK hP 0 rfl rfl 35 (bl rfl) (hts _ qf_X12_412) (fun _ h => h) rfl dX12_mark_27 ?_
    refine CWV (As := [.int (iZ 0), .int (iZ (Mmk + 1))]) (rest := []) (wc := _) (wr := []) hx hb hml hown hts hKK hP hD hS hA (m_copies l D k ([.ref Ma, .ref Mn, .int (iZ Mst), .long Mtp, .long Mbt, .ref Ms, .ref My, .ref Mt, .ref Mp, .ref Mx, .int (iZ Mtd), .int (iZ Msz), .int (iZ Mtk), .int (iZ Mfr), .int (iZ Men), .int (iZ Mva), .int (iZ Mfk), .int (iZ Mfp), .int (iZ Mfs), .int (iZ Mse), .int (iZ Mlt), .ref Mo, .int (iZ Mdp), .int (iZ Mct), .ref Mk, .ref Ml, .ref Mb, .ref Mh, .ref Mc, .int (iZ Mdr), .int (iZ Mrs), .ref Mz, .ref Mr, .ref Mq, .int (iZ Mit), .int (iZ (Mmk + 1))]) hm Ma Mn Af Nf 0 (Mmk + 1) rfl rfl ⟨by omega, by omega⟩ ⟨by omega, by omega⟩ (by omega)) ci_X12_copies qm_X12_415 ⟨Nat.le_of_ble_eq_true rfl, Nat.le_of_ble_eq_true rfl⟩ ⟨Nat.le_of_ble_eq_true rfl, Nat.le_of_ble_eq_true rfl⟩ [0, 1, 2] [] rfl rfl rfl rfl rfl (dj rfl) 0 rfl rfl rfl hl.1 rfl (Nat.le_of_ble_eq_true rfl) dX12_mark_30 (fun u_3 H locs hφ hP hD hS => ?_)
    have p_4 : (∀ e : Int, 0 ≤ e → e < 890 → gz u_3.2.2.1 (890 * (Mmk + 1) + e) = gz Af (890 * 0 + e)) ∧ ∀ j : Int, 0 ≤ j → (j < 890 * (Mmk + 1) ∨ 890 * (Mmk + 1) + 890 ≤ j) → gz u_3.2.2.1 j = gz Af j := hφ
    refine W.eq (g2 := F0 m 33 ls []) rfl ?_
    refine lv_aload_n hx hb dX12_mark_33 rfl (lv_at hl 0 rfl) ?_
    refine lv_aload_n hx hb dX12_mark_34 rfl (lv_at hl 0 rfl) ?_
    refine va_get (D := D) (ci := 12) (v := .int (iZ (Mmk + 1))) (C := RX12) (T := TX12) (N := 36) hx hb hts iX12 hown hK hP 0 rfl rfl 35 (bl rfl) (hts _ qf_X12_412) (fun _ h => h) rfl dX12_mark_35 ?_
    refine CWV (As := [.int (iZ (Mmk + 1))]) (rest := []) (wc := _) (wr := [(Ma, .inl (k 1, 5340, .inl u_3.2.2.1)), (Mn, .inl (k 2, 36, .inr (.inl u_3.2.2.2)))]) hx hb hml hown hts hKK hP hD hS hA (m_gives l D k hm Ma Mn Ms My Mt Mp Mx Mo Mk Ml Mb Mh Mc Mz Mr Mq Mst Mtd Msz Mtk Mfr Men Mva Mfk Mfp Mfs Mse Mlt Mdp Mct Mdr Mrs Mit (Mmk + 1) Mtp Mbt (Mmk + 1)) ci_X12_gives qm_X12_85 ⟨Nat.le_of_ble_eq_true rfl, Nat.le_of_ble_eq_true rfl⟩ ⟨Nat.le_of_ble_eq_true rfl, Nat.le_of_ble_eq_true rfl⟩ [0] [1, 2] rfl rfl rfl rfl rfl (dj rfl) 0 rfl rfl rfl hl.1 rfl (Nat.le_of_ble_eq_true rfl) dX12_mark_38 (fun u_5 H locs hφ hP hD hS => ?_)
    refine W.eq (g2 := F0 m 41 ls [.int (iZ (Mmk + 1))]) rfl ?_
    exact EWi hx hb hr hlocks hS (((Mmk + 1), 0, (Mmk + 1)), 0, u_3.2.2.1, u_3.2.2.2) rfl ⟨(show 0 ≤ (Mmk + 1) ∧ (Mmk + 1) ≤ 3 from (by omega)), (show MK u_3.2.2.1 (Mmk + 1) ∧ M0 u_3.2.2.1 from (MK.mark (n := Mmk) ⟨by omega, by omega⟩ hM hMK p_4.1 p_4.2)), (show (Mmk = 3 ∧ (Mmk + 1) = -1 ∧ (Mmk + 1) = 3) ∨ (Mmk < 3 ∧ (Mmk + 1) = Mmk + 1 ∧ (Mmk + 1) = Mmk + 1) from (by omega)), (show ((Mmk : Int) < 3 → (∀ e : Int, 0 ≤ e → e < 890 → gz u_3.2.2.1 (890 * (Mmk + 1) + e) = gz Af e) ∧ ∀ j : Int, 0 ≤ j → (j < 890 * (Mmk + 1) ∨ 890 * (Mmk + 1) + 890 ≤ j) → gz u_3.2.2.1 j = gz Af j) ∧ (¬ (Mmk : Int) < 3 → u_3.2.2.1 = Af) from ⟨fun _ => ⟨fun e h1 h2 => by have h9 := p_4.1 e h1 h2; rw [show 890 * 0 + e = e by omega] at h9; exact h9, p_4.2⟩, fun h => absurd (show Mmk < 3 from (by omega)) h⟩)⟩ (hP.sub [2, 0, 1] rfl) (hD.sub [2, 0, 1] rfl rfl) dX12_mark_41
  ·
    have c_1 := (zeq (x := iZ Mmk) (y := iZ 3) rfl rfl ⟨by omega, by omega⟩ wn_3).mp c_1
    refine lv_aload_n hx hb dX12_mark_8 rfl (lv_at hl 0 rfl) ?_
    refine lv_iconst (v := iZ 4) hx hb dX12_mark_9 rfl ?_
    refine CWV (As := [.int (iZ 4)]) (rest := []) (wc := _) (wr := [(Ma, .inl (k 1, 5340, .inl Af)), (Mn, .inl (k 2, 36, .inr (.inl Nf)))]) hx hb hml hown hts hKK hP hD hS hA (m_refuse l D k hm Ma Mn Ms My Mt Mp Mx Mo Mk Ml Mb Mh Mc Mz Mr Mq Mst Mtd Msz Mtk Mfr Men Mva Mfk Mfp Mfs Mse Mlt Mdp Mct Mdr Mrs Mit Mmk Mtp Mbt 4) ci_X12_refuse qm_X12_81 ⟨Nat.le_of_ble_eq_true rfl, Nat.le_of_ble_eq_true rfl⟩ ⟨Nat.le_of_ble_eq_true rfl, Nat.le_of_ble_eq_true rfl⟩ [0] [1, 2] rfl rfl rfl rfl rfl (dj rfl) 0 rfl rfl rfl hl.1 rfl (Nat.le_of_ble_eq_true rfl) dX12_mark_10 (fun u_6 H locs hφ hP hD hS => ?_)
    refine W.eq (g2 := F0 m 13 ls [.int (iZ (-1))]) rfl ?_
    exact EWi hx hb hr hlocks hS (((-1), 4, Mmk), 0, Af, Nf) rfl ⟨(show 0 ≤ Mmk ∧ Mmk ≤ 3 from (by omega)), (show MK Af Mmk ∧ M0 Af from ⟨hMK, hM⟩), (show (Mmk = 3 ∧ (-1) = -1 ∧ Mmk = 3) ∨ (Mmk < 3 ∧ (-1) = Mmk + 1 ∧ Mmk = Mmk + 1) from (by omega)), (show ((Mmk : Int) < 3 → (∀ e : Int, 0 ≤ e → e < 890 → gz Af (890 * (Mmk + 1) + e) = gz Af e) ∧ ∀ j : Int, 0 ≤ j → (j < 890 * (Mmk + 1) ∨ 890 * (Mmk + 1) + 890 ≤ j) → gz Af j = gz Af j) ∧ (¬ (Mmk : Int) < 3 → Af = Af) from ⟨fun h => absurd h (by omega), fun _ => rfl⟩)⟩ (hP.sub [2, 0, 1] rfl) (hD.sub [2, 0, 1] rfl rfl) dX12_mark_13
set_option maxHeartbeats 4000000 in
set_option maxRecDepth 100000 in
theorem q_back (l : Launch) (D : va_G) (k : Nat → ClassId) (hm : Nat) (Ma : Nat) (Mn : Nat) (Ms : Nat) (My : Nat) (Mt : Nat) (Mp : Nat) (Mx : Nat) (Mo : Nat) (Mk : Nat) (Ml : Nat) (Mb : Nat) (Mh : Nat) (Mc : Nat) (Mz : Nat) (Mr : Nat) (Mq : Nat) (Mst : Int) (Mtd : Int) (Msz : Int) (Mtk : Int) (Mfr : Int) (Men : Int) (Mva : Int) (Mfk : Int) (Mfp : Int) (Mfs : Int) (Mse : Int) (Mlt : Int) (Mdp : Int) (Mct : Int) (Mdr : Int) (Mrs : Int) (Mit : Int) (Mmk : Int) (Mtp : Int64) (Mbt : Int64) (Af : Nat → Int32) (Nf : Nat → Int64) (hM : M0 Af) (hmk : 0 ≤ Mmk ∧ Mmk ≤ 3) (hMK : MK Af Mmk) : WD (σ := ((Int × Int × Int) × (Int64) × ((Nat → Int32)) × ((Nat → Int64)))) l yX12_back cX12_back 1 (some .int) 1 0 0 D k [.ref hm] [(hm, .inr (12, [.ref Ma, .ref Mn, .int (iZ Mst), .long Mtp, .long Mbt, .ref Ms, .ref My, .ref Mt, .ref Mp, .ref Mx, .int (iZ Mtd), .int (iZ Msz), .int (iZ Mtk), .int (iZ Mfr), .int (iZ Men), .int (iZ Mva), .int (iZ Mfk), .int (iZ Mfp), .int (iZ Mfs), .int (iZ Mse), .int (iZ Mlt), .ref Mo, .int (iZ Mdp), .int (iZ Mct), .ref Mk, .ref Ml, .ref Mb, .ref Mh, .ref Mc, .int (iZ Mdr), .int (iZ Mrs), .ref Mz, .ref Mr, .ref Mq, .int (iZ Mit), .int (iZ Mmk)])), (Ma, .inl (k 1, 5340, .inl Af)), (Mn, .inl (k 2, 36, .inr (.inl Nf)))] (fun u => some (.int (iZ u.1.1))) (fun u => (0 ≤ u.1.2.2 ∧ u.1.2.2 ≤ 3) ∧ (MK u.2.2.1 u.1.2.2 ∧ M0 u.2.2.1) ∧ ((Mmk = 0 ∧ u.1.1 = -1 ∧ u.1.2.2 = 0) ∨ (0 < Mmk ∧ u.1.1 = Mmk - 1 ∧ u.1.2.2 = Mmk - 1)) ∧ ((0 < (Mmk : Int) → (∀ e : Int, 0 ≤ e → e < 890 → gz u.2.2.1 e = gz Af (890 * Mmk + e)) ∧ ∀ j : Int, 890 ≤ j → gz u.2.2.1 j = gz Af j) ∧ (¬ 0 < (Mmk : Int) → u.2.2.1 = Af))) (fun u => [(hm, .inr (12, [.ref Ma, .ref Mn, .int (iZ u.1.2.1), .long Mtp, .long Mbt, .ref Ms, .ref My, .ref Mt, .ref Mp, .ref Mx, .int (iZ Mtd), .int (iZ Msz), .int (iZ Mtk), .int (iZ Mfr), .int (iZ Men), .int (iZ Mva), .int (iZ Mfk), .int (iZ Mfp), .int (iZ Mfs), .int (iZ Mse), .int (iZ Mlt), .ref Mo, .int (iZ Mdp), .int (iZ Mct), .ref Mk, .ref Ml, .ref Mb, .ref Mh, .ref Mc, .int (iZ Mdr), .int (iZ Mrs), .ref Mz, .ref Mr, .ref Mq, .int (iZ Mit), .int (iZ u.1.2.2)])), (Ma, .inl (k 1, 5340, .inl u.2.2.1)), (Mn, .inl (k 2, 36, .inr (.inl u.2.2.2)))]) := by
  refine MW (by decide) (Nat.le_of_ble_eq_true rfl) (fun p e s m below meth c ls A hx hb hml hr hlocks hin hts hown hKK hP hD hS hA hl => ?_)
  have hK := hKK.1
  have hl : lv_has ls 1 [(0, .ref hm)] := hl
  obtain ⟨m0, m1, m3, m4, m5, mF, mO, mS⟩ := id hM
  refine lv_aload_n hx hb dX12_back_0 rfl (lv_at hl 0 rfl) ?_
  refine va_get (D := D) (ci := 12) (v := .int (iZ Mmk)) (C := RX12) (T := TX12) (N := 36) hx hb hts iX12 hown hK hP 0 rfl rfl 35 (bl rfl) (hts _ qf_X12_412) (fun _ h => h) rfl dX12_back_1 ?_
  refine lv_if_ne (tgt := 14) hx hb dX12_back_4 rfl (fun c_1 => ?_) (fun c_1 => ?_)
  ·
    have c_1 := mt (zeq (x := iZ Mmk) (y := iZ 0) rfl rfl ⟨by omega, by omega⟩ wn_0).mpr c_1
    refine lv_aload_n hx hb dX12_back_14 rfl (lv_at hl 0 rfl) ?_
    refine lv_aload_n hx hb dX12_back_15 rfl (lv_at hl 0 rfl) ?_
    refine va_get (D := D) (ci := 12) (v := .int (iZ Mmk)) (C := RX12) (T := TX12) (N := 36) hx hb hts iX12 hown hK hP 0 rfl rfl 35 (bl rfl) (hts _ qf_X12_412) (fun _ h => h) rfl dX12_back_16 ?_
    refine lv_iconst (v := iZ 0) hx hb dX12_back_19 rfl ?_
    refine CWV (As := [.int (iZ Mmk), .int (iZ 0)]) (rest := []) (wc := _) (wr := []) hx hb hml hown hts hKK hP hD hS hA (m_copies l D k ([.ref Ma, .ref Mn, .int (iZ Mst), .long Mtp, .long Mbt, .ref Ms, .ref My, .ref Mt, .ref Mp, .ref Mx, .int (iZ Mtd), .int (iZ Msz), .int (iZ Mtk), .int (iZ Mfr), .int (iZ Men), .int (iZ Mva), .int (iZ Mfk), .int (iZ Mfp), .int (iZ Mfs), .int (iZ Mse), .int (iZ Mlt), .ref Mo, .int (iZ Mdp), .int (iZ Mct), .ref Mk, .ref Ml, .ref Mb, .ref Mh, .ref Mc, .int (iZ Mdr), .int (iZ Mrs), .ref Mz, .ref Mr, .ref Mq, .int (iZ Mit), .int (iZ Mmk)]) hm Ma Mn Af Nf Mmk 0 rfl rfl ⟨by omega, by omega⟩ ⟨by omega, by omega⟩ (by omega)) ci_X12_copies qm_X12_415 ⟨Nat.le_of_ble_eq_true rfl, Nat.le_of_ble_eq_true rfl⟩ ⟨Nat.le_of_ble_eq_true rfl, Nat.le_of_ble_eq_true rfl⟩ [0, 1, 2] [] rfl rfl rfl rfl rfl (dj rfl) 0 rfl rfl rfl hl.1 rfl (Nat.le_of_ble_eq_true rfl) dX12_back_20 (fun u_2 H locs hφ hP hD hS => ?_)
    have p_3 : (∀ e : Int, 0 ≤ e → e < 890 → gz u_2.2.2.1 (890 * 0 + e) = gz Af (890 * Mmk + e)) ∧ ∀ j : Int, 0 ≤ j → (j < 890 * 0 ∨ 890 * 0 + 890 ≤ j) → gz u_2.2.2.1 j = gz Af j := hφ
    refine W.eq (g2 := F0 m 23 ls []) rfl ?_
    refine lv_aload_n hx hb dX12_back_23 rfl (lv_at hl 0 rfl) ?_
    refine lv_dup hx hb dX12_back_24 rfl ?_
    refine va_get (D := D) (ci := 12) (v := .int (iZ Mmk)) (C := RX12) (T := TX12) (N := 36) hx hb hts iX12 hown hK hP 0 rfl rfl 35 (bl rfl) (hts _ qf_X12_412) (fun _ h => h) rfl dX12_back_25 ?_
    refine lv_iconst (v := iZ 1) hx hb dX12_back_28 rfl ?_
    refine lv_isub hx hb dX12_back_29 ?_
    refine lv_topi (fun x_4 ex_4 => ?_)
    obtain rfl : x_4 = iZ (Mmk - 1) := ex_4.trans (iZ_sub Mmk 1)
    refine va_put (D := D) (ci := 12) (v := .int (iZ (Mmk - 1))) (ty := .int) (C := RX12) (T := TX12) (N := 36) hx hb hts iX12 tyX12 tyX12_ok nmX12 hown hK hP hD hS 0 rfl rfl 35 (bl rfl) (hts _ qf_X12_412) (fun _ h => h) rfl (by decide +kernel) rfl rfl (Nat.le_of_ble_eq_true rfl) dX12_back_30 (fun H locs hP hD hS => ?_)
    refine lv_aload_n hx hb dX12_back_33 rfl (lv_at hl 0 rfl) ?_
    refine lv_aload_n hx hb dX12_back_34 rfl (lv_at hl 0 rfl) ?_
    refine va_get (D := D) (ci := 12) (v := .int (iZ (Mmk - 1))) (C := RX12) (T := TX12) (N := 36) hx hb hts iX12 hown hK hP 0 rfl rfl 35 (bl rfl) (hts _ qf_X12_412) (fun _ h => h) rfl dX12_back_35 ?_
    refine CWV (As := [.int (iZ (Mmk - 1))]) (rest := []) (wc := _) (wr := [(Ma, .inl (k 1, 5340, .inl u_2.2.2.1)), (Mn, .inl (k 2, 36, .inr (.inl u_2.2.2.2)))]) hx hb hml hown hts hKK hP hD hS hA (m_gives l D k hm Ma Mn Ms My Mt Mp Mx Mo Mk Ml Mb Mh Mc Mz Mr Mq Mst Mtd Msz Mtk Mfr Men Mva Mfk Mfp Mfs Mse Mlt Mdp Mct Mdr Mrs Mit (Mmk - 1) Mtp Mbt (Mmk - 1)) ci_X12_gives qm_X12_85 ⟨Nat.le_of_ble_eq_true rfl, Nat.le_of_ble_eq_true rfl⟩ ⟨Nat.le_of_ble_eq_true rfl, Nat.le_of_ble_eq_true rfl⟩ [0] [1, 2] rfl rfl rfl rfl rfl (dj rfl) 0 rfl rfl rfl hl.1 rfl (Nat.le_of_ble_eq_true rfl) dX12_back_38 (fun u_5 H locs hφ hP hD hS => ?_)
    refine W.eq (g2 := F0 m 41 ls [.int (iZ (Mmk - 1))]) rfl ?_
    exact EWi hx hb hr hlocks hS (((Mmk - 1), 0, (Mmk - 1)), 0, u_2.2.2.1, u_2.2.2.2) rfl ⟨(show 0 ≤ (Mmk - 1) ∧ (Mmk - 1) ≤ 3 from (by omega)), (show MK u_2.2.2.1 (Mmk - 1) ∧ M0 u_2.2.2.1 from (MK.back (n := Mmk) ⟨by omega, by omega⟩ hMK p_3.1 p_3.2)), (show (Mmk = 0 ∧ (Mmk - 1) = -1 ∧ (Mmk - 1) = 0) ∨ (0 < Mmk ∧ (Mmk - 1) = Mmk - 1 ∧ (Mmk - 1) = Mmk - 1) from (by omega)), (show (0 < (Mmk : Int) → (∀ e : Int, 0 ≤ e → e < 890 → gz u_2.2.2.1 e = gz Af (890 * Mmk + e)) ∧ ∀ j : Int, 890 ≤ j → gz u_2.2.2.1 j = gz Af j) ∧ (¬ 0 < (Mmk : Int) → u_2.2.2.1 = Af) from ⟨fun _ => ⟨fun e h1 h2 => by have h9 := p_3.1 e h1 h2; rw [show 890 * 0 + e = e by omega] at h9; exact h9, fun j h1 => p_3.2 j (by omega) (by omega)⟩, fun h => absurd (show 0 < Mmk from (by omega)) h⟩)⟩ (hP.sub [2, 0, 1] rfl) (hD.sub [2, 0, 1] rfl rfl) dX12_back_41
  ·
    have c_1 := (zeq (x := iZ Mmk) (y := iZ 0) rfl rfl ⟨by omega, by omega⟩ wn_0).mp c_1
    refine lv_aload_n hx hb dX12_back_7 rfl (lv_at hl 0 rfl) ?_
    refine lv_bipush (v := iZ 6) hx hb dX12_back_8 bip_6 ?_
    refine CWV (As := [.int (iZ 6)]) (rest := []) (wc := _) (wr := [(Ma, .inl (k 1, 5340, .inl Af)), (Mn, .inl (k 2, 36, .inr (.inl Nf)))]) hx hb hml hown hts hKK hP hD hS hA (m_refuse l D k hm Ma Mn Ms My Mt Mp Mx Mo Mk Ml Mb Mh Mc Mz Mr Mq Mst Mtd Msz Mtk Mfr Men Mva Mfk Mfp Mfs Mse Mlt Mdp Mct Mdr Mrs Mit Mmk Mtp Mbt 6) ci_X12_refuse qm_X12_81 ⟨Nat.le_of_ble_eq_true rfl, Nat.le_of_ble_eq_true rfl⟩ ⟨Nat.le_of_ble_eq_true rfl, Nat.le_of_ble_eq_true rfl⟩ [0] [1, 2] rfl rfl rfl rfl rfl (dj rfl) 0 rfl rfl rfl hl.1 rfl (Nat.le_of_ble_eq_true rfl) dX12_back_10 (fun u_6 H locs hφ hP hD hS => ?_)
    refine W.eq (g2 := F0 m 13 ls [.int (iZ (-1))]) rfl ?_
    exact EWi hx hb hr hlocks hS (((-1), 6, Mmk), 0, Af, Nf) rfl ⟨(show 0 ≤ Mmk ∧ Mmk ≤ 3 from (by omega)), (show MK Af Mmk ∧ M0 Af from ⟨hMK, hM⟩), (show (Mmk = 0 ∧ (-1) = -1 ∧ Mmk = 0) ∨ (0 < Mmk ∧ (-1) = Mmk - 1 ∧ Mmk = Mmk - 1) from (by omega)), (show (0 < (Mmk : Int) → (∀ e : Int, 0 ≤ e → e < 890 → gz Af e = gz Af (890 * Mmk + e)) ∧ ∀ j : Int, 890 ≤ j → gz Af j = gz Af j) ∧ (¬ 0 < (Mmk : Int) → Af = Af) from ⟨fun h => absurd h (by omega), fun _ => rfl⟩)⟩ (hP.sub [2, 0, 1] rfl) (hD.sub [2, 0, 1] rfl rfl) dX12_back_13
end

section
theorem qf_J0_38 : Cond.fieldLink RJ0 38 "java/lang/String" "COMPACT_STRINGS" "Z" ∈ gw := tbt (tb1 (List.mem_of_getElem? (i := 200) rfl)) rfl
theorem qf_J0_15 : Cond.fieldLink RJ0 15 "java/lang/String" "coder" "B" ∈ gw := tbt (tb9 (List.mem_of_getElem? (i := 52) rfl)) rfl
theorem qf_J0_9 : Cond.fieldLink RJ0 9 "java/lang/String" "value" "[B" ∈ gw := tbt (tb9 (List.mem_of_getElem? (i := 51) rfl)) rfl
theorem qc_J0_coder_7d493 : Cond.code yJ0_coder_7d493 cJ0_coder_7d493 1 (some .byte) ∈ gw := tbt (tb1 (List.mem_of_getElem? (i := 199) rfl)) rfl
theorem qi_yJ0_coder_7d493 : Cond.instanceMethod yJ0_coder_7d493 ∈ gw := tbt (tb1 (List.mem_of_getElem? (i := 197) rfl)) rfl
theorem qs_J0_coder_7d493 : Cond.selects (yJ0_coder_7d493).cls yJ0_coder_7d493 yJ0_coder_7d493 ∈ gw := tbt (tb1 (List.mem_of_getElem? (i := 198) rfl)) rfl
theorem qz_J0 : Cond.initialized RJ0 ∈ gw := tbt (tb1 (List.mem_of_getElem? (i := 7) rfl)) rfl
theorem ci_J0_coder_7d493 : CIv yJ0_coder_7d493 cJ0_coder_7d493 1 (some .byte) 0 := ⟨qc_J0_coder_7d493, qi_yJ0_coder_7d493, qs_J0_coder_7d493, qz_J0, by decide +kernel⟩
theorem qm_J0_335 : Cond.methodLink RJ0 335 yJ0_coder_7d493 ∈ gw := tbt (tb1 (List.mem_of_getElem? (i := 196) rfl)) rfl
theorem qf_J0_1053 : Cond.fieldLink RJ0 1053 "jdk/internal/util/Preconditions" "SIOOBE_FORMATTER" "Ljava/util/function/BiFunction;" ∈ gw := tbt (tb1 (List.mem_of_getElem? (i := 216) rfl)) rfl
theorem qc_J3_checkIndex_8e157 : Cond.code yJ3_checkIndex_8e157 cJ3_checkIndex_8e157 3 (some .int) ∈ gw := tbt (tb1 (List.mem_of_getElem? (i := 220) rfl)) rfl
theorem qt_yJ3_checkIndex_8e157 : Cond.static yJ3_checkIndex_8e157 ∈ gw := tbt (tb1 (List.mem_of_getElem? (i := 219) rfl)) rfl
theorem qz_J3 : Cond.initialized RJ3 ∈ gw := tbt (tb1 (List.mem_of_getElem? (i := 9) rfl)) rfl
theorem ci_J3_checkIndex_8e157 : CIs yJ3_checkIndex_8e157 cJ3_checkIndex_8e157 3 (some .int) 3 := ⟨qc_J3_checkIndex_8e157, qt_yJ3_checkIndex_8e157, qz_J3, by decide +kernel⟩
theorem qm_J0_1059 : Cond.methodLink RJ0 1059 yJ3_checkIndex_8e157 ∈ gw := tbt (tb1 (List.mem_of_getElem? (i := 218) rfl)) rfl
theorem qc_J0_checkIndex_df160 : Cond.code yJ0_checkIndex_df160 cJ0_checkIndex_df160 2 none ∈ gw := tbt (tb1 (List.mem_of_getElem? (i := 215) rfl)) rfl
theorem qt_yJ0_checkIndex_df160 : Cond.static yJ0_checkIndex_df160 ∈ gw := tbt (tb1 (List.mem_of_getElem? (i := 214) rfl)) rfl
theorem ci_J0_checkIndex_df160 : CIs yJ0_checkIndex_df160 cJ0_checkIndex_df160 2 none 2 := ⟨qc_J0_checkIndex_df160, qt_yJ0_checkIndex_df160, qz_J0, by decide +kernel⟩
theorem qm_J1_9 : Cond.methodLink RJ1 9 yJ0_checkIndex_df160 ∈ gw := tbt (tb1 (List.mem_of_getElem? (i := 213) rfl)) rfl
theorem qc_J0_isLatin1_aae02 : Cond.code yJ0_isLatin1_aae02 cJ0_isLatin1_aae02 1 (some .boolean) ∈ gw := tbt (tb1 (List.mem_of_getElem? (i := 209) rfl)) rfl
theorem qi_yJ0_isLatin1_aae02 : Cond.instanceMethod yJ0_isLatin1_aae02 ∈ gw := tbt (tb1 (List.mem_of_getElem? (i := 207) rfl)) rfl
theorem qs_J0_isLatin1_aae02 : Cond.selects (yJ0_isLatin1_aae02).cls yJ0_isLatin1_aae02 yJ0_isLatin1_aae02 ∈ gw := tbt (tb1 (List.mem_of_getElem? (i := 208) rfl)) rfl
theorem ci_J0_isLatin1_aae02 : CIv yJ0_isLatin1_aae02 cJ0_isLatin1_aae02 1 (some .boolean) 0 := ⟨qc_J0_isLatin1_aae02, qi_yJ0_isLatin1_aae02, qs_J0_isLatin1_aae02, qz_J0, by decide +kernel⟩
theorem qm_J0_492 : Cond.methodLink RJ0 492 yJ0_isLatin1_aae02 ∈ gw := tbt (tb1 (List.mem_of_getElem? (i := 206) rfl)) rfl
theorem qc_J1_charAt_3b067 : Cond.code yJ1_charAt_3b067 cJ1_charAt_3b067 2 (some .char) ∈ gw := tbt (tb1 (List.mem_of_getElem? (i := 212) rfl)) rfl
theorem qt_yJ1_charAt_3b067 : Cond.static yJ1_charAt_3b067 ∈ gw := tbt (tb1 (List.mem_of_getElem? (i := 211) rfl)) rfl
theorem qz_J1 : Cond.initialized RJ1 ∈ gw := tbt (tb1 (List.mem_of_getElem? (i := 8) rfl)) rfl
theorem ci_J1_charAt_3b067 : CIs yJ1_charAt_3b067 cJ1_charAt_3b067 2 (some .char) 2 := ⟨qc_J1_charAt_3b067, qt_yJ1_charAt_3b067, qz_J1, by decide +kernel⟩
theorem qm_J0_495 : Cond.methodLink RJ0 495 yJ1_charAt_3b067 ∈ gw := tbt (tb1 (List.mem_of_getElem? (i := 210) rfl)) rfl
def fb_J0_charAt_5068e_0 : List UInt8 := [0x2a, 0xb6, 0x01, 0xec, 0x99, 0x00, 0x0c, 0x2a, 0xb4, 0x00, 0x09, 0x1b, 0xb8, 0x01, 0xef, 0xac, 0x2a, 0xb4, 0x00, 0x09, 0x1b, 0xb8, 0x01, 0xf2, 0xac]
theorem fl_J0_charAt_5068e_0 {p j : Nat} {b : UInt8} (e : p = 0 + j) (h : fb_J0_charAt_5068e_0[j]? = some b) : cJ0_charAt_5068e.data.toList[p]? = some b := fq_l (n := 64) (show (cJ0_charAt_5068e.data.toList.drop 0).take 64 = fb_J0_charAt_5068e_0 by decide +kernel) e h
theorem dJ0_charAt_5068e_0 : decode cJ0_charAt_5068e 0 = .ok (.aload_n 0, 1) := fq1_42 (fl_J0_charAt_5068e_0 (j := 0) rfl rfl)
theorem dJ0_charAt_5068e_1 : decode cJ0_charAt_5068e 1 = .ok (.invokevirtual 492, 3) := fq3_182 (fl_J0_charAt_5068e_0 (j := 1) rfl rfl) (fl_J0_charAt_5068e_0 (j := 2) rfl rfl) (fl_J0_charAt_5068e_0 (j := 3) rfl rfl) rfl
theorem dJ0_charAt_5068e_4 : decode cJ0_charAt_5068e 4 = .ok (.ifCond .eq 12, 3) := fq3_153 (fl_J0_charAt_5068e_0 (j := 4) rfl rfl) (fl_J0_charAt_5068e_0 (j := 5) rfl rfl) (fl_J0_charAt_5068e_0 (j := 6) rfl rfl) (s2p rfl (bl rfl))
theorem dJ0_charAt_5068e_7 : decode cJ0_charAt_5068e 7 = .ok (.aload_n 0, 1) := fq1_42 (fl_J0_charAt_5068e_0 (j := 7) rfl rfl)
theorem dJ0_charAt_5068e_8 : decode cJ0_charAt_5068e 8 = .ok (.getfield 9, 3) := fq3_180 (fl_J0_charAt_5068e_0 (j := 8) rfl rfl) (fl_J0_charAt_5068e_0 (j := 9) rfl rfl) (fl_J0_charAt_5068e_0 (j := 10) rfl rfl) rfl
theorem dJ0_charAt_5068e_11 : decode cJ0_charAt_5068e 11 = .ok (.iload_n 1, 1) := fq1_27 (fl_J0_charAt_5068e_0 (j := 11) rfl rfl)
theorem dJ0_charAt_5068e_12 : decode cJ0_charAt_5068e 12 = .ok (.invokestatic 495, 3) := fq3_184 (fl_J0_charAt_5068e_0 (j := 12) rfl rfl) (fl_J0_charAt_5068e_0 (j := 13) rfl rfl) (fl_J0_charAt_5068e_0 (j := 14) rfl rfl) rfl
theorem dJ0_charAt_5068e_15 : decode cJ0_charAt_5068e 15 = .ok (.ireturn, 1) := fq1_172 (fl_J0_charAt_5068e_0 (j := 15) rfl rfl)
def fb_J0_checkIndex_df160_0 : List UInt8 := [0x1a, 0x1b, 0xb2, 0x04, 0x1d, 0xb8, 0x04, 0x23, 0x57, 0xb1]
theorem fl_J0_checkIndex_df160_0 {p j : Nat} {b : UInt8} (e : p = 0 + j) (h : fb_J0_checkIndex_df160_0[j]? = some b) : cJ0_checkIndex_df160.data.toList[p]? = some b := fq_l (n := 64) (show (cJ0_checkIndex_df160.data.toList.drop 0).take 64 = fb_J0_checkIndex_df160_0 by decide +kernel) e h
theorem dJ0_checkIndex_df160_0 : decode cJ0_checkIndex_df160 0 = .ok (.iload_n 0, 1) := fq1_26 (fl_J0_checkIndex_df160_0 (j := 0) rfl rfl)
theorem dJ0_checkIndex_df160_1 : decode cJ0_checkIndex_df160 1 = .ok (.iload_n 1, 1) := fq1_27 (fl_J0_checkIndex_df160_0 (j := 1) rfl rfl)
theorem dJ0_checkIndex_df160_2 : decode cJ0_checkIndex_df160 2 = .ok (.getstatic 1053, 3) := fq3_178 (fl_J0_checkIndex_df160_0 (j := 2) rfl rfl) (fl_J0_checkIndex_df160_0 (j := 3) rfl rfl) (fl_J0_checkIndex_df160_0 (j := 4) rfl rfl) rfl
theorem dJ0_checkIndex_df160_5 : decode cJ0_checkIndex_df160 5 = .ok (.invokestatic 1059, 3) := fq3_184 (fl_J0_checkIndex_df160_0 (j := 5) rfl rfl) (fl_J0_checkIndex_df160_0 (j := 6) rfl rfl) (fl_J0_checkIndex_df160_0 (j := 7) rfl rfl) rfl
theorem dJ0_checkIndex_df160_8 : decode cJ0_checkIndex_df160 8 = .ok (.pop, 1) := fq1_87 (fl_J0_checkIndex_df160_0 (j := 8) rfl rfl)
theorem dJ0_checkIndex_df160_9 : decode cJ0_checkIndex_df160 9 = .ok (.return_, 1) := fq1_177 (fl_J0_checkIndex_df160_0 (j := 9) rfl rfl)
def fb_J0_coder_7d493_0 : List UInt8 := [0xb2, 0x00, 0x26, 0x99, 0x00, 0x0a, 0x2a, 0xb4, 0x00, 0x0f, 0xa7, 0x00, 0x04, 0x04, 0xac]
theorem fl_J0_coder_7d493_0 {p j : Nat} {b : UInt8} (e : p = 0 + j) (h : fb_J0_coder_7d493_0[j]? = some b) : cJ0_coder_7d493.data.toList[p]? = some b := fq_l (n := 64) (show (cJ0_coder_7d493.data.toList.drop 0).take 64 = fb_J0_coder_7d493_0 by decide +kernel) e h
theorem dJ0_coder_7d493_0 : decode cJ0_coder_7d493 0 = .ok (.getstatic 38, 3) := fq3_178 (fl_J0_coder_7d493_0 (j := 0) rfl rfl) (fl_J0_coder_7d493_0 (j := 1) rfl rfl) (fl_J0_coder_7d493_0 (j := 2) rfl rfl) rfl
theorem dJ0_coder_7d493_3 : decode cJ0_coder_7d493 3 = .ok (.ifCond .eq 10, 3) := fq3_153 (fl_J0_coder_7d493_0 (j := 3) rfl rfl) (fl_J0_coder_7d493_0 (j := 4) rfl rfl) (fl_J0_coder_7d493_0 (j := 5) rfl rfl) (s2p rfl (bl rfl))
theorem dJ0_coder_7d493_6 : decode cJ0_coder_7d493 6 = .ok (.aload_n 0, 1) := fq1_42 (fl_J0_coder_7d493_0 (j := 6) rfl rfl)
theorem dJ0_coder_7d493_7 : decode cJ0_coder_7d493 7 = .ok (.getfield 15, 3) := fq3_180 (fl_J0_coder_7d493_0 (j := 7) rfl rfl) (fl_J0_coder_7d493_0 (j := 8) rfl rfl) (fl_J0_coder_7d493_0 (j := 9) rfl rfl) rfl
theorem dJ0_coder_7d493_10 : decode cJ0_coder_7d493 10 = .ok (.goto 4, 3) := fq3_167 (fl_J0_coder_7d493_0 (j := 10) rfl rfl) (fl_J0_coder_7d493_0 (j := 11) rfl rfl) (fl_J0_coder_7d493_0 (j := 12) rfl rfl) (s2p rfl (bl rfl))
theorem dJ0_coder_7d493_14 : decode cJ0_coder_7d493 14 = .ok (.ireturn, 1) := fq1_172 (fl_J0_coder_7d493_0 (j := 14) rfl rfl)
def fb_J0_isLatin1_aae02_0 : List UInt8 := [0xb2, 0x00, 0x26, 0x99, 0x00, 0x0e, 0x2a, 0xb4, 0x00, 0x0f, 0x9a, 0x00, 0x07, 0x04, 0xa7, 0x00, 0x04, 0x03, 0xac]
theorem fl_J0_isLatin1_aae02_0 {p j : Nat} {b : UInt8} (e : p = 0 + j) (h : fb_J0_isLatin1_aae02_0[j]? = some b) : cJ0_isLatin1_aae02.data.toList[p]? = some b := fq_l (n := 64) (show (cJ0_isLatin1_aae02.data.toList.drop 0).take 64 = fb_J0_isLatin1_aae02_0 by decide +kernel) e h
theorem dJ0_isLatin1_aae02_0 : decode cJ0_isLatin1_aae02 0 = .ok (.getstatic 38, 3) := fq3_178 (fl_J0_isLatin1_aae02_0 (j := 0) rfl rfl) (fl_J0_isLatin1_aae02_0 (j := 1) rfl rfl) (fl_J0_isLatin1_aae02_0 (j := 2) rfl rfl) rfl
theorem dJ0_isLatin1_aae02_3 : decode cJ0_isLatin1_aae02 3 = .ok (.ifCond .eq 14, 3) := fq3_153 (fl_J0_isLatin1_aae02_0 (j := 3) rfl rfl) (fl_J0_isLatin1_aae02_0 (j := 4) rfl rfl) (fl_J0_isLatin1_aae02_0 (j := 5) rfl rfl) (s2p rfl (bl rfl))
theorem dJ0_isLatin1_aae02_6 : decode cJ0_isLatin1_aae02 6 = .ok (.aload_n 0, 1) := fq1_42 (fl_J0_isLatin1_aae02_0 (j := 6) rfl rfl)
theorem dJ0_isLatin1_aae02_7 : decode cJ0_isLatin1_aae02 7 = .ok (.getfield 15, 3) := fq3_180 (fl_J0_isLatin1_aae02_0 (j := 7) rfl rfl) (fl_J0_isLatin1_aae02_0 (j := 8) rfl rfl) (fl_J0_isLatin1_aae02_0 (j := 9) rfl rfl) rfl
theorem dJ0_isLatin1_aae02_10 : decode cJ0_isLatin1_aae02 10 = .ok (.ifCond .ne 7, 3) := fq3_154 (fl_J0_isLatin1_aae02_0 (j := 10) rfl rfl) (fl_J0_isLatin1_aae02_0 (j := 11) rfl rfl) (fl_J0_isLatin1_aae02_0 (j := 12) rfl rfl) (s2p rfl (bl rfl))
theorem dJ0_isLatin1_aae02_13 : decode cJ0_isLatin1_aae02 13 = .ok (.iconst 1, 1) := fq1_4 (fl_J0_isLatin1_aae02_0 (j := 13) rfl rfl)
theorem dJ0_isLatin1_aae02_14 : decode cJ0_isLatin1_aae02 14 = .ok (.goto 4, 3) := fq3_167 (fl_J0_isLatin1_aae02_0 (j := 14) rfl rfl) (fl_J0_isLatin1_aae02_0 (j := 15) rfl rfl) (fl_J0_isLatin1_aae02_0 (j := 16) rfl rfl) (s2p rfl (bl rfl))
theorem dJ0_isLatin1_aae02_18 : decode cJ0_isLatin1_aae02 18 = .ok (.ireturn, 1) := fq1_172 (fl_J0_isLatin1_aae02_0 (j := 18) rfl rfl)
def fb_J0_length_8abf5_0 : List UInt8 := [0x2a, 0xb4, 0x00, 0x09, 0xbe, 0x2a, 0xb6, 0x01, 0x4f, 0x7a, 0xac]
theorem fl_J0_length_8abf5_0 {p j : Nat} {b : UInt8} (e : p = 0 + j) (h : fb_J0_length_8abf5_0[j]? = some b) : cJ0_length_8abf5.data.toList[p]? = some b := fq_l (n := 64) (show (cJ0_length_8abf5.data.toList.drop 0).take 64 = fb_J0_length_8abf5_0 by decide +kernel) e h
theorem dJ0_length_8abf5_0 : decode cJ0_length_8abf5 0 = .ok (.aload_n 0, 1) := fq1_42 (fl_J0_length_8abf5_0 (j := 0) rfl rfl)
theorem dJ0_length_8abf5_1 : decode cJ0_length_8abf5 1 = .ok (.getfield 9, 3) := fq3_180 (fl_J0_length_8abf5_0 (j := 1) rfl rfl) (fl_J0_length_8abf5_0 (j := 2) rfl rfl) (fl_J0_length_8abf5_0 (j := 3) rfl rfl) rfl
theorem dJ0_length_8abf5_4 : decode cJ0_length_8abf5 4 = .ok (.arraylength, 1) := fq1_190 (fl_J0_length_8abf5_0 (j := 4) rfl rfl)
theorem dJ0_length_8abf5_5 : decode cJ0_length_8abf5 5 = .ok (.aload_n 0, 1) := fq1_42 (fl_J0_length_8abf5_0 (j := 5) rfl rfl)
theorem dJ0_length_8abf5_6 : decode cJ0_length_8abf5 6 = .ok (.invokevirtual 335, 3) := fq3_182 (fl_J0_length_8abf5_0 (j := 6) rfl rfl) (fl_J0_length_8abf5_0 (j := 7) rfl rfl) (fl_J0_length_8abf5_0 (j := 8) rfl rfl) rfl
theorem dJ0_length_8abf5_9 : decode cJ0_length_8abf5 9 = .ok (.ishr, 1) := fq1_122 (fl_J0_length_8abf5_0 (j := 9) rfl rfl)
theorem dJ0_length_8abf5_10 : decode cJ0_length_8abf5 10 = .ok (.ireturn, 1) := fq1_172 (fl_J0_length_8abf5_0 (j := 10) rfl rfl)
def fb_J1_charAt_3b067_0 : List UInt8 := [0x1b, 0x2a, 0xbe, 0xb8, 0x00, 0x09, 0x2a, 0x1b, 0x33, 0x11, 0x00, 0xff, 0x7e, 0x92, 0xac]
theorem fl_J1_charAt_3b067_0 {p j : Nat} {b : UInt8} (e : p = 0 + j) (h : fb_J1_charAt_3b067_0[j]? = some b) : cJ1_charAt_3b067.data.toList[p]? = some b := fq_l (n := 64) (show (cJ1_charAt_3b067.data.toList.drop 0).take 64 = fb_J1_charAt_3b067_0 by decide +kernel) e h
theorem dJ1_charAt_3b067_0 : decode cJ1_charAt_3b067 0 = .ok (.iload_n 1, 1) := fq1_27 (fl_J1_charAt_3b067_0 (j := 0) rfl rfl)
theorem dJ1_charAt_3b067_1 : decode cJ1_charAt_3b067 1 = .ok (.aload_n 0, 1) := fq1_42 (fl_J1_charAt_3b067_0 (j := 1) rfl rfl)
theorem dJ1_charAt_3b067_2 : decode cJ1_charAt_3b067 2 = .ok (.arraylength, 1) := fq1_190 (fl_J1_charAt_3b067_0 (j := 2) rfl rfl)
theorem dJ1_charAt_3b067_3 : decode cJ1_charAt_3b067 3 = .ok (.invokestatic 9, 3) := fq3_184 (fl_J1_charAt_3b067_0 (j := 3) rfl rfl) (fl_J1_charAt_3b067_0 (j := 4) rfl rfl) (fl_J1_charAt_3b067_0 (j := 5) rfl rfl) rfl
theorem dJ1_charAt_3b067_6 : decode cJ1_charAt_3b067 6 = .ok (.aload_n 0, 1) := fq1_42 (fl_J1_charAt_3b067_0 (j := 6) rfl rfl)
theorem dJ1_charAt_3b067_7 : decode cJ1_charAt_3b067 7 = .ok (.iload_n 1, 1) := fq1_27 (fl_J1_charAt_3b067_0 (j := 7) rfl rfl)
theorem dJ1_charAt_3b067_8 : decode cJ1_charAt_3b067 8 = .ok (.baload, 1) := fq1_51 (fl_J1_charAt_3b067_0 (j := 8) rfl rfl)
theorem dJ1_charAt_3b067_9 : decode cJ1_charAt_3b067 9 = .ok (.sipush 255, 3) := fq3_17 (fl_J1_charAt_3b067_0 (j := 9) rfl rfl) (fl_J1_charAt_3b067_0 (j := 10) rfl rfl) (fl_J1_charAt_3b067_0 (j := 11) rfl rfl) (s2p rfl (bl rfl))
theorem dJ1_charAt_3b067_12 : decode cJ1_charAt_3b067 12 = .ok (.iand, 1) := fq1_126 (fl_J1_charAt_3b067_0 (j := 12) rfl rfl)
theorem dJ1_charAt_3b067_13 : decode cJ1_charAt_3b067 13 = .ok (.i2c, 1) := fq1_146 (fl_J1_charAt_3b067_0 (j := 13) rfl rfl)
theorem dJ1_charAt_3b067_14 : decode cJ1_charAt_3b067 14 = .ok (.ireturn, 1) := fq1_172 (fl_J1_charAt_3b067_0 (j := 14) rfl rfl)
def fb_J3_checkIndex_8e157_0 : List UInt8 := [0x1a, 0x9b, 0x00, 0x08, 0x1a, 0x1b, 0xa1, 0x00, 0x0a, 0x2c, 0x1a, 0x1b, 0xb8, 0x00, 0x5f, 0xbf, 0x1a, 0xac]
theorem fl_J3_checkIndex_8e157_0 {p j : Nat} {b : UInt8} (e : p = 0 + j) (h : fb_J3_checkIndex_8e157_0[j]? = some b) : cJ3_checkIndex_8e157.data.toList[p]? = some b := fq_l (n := 64) (show (cJ3_checkIndex_8e157.data.toList.drop 0).take 64 = fb_J3_checkIndex_8e157_0 by decide +kernel) e h
theorem dJ3_checkIndex_8e157_0 : decode cJ3_checkIndex_8e157 0 = .ok (.iload_n 0, 1) := fq1_26 (fl_J3_checkIndex_8e157_0 (j := 0) rfl rfl)
theorem dJ3_checkIndex_8e157_1 : decode cJ3_checkIndex_8e157 1 = .ok (.ifCond .lt 8, 3) := fq3_155 (fl_J3_checkIndex_8e157_0 (j := 1) rfl rfl) (fl_J3_checkIndex_8e157_0 (j := 2) rfl rfl) (fl_J3_checkIndex_8e157_0 (j := 3) rfl rfl) (s2p rfl (bl rfl))
theorem dJ3_checkIndex_8e157_4 : decode cJ3_checkIndex_8e157 4 = .ok (.iload_n 0, 1) := fq1_26 (fl_J3_checkIndex_8e157_0 (j := 4) rfl rfl)
theorem dJ3_checkIndex_8e157_5 : decode cJ3_checkIndex_8e157 5 = .ok (.iload_n 1, 1) := fq1_27 (fl_J3_checkIndex_8e157_0 (j := 5) rfl rfl)
theorem dJ3_checkIndex_8e157_6 : decode cJ3_checkIndex_8e157 6 = .ok (.if_icmp .lt 10, 3) := fq3_161 (fl_J3_checkIndex_8e157_0 (j := 6) rfl rfl) (fl_J3_checkIndex_8e157_0 (j := 7) rfl rfl) (fl_J3_checkIndex_8e157_0 (j := 8) rfl rfl) (s2p rfl (bl rfl))
theorem dJ3_checkIndex_8e157_16 : decode cJ3_checkIndex_8e157 16 = .ok (.iload_n 0, 1) := fq1_26 (fl_J3_checkIndex_8e157_0 (j := 16) rfl rfl)
theorem dJ3_checkIndex_8e157_17 : decode cJ3_checkIndex_8e157 17 = .ok (.ireturn, 1) := fq1_172 (fl_J3_checkIndex_8e157_0 (j := 17) rfl rfl)
end

section
section NW2
variable {p : Program} {l : Launch} {e : Env} {R : Room} {s : State} {m : MethodId} {args : Array Value} {below : List Frame} {meth : Method} {c : Code} {H H0 : Heap} {locs : List Loc} {cells slots : Nat} {Q : State → Prop} {D : va_G} {k : Nat → ClassId} {A : Nat → Prop} {cc : ByteArray} {pc : Nat} {ls : Array Slot} {rest : List Value} {ws : va_W}
theorem nwqT {own : String} {index : Nat} {n : Int32} {N' : Nat} (hx : p.tables.exec = Jvm.exec) (hb : c.code = cc) (hown : s.vm.findClass own = some m.cls) (hclink : (Cond.classLink own index "SlowWorlds$Tray").before args s = true) (hK : KK D k s) (hP : va_P D vwCl ws H) (hD : va_D A ws) (hS : va_S A H0 H locs) (hA : ∀ q, H0.size ≤ q → A q)
    (hn : ¬ n < 0) (hN : n.toNatClampNeg = N') (hbytes : N' * 4 ≤ 536870912) (hcells : cells + 1 ≤ R.cells) (hslots : slots + N' ≤ R.slots) (hdg : decode cc pc = .ok (.anewarray index, 3))
    (kk : ∀ (q : Nat) (H1 : Heap), va_P D vwCl (ws ++ [(q, .inl (k 3, N', .inr (.inr (.inr (.inr (fun _ => none))))))]) H1 → va_D A (ws ++ [(q, .inl (k 3, N', .inr (.inr (.inr (.inr (fun _ => none))))))]) → va_S A H0 H1 locs → W p l e R s m args below meth c H1 locs (cells + 1) (slots + N') Q (F0 m (pc + 3) ls (.ref q :: rest))) : W p l e R s m args below meth c H locs cells slots Q (F0 m pc ls (.int n :: rest)) := by
  refine va_newq hx hb hown hclink hK.2.2.1 hK.1 hP hD hS hA hn hN hbytes hcells hslots hdg (fun q cA H1 hK1 hP1 hD1 hS1 => ?_)
  have h1 := (hK1.2 (TY k).length (cA, .object "SlowWorlds$Tray") (by simp)).2
  have h2 := (hK.1.2 3 _ rfl).2
  obtain rfl : cA = k 3 := ra_one h1 h2
  exact kk q H1 hP1 hD1 hS1
theorem nwqW {own : String} {index : Nat} {n : Int32} {N' : Nat} (hx : p.tables.exec = Jvm.exec) (hb : c.code = cc) (hown : s.vm.findClass own = some m.cls) (hclink : (Cond.classLink own index "SlowWorlds$World").before args s = true) (hK : KK D k s) (hP : va_P D vwCl ws H) (hD : va_D A ws) (hS : va_S A H0 H locs) (hA : ∀ q, H0.size ≤ q → A q)
    (hn : ¬ n < 0) (hN : n.toNatClampNeg = N') (hbytes : N' * 4 ≤ 536870912) (hcells : cells + 1 ≤ R.cells) (hslots : slots + N' ≤ R.slots) (hdg : decode cc pc = .ok (.anewarray index, 3))
    (kk : ∀ (q : Nat) (H1 : Heap), va_P D vwCl (ws ++ [(q, .inl (k 4, N', .inr (.inr (.inr (.inr (fun _ => none))))))]) H1 → va_D A (ws ++ [(q, .inl (k 4, N', .inr (.inr (.inr (.inr (fun _ => none))))))]) → va_S A H0 H1 locs → W p l e R s m args below meth c H1 locs (cells + 1) (slots + N') Q (F0 m (pc + 3) ls (.ref q :: rest))) : W p l e R s m args below meth c H locs cells slots Q (F0 m pc ls (.int n :: rest)) := by
  refine va_newq hx hb hown hclink hK.2.2.2 hK.1 hP hD hS hA hn hN hbytes hcells hslots hdg (fun q cA H1 hK1 hP1 hD1 hS1 => ?_)
  have h1 := (hK1.2 (TY k).length (cA, .object "SlowWorlds$World") (by simp)).2
  have h2 := (hK.1.2 4 _ rfl).2
  obtain rfl : cA = k 4 := ra_one h1 h2
  exact kk q H1 hP1 hD1 hS1
end NW2
/-- the text of the keywords, and the statics that String's methods read -/
def SX (sa sv : Nat) (sf : Nat → Int32) (A : Nat → Prop) (U : State) (H : Heap) : Prop := va_O "java/lang/String" sa A U H ∧ va_OF "java/lang/String" "coder" "B" (.int 0) sa A U H ∧ va_OF "java/lang/String" "value" "[B" (.ref sv) sa A U H ∧ va_T .byte sv 124 (fun j => .int (sf j)) A U H ∧ va_Z "java/lang/String" "COMPACT_STRINGS" "Z" (.int 1) A U H ∧ va_Zq "jdk/internal/util/Preconditions" "SIOOBE_FORMATTER" "Ljava/util/function/BiFunction;" A U H
theorem SX.moved {sa sv : Nat} {sf : Nat → Int32} {A : Nat → Prop} {u U : State} {H : Heap} (hvm : u.vm.Alike U.vm) (h : SX sa sv sf A u H) : SX sa sv sf A U H := ⟨h.1.moved hvm, h.2.1.moved hvm, h.2.2.1.moved hvm, h.2.2.2.1.moved hvm, h.2.2.2.2.1.moved hvm, h.2.2.2.2.2.moved hvm⟩
theorem SX.kept {sa sv : Nat} {sf : Nat → Int32} {A : Nat → Prop} {U : State} {H H1 : Heap} (h : SX sa sv sf A U H) (hq : ∀ a : Nat, a < H.size → ¬ A a → H1[a]? = H[a]?) : SX sa sv sf A U H1 := ⟨h.1.kept hq, h.2.1.kept hq, h.2.2.1.kept hq, h.2.2.2.1.kept hq, h.2.2.2.2.1.kept hq, h.2.2.2.2.2.kept hq⟩
theorem SX.narrow {sa sv : Nat} {sf : Nat → Int32} {A B : Nat → Prop} {U : State} {H : Heap} (h : SX sa sv sf A U H) (hq : ∀ q, B q → A q) : SX sa sv sf B U H := ⟨h.1.narrow hq, h.2.1.narrow hq, h.2.2.1.narrow hq, h.2.2.2.1.narrow hq, h.2.2.2.2.1.narrow hq, h.2.2.2.2.2.narrow hq⟩
def PZ (sa sv : Nat) (sf : Nat → Int32) (av : List Value) : Array Value → State → Prop := va_Pc av (fun U => SX sa sv sf (fun _ => False) U U.heap)
theorem PZ.blind {sa sv : Nat} {sf : Nat → Int32} {av : List Value} : FrameBlind (PZ sa sv sf av) := fun _ U g mk q => ⟨q.1, SX.moved (u := U) (U := U.calling g mk _) (Vm.Alike.refl U.vm) q.2⟩
theorem MZ {l : Launch} {y : MethodName} {cc : ByteArray} {maxL : Nat} {ret : Option FieldType} {j : Nat} {sa sv : Nat} {sf : Nat → Int32} {av : List Value} {Qc : Array Value → State → Outcome → State → Prop} (hy : plainName y.cls = true) (hlen : (lg_sl av).length ≤ maxL)
    (body : ∀ (p : Program) (e : Env) (s : State) (m : MethodId) (below : List Frame) (meth : Method) (c : Code) (ls : Array Slot), p.tables.exec = Jvm.exec → c.code = cc → c.maxLocals = maxL → meth.sig.returnType = ret → meth.locks = false → (∀ w ∈ gw, w.before av.toArray s = true) → s.vm.findClass y.cls = some m.cls → SX sa sv sf (fun _ => False) s s.heap → lv_has ls maxL (lv_args 0 av) → W p l e (rj j 0 0) s m av.toArray below meth c s.heap [] 0 0 (MQ below Qc av.toArray s 0 0 (fun _ => False)) (F0 m 0 ls [])) : Met l y (Cond.code y cc maxL ret :: gw) (rj j 0 0) (PZ sa sv sf av) Qc 0 0 (fun _ => False) := by
  refine Met.ofW (cc := cc) (maxL := maxL) (ret := ret) hy rfl ?_
  intro p e s m args below meth c s₁ B hml hv
  obtain ⟨rfl, hK⟩ := hv
  have hl := lv_entry av (n := maxL) hlen
  rw [lg_entry_eq]
  generalize (lg_sl av ++ List.replicate (maxL - (lg_sl av).length) Slot.unset).toArray = ls at hl ⊢
  have hts := atoms_spec (ws := Cond.code y cc maxL ret :: gw) B.pre
  exact body p e s m below meth c ls B.exec B.bytes hml B.returns B.notSynchronized (fun w hw => hts w (List.mem_cons_of_mem _ hw)) (findClass_of_methodNamed B.named) hK hl
section CZ
variable {p : Program} {l : Launch} {e : Env} {R : Room} {s : State} {m : MethodId} {args : Array Value} {below : List Frame} {meth : Method} {c : Code} {H : Heap} {locs : List Loc} {cells slots : Nat} {Q : State → Prop} {sa sv : Nat} {sf : Nat → Int32}
variable {y : MethodName} {bytes cc : ByteArray} {maxL nL n index j pc : Nat} {ret : Option FieldType} {own : String} {As rest st : List Value} {ls : Array Slot} {r : Int32} {Qc : Array Value → State → Outcome → State → Prop}
theorem rzV (hx : p.tables.exec = Jvm.exec) (hb : c.code = cc) (hml : c.maxLocals = nL) (hown : s.vm.findClass own = some m.cls) (hts : ∀ w ∈ gw, w.before args s = true) (hSX : SX sa sv sf (fun _ => False) s H) (hM : Met l y (Cond.code y bytes maxL ret :: gw) (rj j 0 0) (PZ sa sv sf (.ref sa :: As)) Qc 0 0 (fun _ => False)) (cI : CIv y bytes maxL ret n) (hyc : y.cls = "java/lang/String") (hlink : Cond.methodLink own index y ∈ gw) (hR : j + 1 ≤ R.frames ∧ 8 + (maxL + 11) + 40 * j ≤ R.locals) (hce : cells ≤ R.cells ∧ slots ≤ R.slots)
    (hn : As.length = n) (hsz : ls.size = nL) (hst : st = As.reverse ++ .ref sa :: rest) (hW : (rest.map fun v => v.category).sum ≤ 8) (hdg : decode cc pc = .ok (.invokevirtual index, 3)) : CallRun p l e R s m args below meth c H locs cells slots 0 0 (F0 m pc ls st) rest (Qc (Value.ref sa :: As).toArray) (fun _ => False) :=
  W.runV (As := As) (rest := rest) (b := sa) ⟨hx, hb, hml, hown, hts⟩ hM (cwVx hts cI hlink hR) ⟨PZ.blind, (by obtain ⟨cell, h1, h2, h3, -⟩ := hSX.1; rw [hyc]; exact ⟨cell, h1, h2, h3⟩), fun U hU hW => ⟨rfl, by show SX _ _ _ _ U U.heap; rw [hU]; exact hSX.moved hW.alike⟩⟩ rfl hn hsz hst (lv_room hW) hdg hce
theorem rzS (hx : p.tables.exec = Jvm.exec) (hb : c.code = cc) (hml : c.maxLocals = nL) (hown : s.vm.findClass own = some m.cls) (hts : ∀ w ∈ gw, w.before args s = true) (hSX : SX sa sv sf (fun _ => False) s H) (hM : Met l y (Cond.code y bytes maxL ret :: gw) (rj j 0 0) (PZ sa sv sf As) Qc 0 0 (fun _ => False)) (cI : CIs y bytes maxL ret n) (hlink : Cond.methodLink own index y ∈ gw) (hR : j + 1 ≤ R.frames ∧ 8 + (maxL + 11) + 40 * j ≤ R.locals) (hce : cells ≤ R.cells ∧ slots ≤ R.slots)
    (hn : As.length = n) (hsz : ls.size = nL) (hst : st = As.reverse ++ rest) (hW : (rest.map fun v => v.category).sum ≤ 8) (hdg : decode cc pc = .ok (.invokestatic index, 3)) : CallRun p l e R s m args below meth c H locs cells slots 0 0 (F0 m pc ls st) rest (Qc As.toArray) (fun _ => False) :=
  W.runS (As := As) (rest := rest) ⟨hx, hb, hml, hown, hts⟩ hM (cwSx hts cI hlink hR) ⟨PZ.blind, fun U hU hW => ⟨rfl, by show SX _ _ _ _ U U.heap; rw [hU]; exact hSX.moved hW.alike⟩⟩ rfl hn hsz hst (lv_room hW) hdg hce
/-- nothing comes back, nothing changes -/
def QcNone : Array Value → State → Outcome → State → Prop := fun _ st o t => o = .returned none ∧ t.heap = st.heap
theorem callN {a : Array Value} {g : JFrame} (hr : CallRun p l e R s m args below meth c H locs cells slots 0 0 g rest (QcNone a) (fun _ => False)) (kk : W p l e R s m args below meth c H locs cells slots Q { g with pc := g.pc + 3, stack := rest }) : W p l e R s m args below meth c H locs cells slots Q g := by
  intro T hT X
  obtain ⟨v, st₀, t, T', L, h0, X', hL, e1, ⟨hv, hh⟩, st⟩ := hr T hT X
  cases hv
  obtain ⟨t2, a1, b1⟩ := kk T' (by rw [e1, hh, h0]) (Stand.forget X' (fun q h => (hL q h).elim))
  exact ⟨t2, st t2 a1, b1⟩
end CZ
set_option maxHeartbeats 4000000 in
set_option maxRecDepth 100000 in
theorem j_coder (l : Launch) (sa sv : Nat) (sf : Nat → Int32)  : Met l yJ0_coder_7d493 (Cond.code yJ0_coder_7d493 cJ0_coder_7d493 1 (some .byte) :: gw) (rj 0 0 0) (PZ sa sv sf [.ref sa]) (QcRead 0) 0 0 (fun _ => False) := by
  refine MZ (by decide) (Nat.le_of_ble_eq_true rfl) (fun p e s m below meth c ls hx hb hml hr hlocks hts hown hSX hl => ?_)
  have hl : lv_has ls 1 [(0, .ref sa)] := hl
  refine va_gets hx hb hSX.2.2.2.2.1 va_S.rf hown (hts _ qf_J0_38) (fun _ h => h) dJ0_coder_7d493_0 ?_
  refine lv_if_eq (tgt := 13) hx hb dJ0_coder_7d493_3 rfl (fun c => absurd c (by decide)) (fun _ => ?_)
  refine lv_aload_n hx hb dJ0_coder_7d493_6 rfl (lv_at hl 0 rfl) ?_
  refine vk_getf hx hb hSX.2.1 va_S.rf hown (hts _ qf_J0_15) (fun _ h => h) dJ0_coder_7d493_7 ?_
  refine lv_goto (tgt := 14) hx hb dJ0_coder_7d493_10 rfl ?_
  exact W.zret hx hb hr rfl (fun t ht _ => ⟨rfl, ht⟩) (fun q h => by cases h) dJ0_coder_7d493_14
set_option maxHeartbeats 4000000 in
set_option maxRecDepth 100000 in
theorem j_isLatin1 (l : Launch) (sa sv : Nat) (sf : Nat → Int32)  : Met l yJ0_isLatin1_aae02 (Cond.code yJ0_isLatin1_aae02 cJ0_isLatin1_aae02 1 (some .boolean) :: gw) (rj 0 0 0) (PZ sa sv sf [.ref sa]) (QcRead 1) 0 0 (fun _ => False) := by
  refine MZ (by decide) (Nat.le_of_ble_eq_true rfl) (fun p e s m below meth c ls hx hb hml hr hlocks hts hown hSX hl => ?_)
  have hl : lv_has ls 1 [(0, .ref sa)] := hl
  refine va_gets hx hb hSX.2.2.2.2.1 va_S.rf hown (hts _ qf_J0_38) (fun _ h => h) dJ0_isLatin1_aae02_0 ?_
  refine lv_if_eq (tgt := 17) hx hb dJ0_isLatin1_aae02_3 rfl (fun c => absurd c (by decide)) (fun _ => ?_)
  refine lv_aload_n hx hb dJ0_isLatin1_aae02_6 rfl (lv_at hl 0 rfl) ?_
  refine vk_getf hx hb hSX.2.1 va_S.rf hown (hts _ qf_J0_15) (fun _ h => h) dJ0_isLatin1_aae02_7 ?_
  refine lv_if_ne (tgt := 17) hx hb dJ0_isLatin1_aae02_10 rfl (fun c => absurd rfl c) (fun _ => ?_)
  refine lv_iconst (v := 1) hx hb dJ0_isLatin1_aae02_13 (by decide) ?_
  refine lv_goto (tgt := 18) hx hb dJ0_isLatin1_aae02_14 rfl ?_
  exact ERz hx hb hr hlocks rfl rfl dJ0_isLatin1_aae02_18
set_option maxHeartbeats 4000000 in
set_option maxRecDepth 100000 in
theorem j_length (l : Launch) (sa sv : Nat) (sf : Nat → Int32)  : Met l yJ0_length_8abf5 (Cond.code yJ0_length_8abf5 cJ0_length_8abf5 1 (some .int) :: gw) (rj 1 0 0) (PZ sa sv sf [.ref sa]) (QcRead 124) 0 0 (fun _ => False) := by
  refine MZ (by decide) (Nat.le_of_ble_eq_true rfl) (fun p e s m below meth c ls hx hb hml hr hlocks hts hown hSX hl => ?_)
  have hl : lv_has ls 1 [(0, .ref sa)] := hl
  refine lv_aload_n hx hb dJ0_length_8abf5_0 rfl (lv_at hl 0 rfl) ?_
  refine vk_getf hx hb hSX.2.2.1 va_S.rf hown (hts _ qf_J0_9) (fun _ h => h) dJ0_length_8abf5_1 ?_
  refine va_tlen (v := 124) hx hb hSX.2.2.2.1 va_S.rf (by decide +kernel) dJ0_length_8abf5_4 ?_
  refine lv_aload_n hx hb dJ0_length_8abf5_5 rfl (lv_at hl 0 rfl) ?_
  refine W.callR (rzV (As := []) (rest := [.int 124]) hx hb hml hown hts hSX (j_coder l sa sv sf) ci_J0_coder_7d493 rfl qm_J0_335 ⟨Nat.le_of_ble_eq_true rfl, Nat.le_of_ble_eq_true rfl⟩ ⟨Nat.le_of_ble_eq_true rfl, Nat.le_of_ble_eq_true rfl⟩ rfl hl.1 rfl (Nat.le_of_ble_eq_true rfl) dJ0_length_8abf5_6) ?_
  refine W.eq (g2 := F0 m 9 ls [.int 0, .int 124]) rfl ?_
  refine lv_ishr hx hb dJ0_length_8abf5_9 ?_
  exact ERi hx hb hr hlocks (by decide +kernel) dJ0_length_8abf5_10
set_option maxHeartbeats 4000000 in
set_option maxRecDepth 100000 in
theorem j_check3n (l : Launch) (sa sv : Nat) (sf : Nat → Int32) (i : Nat) (hi : i < 124) : Met l yJ3_checkIndex_8e157 (Cond.code yJ3_checkIndex_8e157 cJ3_checkIndex_8e157 3 (some .int) :: gw) (rj 0 0 0) (PZ sa sv sf [.int (nI i), .int 124, .null]) (QcRead (nI i)) 0 0 (fun _ => False) := by
  refine MZ (by decide) (Nat.le_of_ble_eq_true rfl) (fun p e s m below meth c ls hx hb hml hr hlocks hts hown hSX hl => ?_)
  have hl : lv_has ls 3 [(0, .int (nI i)), (1, .int 124), (2, .null)] := hl
  refine lv_iload_n hx hb dJ3_checkIndex_8e157_0 rfl (lv_at hl 0 rfl) ?_
  refine lv_if_lt (tgt := 9) hx hb dJ3_checkIndex_8e157_1 rfl (fun c => absurd c (nI_pos (by omega))) (fun _ => ?_)
  refine lv_iload_n hx hb dJ3_checkIndex_8e157_4 rfl (lv_at hl 0 rfl) ?_
  refine lv_iload_n hx hb dJ3_checkIndex_8e157_5 rfl (lv_at hl 1 rfl) ?_
  refine lv_icmp_lt (tgt := 16) hx hb dJ3_checkIndex_8e157_6 rfl (fun _ => ?_) (fun c => absurd (nI_lt (a := i) (b := 124) hi (by decide)) c)
  refine lv_iload_n hx hb dJ3_checkIndex_8e157_16 rfl (lv_at hl 0 rfl) ?_
  exact ERi hx hb hr hlocks rfl dJ3_checkIndex_8e157_17
set_option maxHeartbeats 4000000 in
set_option maxRecDepth 100000 in
theorem j_check3r (l : Launch) (sa sv : Nat) (sf : Nat → Int32) (i : Nat) (hi : i < 124) (t : Nat) : Met l yJ3_checkIndex_8e157 (Cond.code yJ3_checkIndex_8e157 cJ3_checkIndex_8e157 3 (some .int) :: gw) (rj 0 0 0) (PZ sa sv sf [.int (nI i), .int 124, .ref t]) (QcRead (nI i)) 0 0 (fun _ => False) := by
  refine MZ (by decide) (Nat.le_of_ble_eq_true rfl) (fun p e s m below meth c ls hx hb hml hr hlocks hts hown hSX hl => ?_)
  have hl : lv_has ls 3 [(0, .int (nI i)), (1, .int 124), (2, .ref t)] := hl
  refine lv_iload_n hx hb dJ3_checkIndex_8e157_0 rfl (lv_at hl 0 rfl) ?_
  refine lv_if_lt (tgt := 9) hx hb dJ3_checkIndex_8e157_1 rfl (fun c => absurd c (nI_pos (by omega))) (fun _ => ?_)
  refine lv_iload_n hx hb dJ3_checkIndex_8e157_4 rfl (lv_at hl 0 rfl) ?_
  refine lv_iload_n hx hb dJ3_checkIndex_8e157_5 rfl (lv_at hl 1 rfl) ?_
  refine lv_icmp_lt (tgt := 16) hx hb dJ3_checkIndex_8e157_6 rfl (fun _ => ?_) (fun c => absurd (nI_lt (a := i) (b := 124) hi (by decide)) c)
  refine lv_iload_n hx hb dJ3_checkIndex_8e157_16 rfl (lv_at hl 0 rfl) ?_
  exact ERi hx hb hr hlocks rfl dJ3_checkIndex_8e157_17
set_option maxHeartbeats 4000000 in
set_option maxRecDepth 100000 in
theorem j_check (l : Launch) (sa sv : Nat) (sf : Nat → Int32) (i : Nat) (hi : i < 124) : Met l yJ0_checkIndex_df160 (Cond.code yJ0_checkIndex_df160 cJ0_checkIndex_df160 2 none :: gw) (rj 1 0 0) (PZ sa sv sf [.int (nI i), .int 124]) (QcNone) 0 0 (fun _ => False) := by
  refine MZ (by decide) (Nat.le_of_ble_eq_true rfl) (fun p e s m below meth c ls hx hb hml hr hlocks hts hown hSX hl => ?_)
  have hl : lv_has ls 2 [(0, .int (nI i)), (1, .int 124)] := hl
  refine lv_iload_n hx hb dJ0_checkIndex_df160_0 rfl (lv_at hl 0 rfl) ?_
  refine lv_iload_n hx hb dJ0_checkIndex_df160_1 rfl (lv_at hl 1 rfl) ?_
  rcases hSX.2.2.2.2.2 with hz | ⟨t, hz⟩
  ·
    refine va_gets hx hb hz va_S.rf hown (hts _ qf_J0_1053) (fun _ h => h) dJ0_checkIndex_df160_2 ?_
    refine W.callR (rzS (As := [.int (nI i), .int 124, .null]) (rest := []) hx hb hml hown hts hSX (j_check3n l sa sv sf i hi) ci_J3_checkIndex_8e157 qm_J0_1059 ⟨Nat.le_of_ble_eq_true rfl, Nat.le_of_ble_eq_true rfl⟩ ⟨Nat.le_of_ble_eq_true rfl, Nat.le_of_ble_eq_true rfl⟩ rfl hl.1 rfl (Nat.le_of_ble_eq_true rfl) dJ0_checkIndex_df160_5) ?_
    refine W.eq (g2 := F0 m 8 ls [.int (nI i)]) rfl ?_
    refine lv_pop hx hb dJ0_checkIndex_df160_8 rfl ?_
    exact W.vret hx hb hr (fun t ht _ => ⟨rfl, ht⟩) (fun q h => by cases h) dJ0_checkIndex_df160_9
  ·
    refine va_gets hx hb hz va_S.rf hown (hts _ qf_J0_1053) (fun _ h => h) dJ0_checkIndex_df160_2 ?_
    refine W.callR (rzS (As := [.int (nI i), .int 124, .ref t]) (rest := []) hx hb hml hown hts hSX (j_check3r l sa sv sf i hi t) ci_J3_checkIndex_8e157 qm_J0_1059 ⟨Nat.le_of_ble_eq_true rfl, Nat.le_of_ble_eq_true rfl⟩ ⟨Nat.le_of_ble_eq_true rfl, Nat.le_of_ble_eq_true rfl⟩ rfl hl.1 rfl (Nat.le_of_ble_eq_true rfl) dJ0_checkIndex_df160_5) ?_
    refine W.eq (g2 := F0 m 8 ls [.int (nI i)]) rfl ?_
    refine lv_pop hx hb dJ0_checkIndex_df160_8 rfl ?_
    exact W.vret hx hb hr (fun t ht _ => ⟨rfl, ht⟩) (fun q h => by cases h) dJ0_checkIndex_df160_9
/-- a byte as a char -/
def ch1 (b : Int32) : Int32 := ((b &&& 255).toUInt32 % 65536).toInt32
def SY (sa sv : Nat) (sf : Nat → Int32) (A : Nat → Prop) (U : State) (H : Heap) : Prop := va_O "java/lang/String" sa A U H ∧ va_OF "java/lang/String" "coder" "B" (.int 0) sa A U H ∧ va_OF "java/lang/String" "value" "[B" (.ref sv) sa A U H ∧ va_T .byte sv 125 (fun j => .int (sf j)) A U H ∧ va_Z "java/lang/String" "COMPACT_STRINGS" "Z" (.int 1) A U H ∧ va_Zq "jdk/internal/util/Preconditions" "SIOOBE_FORMATTER" "Ljava/util/function/BiFunction;" A U H
theorem SY.moved {sa sv : Nat} {sf : Nat → Int32} {A : Nat → Prop} {u U : State} {H : Heap} (hvm : u.vm.Alike U.vm) (h : SY sa sv sf A u H) : SY sa sv sf A U H := ⟨h.1.moved hvm, h.2.1.moved hvm, h.2.2.1.moved hvm, h.2.2.2.1.moved hvm, h.2.2.2.2.1.moved hvm, h.2.2.2.2.2.moved hvm⟩
theorem SY.kept {sa sv : Nat} {sf : Nat → Int32} {A : Nat → Prop} {U : State} {H H1 : Heap} (h : SY sa sv sf A U H) (hq : ∀ a : Nat, a < H.size → ¬ A a → H1[a]? = H[a]?) : SY sa sv sf A U H1 := ⟨h.1.kept hq, h.2.1.kept hq, h.2.2.1.kept hq, h.2.2.2.1.kept hq, h.2.2.2.2.1.kept hq, h.2.2.2.2.2.kept hq⟩
theorem SY.narrow {sa sv : Nat} {sf : Nat → Int32} {A B : Nat → Prop} {U : State} {H : Heap} (h : SY sa sv sf A U H) (hq : ∀ q, B q → A q) : SY sa sv sf B U H := ⟨h.1.narrow hq, h.2.1.narrow hq, h.2.2.1.narrow hq, h.2.2.2.1.narrow hq, h.2.2.2.2.1.narrow hq, h.2.2.2.2.2.narrow hq⟩
def PY (sa sv : Nat) (sf : Nat → Int32) (av : List Value) : Array Value → State → Prop := va_Pc av (fun U => SY sa sv sf (fun _ => False) U U.heap)
theorem PY.blind {sa sv : Nat} {sf : Nat → Int32} {av : List Value} : FrameBlind (PY sa sv sf av) := fun _ U g mk q => ⟨q.1, SY.moved (u := U) (U := U.calling g mk _) (Vm.Alike.refl U.vm) q.2⟩
theorem MYZ {l : Launch} {y : MethodName} {cc : ByteArray} {maxL : Nat} {ret : Option FieldType} {j : Nat} {sa sv : Nat} {sf : Nat → Int32} {av : List Value} {Qc : Array Value → State → Outcome → State → Prop} (hy : plainName y.cls = true) (hlen : (lg_sl av).length ≤ maxL)
    (body : ∀ (p : Program) (e : Env) (s : State) (m : MethodId) (below : List Frame) (meth : Method) (c : Code) (ls : Array Slot), p.tables.exec = Jvm.exec → c.code = cc → c.maxLocals = maxL → meth.sig.returnType = ret → meth.locks = false → (∀ w ∈ gw, w.before av.toArray s = true) → s.vm.findClass y.cls = some m.cls → SY sa sv sf (fun _ => False) s s.heap → lv_has ls maxL (lv_args 0 av) → W p l e (rj j 0 0) s m av.toArray below meth c s.heap [] 0 0 (MQ below Qc av.toArray s 0 0 (fun _ => False)) (F0 m 0 ls [])) : Met l y (Cond.code y cc maxL ret :: gw) (rj j 0 0) (PY sa sv sf av) Qc 0 0 (fun _ => False) := by
  refine Met.ofW (cc := cc) (maxL := maxL) (ret := ret) hy rfl ?_
  intro p e s m args below meth c s₁ B hml hv
  obtain ⟨rfl, hK⟩ := hv
  have hl := lv_entry av (n := maxL) hlen
  rw [lg_entry_eq]
  generalize (lg_sl av ++ List.replicate (maxL - (lg_sl av).length) Slot.unset).toArray = ls at hl ⊢
  have hts := atoms_spec (ws := Cond.code y cc maxL ret :: gw) B.pre
  exact body p e s m below meth c ls B.exec B.bytes hml B.returns B.notSynchronized (fun w hw => hts w (List.mem_cons_of_mem _ hw)) (findClass_of_methodNamed B.named) hK hl
section CY
variable {p : Program} {l : Launch} {e : Env} {R : Room} {s : State} {m : MethodId} {args : Array Value} {below : List Frame} {meth : Method} {c : Code} {H : Heap} {locs : List Loc} {cells slots : Nat} {Q : State → Prop} {sa sv : Nat} {sf : Nat → Int32}
variable {y : MethodName} {bytes cc : ByteArray} {maxL nL n index j pc : Nat} {ret : Option FieldType} {own : String} {As rest st : List Value} {ls : Array Slot} {r : Int32} {Qc : Array Value → State → Outcome → State → Prop}
theorem rwV (hx : p.tables.exec = Jvm.exec) (hb : c.code = cc) (hml : c.maxLocals = nL) (hown : s.vm.findClass own = some m.cls) (hts : ∀ w ∈ gw, w.before args s = true) (hSX : SY sa sv sf (fun _ => False) s H) (hM : Met l y (Cond.code y bytes maxL ret :: gw) (rj j 0 0) (PY sa sv sf (.ref sa :: As)) Qc 0 0 (fun _ => False)) (cI : CIv y bytes maxL ret n) (hyc : y.cls = "java/lang/String") (hlink : Cond.methodLink own index y ∈ gw) (hR : j + 1 ≤ R.frames ∧ 8 + (maxL + 11) + 40 * j ≤ R.locals) (hce : cells ≤ R.cells ∧ slots ≤ R.slots)
    (hn : As.length = n) (hsz : ls.size = nL) (hst : st = As.reverse ++ .ref sa :: rest) (hW : (rest.map fun v => v.category).sum ≤ 8) (hdg : decode cc pc = .ok (.invokevirtual index, 3)) : CallRun p l e R s m args below meth c H locs cells slots 0 0 (F0 m pc ls st) rest (Qc (Value.ref sa :: As).toArray) (fun _ => False) :=
  W.runV (As := As) (rest := rest) (b := sa) ⟨hx, hb, hml, hown, hts⟩ hM (cwVx hts cI hlink hR) ⟨PY.blind, (by obtain ⟨cell, h1, h2, h3, -⟩ := hSX.1; rw [hyc]; exact ⟨cell, h1, h2, h3⟩), fun U hU hW => ⟨rfl, by show SY _ _ _ _ U U.heap; rw [hU]; exact hSX.moved hW.alike⟩⟩ rfl hn hsz hst (lv_room hW) hdg hce
theorem rwS (hx : p.tables.exec = Jvm.exec) (hb : c.code = cc) (hml : c.maxLocals = nL) (hown : s.vm.findClass own = some m.cls) (hts : ∀ w ∈ gw, w.before args s = true) (hSX : SY sa sv sf (fun _ => False) s H) (hM : Met l y (Cond.code y bytes maxL ret :: gw) (rj j 0 0) (PY sa sv sf As) Qc 0 0 (fun _ => False)) (cI : CIs y bytes maxL ret n) (hlink : Cond.methodLink own index y ∈ gw) (hR : j + 1 ≤ R.frames ∧ 8 + (maxL + 11) + 40 * j ≤ R.locals) (hce : cells ≤ R.cells ∧ slots ≤ R.slots)
    (hn : As.length = n) (hsz : ls.size = nL) (hst : st = As.reverse ++ rest) (hW : (rest.map fun v => v.category).sum ≤ 8) (hdg : decode cc pc = .ok (.invokestatic index, 3)) : CallRun p l e R s m args below meth c H locs cells slots 0 0 (F0 m pc ls st) rest (Qc As.toArray) (fun _ => False) :=
  W.runS (As := As) (rest := rest) ⟨hx, hb, hml, hown, hts⟩ hM (cwSx hts cI hlink hR) ⟨PY.blind, fun U hU hW => ⟨rfl, by show SY _ _ _ _ U U.heap; rw [hU]; exact hSX.moved hW.alike⟩⟩ rfl hn hsz hst (lv_room hW) hdg hce
end CY
set_option maxHeartbeats 4000000 in
set_option maxRecDepth 100000 in
theorem jm_coder (l : Launch) (sa sv : Nat) (sf : Nat → Int32)  : Met l yJ0_coder_7d493 (Cond.code yJ0_coder_7d493 cJ0_coder_7d493 1 (some .byte) :: gw) (rj 0 0 0) (PY sa sv sf [.ref sa]) (QcRead 0) 0 0 (fun _ => False) := by
  refine MYZ (by decide) (Nat.le_of_ble_eq_true rfl) (fun p e s m below meth c ls hx hb hml hr hlocks hts hown hSY hl => ?_)
  have hl : lv_has ls 1 [(0, .ref sa)] := hl
  refine va_gets hx hb hSY.2.2.2.2.1 va_S.rf hown (hts _ qf_J0_38) (fun _ h => h) dJ0_coder_7d493_0 ?_
  refine lv_if_eq (tgt := 13) hx hb dJ0_coder_7d493_3 rfl (fun c => absurd c (by decide)) (fun _ => ?_)
  refine lv_aload_n hx hb dJ0_coder_7d493_6 rfl (lv_at hl 0 rfl) ?_
  refine vk_getf hx hb hSY.2.1 va_S.rf hown (hts _ qf_J0_15) (fun _ h => h) dJ0_coder_7d493_7 ?_
  refine lv_goto (tgt := 14) hx hb dJ0_coder_7d493_10 rfl ?_
  exact W.zret hx hb hr rfl (fun t ht _ => ⟨rfl, ht⟩) (fun q h => by cases h) dJ0_coder_7d493_14
set_option maxHeartbeats 4000000 in
set_option maxRecDepth 100000 in
theorem jm_isLatin1 (l : Launch) (sa sv : Nat) (sf : Nat → Int32)  : Met l yJ0_isLatin1_aae02 (Cond.code yJ0_isLatin1_aae02 cJ0_isLatin1_aae02 1 (some .boolean) :: gw) (rj 0 0 0) (PY sa sv sf [.ref sa]) (QcRead 1) 0 0 (fun _ => False) := by
  refine MYZ (by decide) (Nat.le_of_ble_eq_true rfl) (fun p e s m below meth c ls hx hb hml hr hlocks hts hown hSY hl => ?_)
  have hl : lv_has ls 1 [(0, .ref sa)] := hl
  refine va_gets hx hb hSY.2.2.2.2.1 va_S.rf hown (hts _ qf_J0_38) (fun _ h => h) dJ0_isLatin1_aae02_0 ?_
  refine lv_if_eq (tgt := 17) hx hb dJ0_isLatin1_aae02_3 rfl (fun c => absurd c (by decide)) (fun _ => ?_)
  refine lv_aload_n hx hb dJ0_isLatin1_aae02_6 rfl (lv_at hl 0 rfl) ?_
  refine vk_getf hx hb hSY.2.1 va_S.rf hown (hts _ qf_J0_15) (fun _ h => h) dJ0_isLatin1_aae02_7 ?_
  refine lv_if_ne (tgt := 17) hx hb dJ0_isLatin1_aae02_10 rfl (fun c => absurd rfl c) (fun _ => ?_)
  refine lv_iconst (v := 1) hx hb dJ0_isLatin1_aae02_13 (by decide) ?_
  refine lv_goto (tgt := 18) hx hb dJ0_isLatin1_aae02_14 rfl ?_
  exact ERz hx hb hr hlocks rfl rfl dJ0_isLatin1_aae02_18
set_option maxHeartbeats 4000000 in
set_option maxRecDepth 100000 in
theorem jm_length (l : Launch) (sa sv : Nat) (sf : Nat → Int32)  : Met l yJ0_length_8abf5 (Cond.code yJ0_length_8abf5 cJ0_length_8abf5 1 (some .int) :: gw) (rj 1 0 0) (PY sa sv sf [.ref sa]) (QcRead 125) 0 0 (fun _ => False) := by
  refine MYZ (by decide) (Nat.le_of_ble_eq_true rfl) (fun p e s m below meth c ls hx hb hml hr hlocks hts hown hSY hl => ?_)
  have hl : lv_has ls 1 [(0, .ref sa)] := hl
  refine lv_aload_n hx hb dJ0_length_8abf5_0 rfl (lv_at hl 0 rfl) ?_
  refine vk_getf hx hb hSY.2.2.1 va_S.rf hown (hts _ qf_J0_9) (fun _ h => h) dJ0_length_8abf5_1 ?_
  refine va_tlen (v := 125) hx hb hSY.2.2.2.1 va_S.rf (by decide +kernel) dJ0_length_8abf5_4 ?_
  refine lv_aload_n hx hb dJ0_length_8abf5_5 rfl (lv_at hl 0 rfl) ?_
  refine W.callR (rwV (As := []) (rest := [.int 125]) hx hb hml hown hts hSY (jm_coder l sa sv sf) ci_J0_coder_7d493 rfl qm_J0_335 ⟨Nat.le_of_ble_eq_true rfl, Nat.le_of_ble_eq_true rfl⟩ ⟨Nat.le_of_ble_eq_true rfl, Nat.le_of_ble_eq_true rfl⟩ rfl hl.1 rfl (Nat.le_of_ble_eq_true rfl) dJ0_length_8abf5_6) ?_
  refine W.eq (g2 := F0 m 9 ls [.int 0, .int 125]) rfl ?_
  refine lv_ishr hx hb dJ0_length_8abf5_9 ?_
  exact ERi hx hb hr hlocks (by decide +kernel) dJ0_length_8abf5_10
set_option maxHeartbeats 4000000 in
set_option maxRecDepth 100000 in
theorem jm_check3n (l : Launch) (sa sv : Nat) (sf : Nat → Int32) (i : Nat) (hi : i < 125) : Met l yJ3_checkIndex_8e157 (Cond.code yJ3_checkIndex_8e157 cJ3_checkIndex_8e157 3 (some .int) :: gw) (rj 0 0 0) (PY sa sv sf [.int (nI i), .int 125, .null]) (QcRead (nI i)) 0 0 (fun _ => False) := by
  refine MYZ (by decide) (Nat.le_of_ble_eq_true rfl) (fun p e s m below meth c ls hx hb hml hr hlocks hts hown hSY hl => ?_)
  have hl : lv_has ls 3 [(0, .int (nI i)), (1, .int 125), (2, .null)] := hl
  refine lv_iload_n hx hb dJ3_checkIndex_8e157_0 rfl (lv_at hl 0 rfl) ?_
  refine lv_if_lt (tgt := 9) hx hb dJ3_checkIndex_8e157_1 rfl (fun c => absurd c (nI_pos (by omega))) (fun _ => ?_)
  refine lv_iload_n hx hb dJ3_checkIndex_8e157_4 rfl (lv_at hl 0 rfl) ?_
  refine lv_iload_n hx hb dJ3_checkIndex_8e157_5 rfl (lv_at hl 1 rfl) ?_
  refine lv_icmp_lt (tgt := 16) hx hb dJ3_checkIndex_8e157_6 rfl (fun _ => ?_) (fun c => absurd (nI_lt (a := i) (b := 125) hi (by decide)) c)
  refine lv_iload_n hx hb dJ3_checkIndex_8e157_16 rfl (lv_at hl 0 rfl) ?_
  exact ERi hx hb hr hlocks rfl dJ3_checkIndex_8e157_17
set_option maxHeartbeats 4000000 in
set_option maxRecDepth 100000 in
theorem jm_check3r (l : Launch) (sa sv : Nat) (sf : Nat → Int32) (i : Nat) (hi : i < 125) (t : Nat) : Met l yJ3_checkIndex_8e157 (Cond.code yJ3_checkIndex_8e157 cJ3_checkIndex_8e157 3 (some .int) :: gw) (rj 0 0 0) (PY sa sv sf [.int (nI i), .int 125, .ref t]) (QcRead (nI i)) 0 0 (fun _ => False) := by
  refine MYZ (by decide) (Nat.le_of_ble_eq_true rfl) (fun p e s m below meth c ls hx hb hml hr hlocks hts hown hSY hl => ?_)
  have hl : lv_has ls 3 [(0, .int (nI i)), (1, .int 125), (2, .ref t)] := hl
  refine lv_iload_n hx hb dJ3_checkIndex_8e157_0 rfl (lv_at hl 0 rfl) ?_
  refine lv_if_lt (tgt := 9) hx hb dJ3_checkIndex_8e157_1 rfl (fun c => absurd c (nI_pos (by omega))) (fun _ => ?_)
  refine lv_iload_n hx hb dJ3_checkIndex_8e157_4 rfl (lv_at hl 0 rfl) ?_
  refine lv_iload_n hx hb dJ3_checkIndex_8e157_5 rfl (lv_at hl 1 rfl) ?_
  refine lv_icmp_lt (tgt := 16) hx hb dJ3_checkIndex_8e157_6 rfl (fun _ => ?_) (fun c => absurd (nI_lt (a := i) (b := 125) hi (by decide)) c)
  refine lv_iload_n hx hb dJ3_checkIndex_8e157_16 rfl (lv_at hl 0 rfl) ?_
  exact ERi hx hb hr hlocks rfl dJ3_checkIndex_8e157_17
set_option maxHeartbeats 4000000 in
set_option maxRecDepth 100000 in
theorem jm_check (l : Launch) (sa sv : Nat) (sf : Nat → Int32) (i : Nat) (hi : i < 125) : Met l yJ0_checkIndex_df160 (Cond.code yJ0_checkIndex_df160 cJ0_checkIndex_df160 2 none :: gw) (rj 1 0 0) (PY sa sv sf [.int (nI i), .int 125]) (QcNone) 0 0 (fun _ => False) := by
  refine MYZ (by decide) (Nat.le_of_ble_eq_true rfl) (fun p e s m below meth c ls hx hb hml hr hlocks hts hown hSY hl => ?_)
  have hl : lv_has ls 2 [(0, .int (nI i)), (1, .int 125)] := hl
  refine lv_iload_n hx hb dJ0_checkIndex_df160_0 rfl (lv_at hl 0 rfl) ?_
  refine lv_iload_n hx hb dJ0_checkIndex_df160_1 rfl (lv_at hl 1 rfl) ?_
  rcases hSY.2.2.2.2.2 with hz | ⟨t, hz⟩
  ·
    refine va_gets hx hb hz va_S.rf hown (hts _ qf_J0_1053) (fun _ h => h) dJ0_checkIndex_df160_2 ?_
    refine W.callR (rwS (As := [.int (nI i), .int 125, .null]) (rest := []) hx hb hml hown hts hSY (jm_check3n l sa sv sf i hi) ci_J3_checkIndex_8e157 qm_J0_1059 ⟨Nat.le_of_ble_eq_true rfl, Nat.le_of_ble_eq_true rfl⟩ ⟨Nat.le_of_ble_eq_true rfl, Nat.le_of_ble_eq_true rfl⟩ rfl hl.1 rfl (Nat.le_of_ble_eq_true rfl) dJ0_checkIndex_df160_5) ?_
    refine W.eq (g2 := F0 m 8 ls [.int (nI i)]) rfl ?_
    refine lv_pop hx hb dJ0_checkIndex_df160_8 rfl ?_
    exact W.vret hx hb hr (fun t ht _ => ⟨rfl, ht⟩) (fun q h => by cases h) dJ0_checkIndex_df160_9
  ·
    refine va_gets hx hb hz va_S.rf hown (hts _ qf_J0_1053) (fun _ h => h) dJ0_checkIndex_df160_2 ?_
    refine W.callR (rwS (As := [.int (nI i), .int 125, .ref t]) (rest := []) hx hb hml hown hts hSY (jm_check3r l sa sv sf i hi t) ci_J3_checkIndex_8e157 qm_J0_1059 ⟨Nat.le_of_ble_eq_true rfl, Nat.le_of_ble_eq_true rfl⟩ ⟨Nat.le_of_ble_eq_true rfl, Nat.le_of_ble_eq_true rfl⟩ rfl hl.1 rfl (Nat.le_of_ble_eq_true rfl) dJ0_checkIndex_df160_5) ?_
    refine W.eq (g2 := F0 m 8 ls [.int (nI i)]) rfl ?_
    refine lv_pop hx hb dJ0_checkIndex_df160_8 rfl ?_
    exact W.vret hx hb hr (fun t ht _ => ⟨rfl, ht⟩) (fun q h => by cases h) dJ0_checkIndex_df160_9
set_option maxHeartbeats 4000000 in
set_option maxRecDepth 100000 in
theorem jm_charAt1 (l : Launch) (sa sv : Nat) (sf : Nat → Int32) (i : Nat) (hi : i < 125) : Met l yJ1_charAt_3b067 (Cond.code yJ1_charAt_3b067 cJ1_charAt_3b067 2 (some .char) :: gw) (rj 2 0 0) (PY sa sv sf [.ref sv, .int (nI i)]) (QcRead (ch1 (sf i))) 0 0 (fun _ => False) := by
  refine MYZ (by decide) (Nat.le_of_ble_eq_true rfl) (fun p e s m below meth c ls hx hb hml hr hlocks hts hown hSY hl => ?_)
  have hl : lv_has ls 2 [(0, .ref sv), (1, .int (nI i))] := hl
  refine lv_iload_n hx hb dJ1_charAt_3b067_0 rfl (lv_at hl 1 rfl) ?_
  refine lv_aload_n hx hb dJ1_charAt_3b067_1 rfl (lv_at hl 0 rfl) ?_
  refine va_tlen (v := 125) hx hb hSY.2.2.2.1 va_S.rf (by decide +kernel) dJ1_charAt_3b067_2 ?_
  refine callN (rwS (As := [.int (nI i), .int 125]) (rest := []) hx hb hml hown hts hSY (jm_check l sa sv sf i hi) ci_J0_checkIndex_df160 qm_J1_9 ⟨Nat.le_of_ble_eq_true rfl, Nat.le_of_ble_eq_true rfl⟩ ⟨Nat.le_of_ble_eq_true rfl, Nat.le_of_ble_eq_true rfl⟩ rfl hl.1 rfl (Nat.le_of_ble_eq_true rfl) dJ1_charAt_3b067_3) ?_
  refine W.eq (g2 := F0 m 6 ls []) rfl ?_
  refine lv_aload_n hx hb dJ1_charAt_3b067_6 rfl (lv_at hl 0 rfl) ?_
  refine lv_iload_n hx hb dJ1_charAt_3b067_7 rfl (lv_at hl 1 rfl) ?_
  refine va_tb hx hb hSY.2.2.2.1 va_S.rf (vp_in_nI hi (by decide)) rfl dJ1_charAt_3b067_8 ?_
  refine lv_sipush (v := 255) hx hb dJ1_charAt_3b067_9 (by decide) ?_
  refine lv_iand hx hb dJ1_charAt_3b067_12 ?_
  refine lv_topi (fun x ex => ?_)
  refine lv_i2c (v := (x.toUInt32 % 65536).toInt32) hx hb dJ1_charAt_3b067_13 rfl ?_
  exact W.zret hx hb hr (pk_nc x) (fun t ht _ => ⟨by rw [ex, nI_clamp (show i < 2 ^ 31 by omega)]; rfl, ht⟩) (fun q h => by cases h) dJ1_charAt_3b067_14
set_option maxHeartbeats 4000000 in
set_option maxRecDepth 100000 in
theorem jm_charAt (l : Launch) (sa sv : Nat) (sf : Nat → Int32) (i : Nat) (hi : i < 125) : Met l yJ0_charAt_5068e (Cond.code yJ0_charAt_5068e cJ0_charAt_5068e 2 (some .char) :: gw) (rj 3 0 0) (PY sa sv sf [.ref sa, .int (nI i)]) (QcRead (ch1 (sf i))) 0 0 (fun _ => False) := by
  refine MYZ (by decide) (Nat.le_of_ble_eq_true rfl) (fun p e s m below meth c ls hx hb hml hr hlocks hts hown hSY hl => ?_)
  have hl : lv_has ls 2 [(0, .ref sa), (1, .int (nI i))] := hl
  refine lv_aload_n hx hb dJ0_charAt_5068e_0 rfl (lv_at hl 0 rfl) ?_
  refine W.callR (rwV (As := []) (rest := []) hx hb hml hown hts hSY (jm_isLatin1 l sa sv sf) ci_J0_isLatin1_aae02 rfl qm_J0_492 ⟨Nat.le_of_ble_eq_true rfl, Nat.le_of_ble_eq_true rfl⟩ ⟨Nat.le_of_ble_eq_true rfl, Nat.le_of_ble_eq_true rfl⟩ rfl hl.1 rfl (Nat.le_of_ble_eq_true rfl) dJ0_charAt_5068e_1) ?_
  refine W.eq (g2 := F0 m 4 ls [.int 1]) rfl ?_
  refine lv_if_eq (tgt := 16) hx hb dJ0_charAt_5068e_4 rfl (fun c => absurd c (by decide)) (fun _ => ?_)
  refine lv_aload_n hx hb dJ0_charAt_5068e_7 rfl (lv_at hl 0 rfl) ?_
  refine vk_getf hx hb hSY.2.2.1 va_S.rf hown (hts _ qf_J0_9) (fun _ h => h) dJ0_charAt_5068e_8 ?_
  refine lv_iload_n hx hb dJ0_charAt_5068e_11 rfl (lv_at hl 1 rfl) ?_
  refine W.callR (rwS (As := [.ref sv, .int (nI i)]) (rest := []) hx hb hml hown hts hSY (jm_charAt1 l sa sv sf i hi) ci_J1_charAt_3b067 qm_J0_495 ⟨Nat.le_of_ble_eq_true rfl, Nat.le_of_ble_eq_true rfl⟩ ⟨Nat.le_of_ble_eq_true rfl, Nat.le_of_ble_eq_true rfl⟩ rfl hl.1 rfl (Nat.le_of_ble_eq_true rfl) dJ0_charAt_5068e_12) ?_
  refine W.eq (g2 := F0 m 15 ls [.int (ch1 (sf i))]) rfl ?_
  exact W.zret hx hb hr (pk_nc _) (fun t ht _ => ⟨rfl, ht⟩) (fun q h => by cases h) dJ0_charAt_5068e_15
def keyT : String := " rock ice law far round at rank price swing wears from to first last sent week wear order chance when loop end stop rules in "
def keyB : List Int32 := [32, 114, 111, 99, 107, 32, 105, 99, 101, 32, 108, 97, 119, 32, 102, 97, 114, 32, 114, 111, 117, 110, 100, 32, 97, 116, 32, 114, 97, 110, 107, 32, 112, 114, 105, 99, 101, 32, 115, 119, 105, 110, 103, 32, 119, 101, 97, 114, 115, 32, 102, 114, 111, 109, 32, 116, 111, 32, 102, 105, 114, 115, 116, 32, 108, 97, 115, 116, 32, 115, 101, 110, 116, 32, 119, 101, 101, 107, 32, 119, 101, 97, 114, 32, 111, 114, 100, 101, 114, 32, 99, 104, 97, 110, 99, 101, 32, 119, 104, 101, 110, 32, 108, 111, 111, 112, 32, 101, 110, 100, 32, 115, 116, 111, 112, 32, 114, 117, 108, 101, 115, 32, 105, 110, 32]
def keyF : Nat → Int32 := fun j => keyB.getD j 0
theorem key_ch : ∀ j : Fin 125, ch1 (keyF j.val) = keyF j.val := by decide +kernel
theorem key_rg0 : ∀ j : Fin 125, 32 ≤ (keyF j.val).toInt ∧ (keyF j.val).toInt ≤ 122 := by decide +kernel
theorem key_rg (z : Int) (h : 0 ≤ z ∧ z < 125) : 32 ≤ gz keyF z ∧ gz keyF z ≤ 122 := key_rg0 ⟨z.toNat, by omega⟩
theorem key_last : gz keyF 124 = 32 := by decide +kernel
theorem jm_charZ (l : Launch) (sa sv : Nat) (z : Int) (h : 0 ≤ z ∧ z < 125) : Met l yJ0_charAt_5068e (Cond.code yJ0_charAt_5068e cJ0_charAt_5068e 2 (some .char) :: gw) (rj 3 0 0) (PY sa sv keyF [.ref sa, .int (iZ z)]) (QcRead (iZ (gz keyF z))) 0 0 (fun _ => False) := by
  obtain ⟨n, rfl⟩ := Int.eq_ofNat_of_zero_le h.1
  have hn : n < 125 := by omega
  have e : iZ (gz keyF (n : Int)) = ch1 (keyF n) := by
    rw [key_ch ⟨n, hn⟩]
    exact Int32.ofInt_toInt _
  rw [e, iZ_nat]
  exact jm_charAt l sa sv keyF n hn
def PSm (sa sv : Nat) (D : va_G) (k : Nat → ClassId) (av : List Value) (pre : va_W) (sz : Nat) : Array Value → State → Prop := va_Pc av (fun U => U.heap.size = sz ∧ va_P D vwCl pre U.heap ∧ KK D k U ∧ va_D (fun _ => True) pre ∧ SY sa sv keyF (va_A pre sz) U U.heap ∧ vk_R RX12 175 keyT sa U)
theorem PSm.blind {sa sv : Nat} {D : va_G} {k : Nat → ClassId} {av : List Value} {pre : va_W} {sz : Nat} : FrameBlind (PSm sa sv D k av pre sz) := fun _ U g mk q => ⟨q.1, q.2.1, q.2.2.1, q.2.2.2.1.call, q.2.2.2.2.1, SY.moved (u := U) (U := U.calling g mk _) (Vm.Alike.refl U.vm) q.2.2.2.2.2.1, vk_R.same (u := U) rfl q.2.2.2.2.2.2⟩
/-- a method that may look at the text of the WORDS -/
def SD {σ : Type} (sa sv : Nat) (l : Launch) (y : MethodName) (cc : ByteArray) (maxL : Nat) (ret : Option FieldType) (j : Nat) (D : va_G) (k : Nat → ClassId) (av : List Value) (pre : va_W) (val : σ → Option Value) (φ : σ → Prop) (post : σ → va_W) : Prop := ∀ sz : Nat, Met l y (Cond.code y cc maxL ret :: gw) (rj j 0 0) (PSm sa sv D k av pre sz) (QW val φ post D (va_A pre sz)) 0 0 (va_A pre sz)
theorem MSS {σ : Type} {sa sv : Nat} {l : Launch} {y : MethodName} {cc : ByteArray} {maxL : Nat} {ret : Option FieldType} {j : Nat} {D : va_G} {k : Nat → ClassId} {av : List Value} {pre : va_W} {val : σ → Option Value} {φ : σ → Prop} {post : σ → va_W} (hy : plainName y.cls = true) (hlen : (lg_sl av).length ≤ maxL)
    (body : ∀ (p : Program) (e : Env) (s : State) (m : MethodId) (below : List Frame) (meth : Method) (c : Code) (ls : Array Slot) (A : Nat → Prop), p.tables.exec = Jvm.exec → c.code = cc → c.maxLocals = maxL → meth.sig.returnType = ret → meth.locks = false → meth.name = y.name → (∀ w ∈ gw, w.before av.toArray s = true) → s.vm.findClass y.cls = some m.cls → KK D k s → va_P D vwCl pre s.heap → va_D A pre → va_S A s.heap s.heap [] → (∀ q : Nat, s.heap.size ≤ q → A q) → SY sa sv keyF A s s.heap → vk_R RX12 175 keyT sa s → lv_has ls maxL (lv_args 0 av) → W p l e (rj j 0 0) s m av.toArray below meth c s.heap [] 0 0 (MQ below (QW val φ post D A) av.toArray s 0 0 A) (F0 m 0 ls [])) : SD sa sv l y cc maxL ret j D k av pre val φ post := by
  intro sz
  refine Met.ofW (cc := cc) (maxL := maxL) (ret := ret) hy rfl ?_
  intro p e s m args below meth c s₁ B hml hv
  obtain ⟨rfl, hsz, hP, hK, hD0, hSY, hRR⟩ := hv
  subst hsz
  have hl := lv_entry av (n := maxL) hlen
  rw [lg_entry_eq]
  generalize (lg_sl av ++ List.replicate (maxL - (lg_sl av).length) Slot.unset).toArray = ls at hl ⊢
  have hts := atoms_spec (ws := Cond.code y cc maxL ret :: gw) B.pre
  exact body p e s m below meth c ls (va_A pre s.heap.size) B.exec B.bytes hml B.returns B.notSynchronized (name_of_methodNamed B.named B.method).1 (fun w hw => hts w (List.mem_cons_of_mem _ hw)) (findClass_of_methodNamed B.named) hK hP (hD0.self (sz := s.heap.size)) va_S.rf (fun q h => Or.inr h) hSY hRR hl
section CS
variable {p : Program} {l : Launch} {e : Env} {R : Room} {s : State} {m : MethodId} {args : Array Value} {below : List Frame} {meth : Method} {c : Code} {H : Heap} {locs : List Loc} {cells slots : Nat} {Q : State → Prop} {D : va_G} {k : Nat → ClassId} {A : Nat → Prop}
variable {y : MethodName} {bytes cc : ByteArray} {maxL nL n index j pc b ci N : Nat} {ret : Option FieldType} {own : String} {As rest st : List Value} {ls : Array Slot} {wc wr ws : va_W} {sa sv : Nat} {T : u_T} {fs : List Value}
theorem CSV {σ : Type} {val : σ → Option Value} {φ : σ → Prop} {post : σ → va_W} (hx : p.tables.exec = Jvm.exec) (hb : c.code = cc) (hml : c.maxLocals = nL) (hown : s.vm.findClass own = some m.cls) (hts : ∀ w ∈ gw, w.before args s = true) (hK : KK D k s) (hP : va_P D vwCl ws H) (hD : va_D A ws) (hS : va_S A s.heap H locs) (hA : ∀ q : Nat, s.heap.size ≤ q → A q) (hSY : SY sa sv keyF A s s.heap) (hRR : vk_R RX12 175 keyT sa s) (hM : SD sa sv l y bytes maxL ret j D k (.ref b :: As) wc val φ post) (cI : CIv y bytes maxL ret n) (hlink : Cond.methodLink own index y ∈ gw) (hR : j + 1 ≤ R.frames ∧ 8 + (maxL + 11) + 40 * j ≤ R.locals) (hce : cells + 0 ≤ R.cells ∧ slots + 0 ≤ R.slots)
    (isC isR : List Nat) (hC : isC.map (fun i => ws[i]?) = wc.map some) (hC2 : isC.filterMap (fun i => ws[i]?) = wc) (hRr : isR.map (fun i => ws[i]?) = wr.map some) (hnC : va_nd isC = true) (hnR : va_nd isR = true) (hdis : ∀ i ∈ isR, i ∉ isC)
    (q0 : Nat) (he : wc[q0]? = some (b, .inr (ci, fs))) (hc : vwCl[ci]? = some (y.cls, T, N)) (hn : As.length = n) (hsz : ls.size = nL) (hst : st = As.reverse ++ .ref b :: rest) (hW : (rest.map fun v => v.category).sum ≤ 8) (hdg : decode cc pc = .ok (.invokevirtual index, 3))
    (kk : ∀ (u : σ) (H1 : Heap) (locs1 : List Loc), φ u → va_P D vwCl (wr ++ post u) H1 → va_D A (wr ++ post u) → va_S A s.heap H1 locs1 → W p l e R s m args below meth c H1 locs1 (cells + 0) (slots + 0) Q (F0 m (pc + 3) ls ((val u).toList ++ rest))) : W p l e R s m args below meth c H locs cells slots Q (F0 m pc ls st) := by
  have hPc := hP.sub isC hC2
  have hDc := hD.sub isC hnC hC
  have hFc := va_free hD hS hA isC hC
  have hSc : SY sa sv keyF (va_A wc H.size) s H := (hSY.kept hS.2.1).narrow hFc
  refine callW (va_runV (As := As) (rest := rest) (b := b) ⟨hx, hb, hml, hown, hts⟩ (hM H.size) (cwVx hts cI hlink hR) ⟨PSm.blind, va_recv hK.1 hPc hc he, fun U hU hW => ⟨rfl, by rw [hU], by rw [hU]; exact hPc, hK.warm hW, hDc.weaken (fun _ _ _ _ => trivial), by rw [hU]; exact hSc.moved hW.alike, vk_R.warm hW hRR⟩⟩ rfl hn hsz hst (lv_room hW) hdg hce) hS (fun q _ h => hFc q h) hFc (fun u H1 locs1 hφ hP1 hD1 hk1 hS1 => ?_)
  obtain ⟨g1, g2⟩ := va_join hP hD isC isR hC hRr hnR hdis hk1 hFc hP1 hD1
  exact kk u H1 locs1 hφ g1 g2 hS1
end CS
end
