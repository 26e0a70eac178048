theorem qf_X12_106 : Cond.fieldLink RX12 106 "SlowWorldsModel" "taped" "I" ∈ gw := tbt (tb6 (List.mem_of_getElem? (i := 54) rfl)) rfl
theorem qf_X12_155 : Cond.fieldLink RX12 155 "SlowWorldsModel" "seen" "I" ∈ gw := tbt (tb6 (List.mem_of_getElem? (i := 63) rfl)) rfl
theorem qf_X12_30 : Cond.fieldLink RX12 30 "SlowWorldsModel" "tape" "[B" ∈ gw := tbt (tb6 (List.mem_of_getElem? (i := 52) rfl)) rfl
theorem qf_X12_37 : Cond.fieldLink RX12 37 "SlowWorldsModel" "faultKind" "I" ∈ gw := tbt (tb6 (List.mem_of_getElem? (i := 60) rfl)) rfl
theorem qc_X12_begins : Cond.code yX12_begins cX12_begins 4 (some .boolean) ∈ gw := tbt (tb6 (List.mem_of_getElem? (i := 215) rfl)) rfl
theorem qi_yX12_begins : Cond.instanceMethod yX12_begins ∈ gw := tbt (tb6 (List.mem_of_getElem? (i := 214) rfl)) rfl
theorem qs_X12_begins : Cond.selects (yX12_begins).cls yX12_begins yX12_begins ∈ gw := tb0 (List.mem_of_getElem? (i := 40) rfl) rfl
theorem ci_X12_begins : CIv yX12_begins cX12_begins 4 (some .boolean) 2 := ⟨qc_X12_begins, qi_yX12_begins, qs_X12_begins, qz_X12, by decide +kernel⟩
theorem qm_X12_215 : Cond.methodLink RX12 215 yX12_begins ∈ gw := tbt (tb6 (List.mem_of_getElem? (i := 212) rfl)) rfl
theorem qc_X12_plain : Cond.code yX12_plain cX12_plain 3 none ∈ gw := tbt (tb6 (List.mem_of_getElem? (i := 43) rfl)) rfl
theorem qi_yX12_plain : Cond.instanceMethod yX12_plain ∈ gw := tbt (tb6 (List.mem_of_getElem? (i := 42) rfl)) rfl
theorem qs_X12_plain : Cond.selects (yX12_plain).cls yX12_plain yX12_plain ∈ gw := tb0 (List.mem_of_getElem? (i := 36) rfl) rfl
theorem ci_X12_plain : CIv yX12_plain cX12_plain 3 none 1 := ⟨qc_X12_plain, qi_yX12_plain, qs_X12_plain, qz_X12, by decide +kernel⟩
theorem qm_X12_71 : Cond.methodLink RX12 71 yX12_plain ∈ gw := tbt (tb6 (List.mem_of_getElem? (i := 40) rfl)) rfl
theorem qc_X12_taken : Cond.code yX12_taken cX12_taken 2 (some .int) ∈ gw := tbt (tb7 (List.mem_of_getElem? (i := 62) rfl)) rfl
theorem qi_yX12_taken : Cond.instanceMethod yX12_taken ∈ gw := tbt (tb7 (List.mem_of_getElem? (i := 61) rfl)) rfl
theorem qs_X12_taken : Cond.selects (yX12_taken).cls yX12_taken yX12_taken ∈ gw := tb0 (List.mem_of_getElem? (i := 59) rfl) rfl
theorem ci_X12_taken : CIv yX12_taken cX12_taken 2 (some .int) 1 := ⟨qc_X12_taken, qi_yX12_taken, qs_X12_taken, qz_X12, by decide +kernel⟩
theorem qm_X12_222 : Cond.methodLink RX12 222 yX12_taken ∈ gw := tbt (tb7 (List.mem_of_getElem? (i := 59) rfl)) rfl
theorem qc_X12_skyPart : Cond.code yX12_skyPart cX12_skyPart 2 (some .boolean) ∈ gw := tbt (tb6 (List.mem_of_getElem? (i := 239) rfl)) rfl
theorem qi_yX12_skyPart : Cond.instanceMethod yX12_skyPart ∈ gw := tbt (tb6 (List.mem_of_getElem? (i := 238) rfl)) rfl
theorem qs_X12_skyPart : Cond.selects (yX12_skyPart).cls yX12_skyPart yX12_skyPart ∈ gw := tb0 (List.mem_of_getElem? (i := 44) rfl) rfl
theorem ci_X12_skyPart : CIv yX12_skyPart cX12_skyPart 2 (some .boolean) 0 := ⟨qc_X12_skyPart, qi_yX12_skyPart, qs_X12_skyPart, qz_X12, by decide +kernel⟩
theorem qm_X12_219 : Cond.methodLink RX12 219 yX12_skyPart ∈ gw := tbt (tb6 (List.mem_of_getElem? (i := 236) rfl)) rfl
def fb_X12_begins_0 : List UInt8 := [0x1b, 0x9b, 0x00, 0x10, 0x1b, 0x2a, 0xb4, 0x00, 0x6a, 0xa3, 0x00, 0x08, 0x1b, 0x1c, 0xa4, 0x00, 0x05, 0x03, 0xac, 0x2a, 0x1b, 0xb5, 0x00, 0x70, 0x03, 0x3e, 0x1d, 0x1b, 0xa2, 0x00, 0x15, 0x2a, 0xb4, 0x00, 0x22, 0x1d, 0x2a, 0xb4, 0x00, 0x1e, 0x1d, 0x33, 0x54, 0x84, 0x03, 0x01, 0xa7, 0xff, 0xec, 0x2a, 0x03, 0xb5, 0x00, 0x6a, 0x2a, 0x03, 0xb5, 0x00, 0x98, 0x2a, 0x02, 0xb5, 0x00, 0x29]
theorem fl_X12_begins_0 {p j : Nat} {b : UInt8} (e : p = 0 + j) (h : fb_X12_begins_0[j]? = some b) : cX12_begins.data.toList[p]? = some b := fq_l (n := 64) (show (cX12_begins.data.toList.drop 0).take 64 = fb_X12_begins_0 by decide +kernel) e h
theorem dX12_begins_0 : decode cX12_begins 0 = .ok (.iload_n 1, 1) := fq1_27 (fl_X12_begins_0 (j := 0) rfl rfl)
theorem dX12_begins_1 : decode cX12_begins 1 = .ok (.ifCond .lt 16, 3) := fq3_155 (fl_X12_begins_0 (j := 1) rfl rfl) (fl_X12_begins_0 (j := 2) rfl rfl) (fl_X12_begins_0 (j := 3) rfl rfl) (by decide)
theorem dX12_begins_4 : decode cX12_begins 4 = .ok (.iload_n 1, 1) := fq1_27 (fl_X12_begins_0 (j := 4) rfl rfl)
theorem dX12_begins_5 : decode cX12_begins 5 = .ok (.aload_n 0, 1) := fq1_42 (fl_X12_begins_0 (j := 5) rfl rfl)
theorem dX12_begins_6 : decode cX12_begins 6 = .ok (.getfield 106, 3) := fq3_180 (fl_X12_begins_0 (j := 6) rfl rfl) (fl_X12_begins_0 (j := 7) rfl rfl) (fl_X12_begins_0 (j := 8) rfl rfl) (by decide)
theorem dX12_begins_9 : decode cX12_begins 9 = .ok (.if_icmp .gt 8, 3) := fq3_163 (fl_X12_begins_0 (j := 9) rfl rfl) (fl_X12_begins_0 (j := 10) rfl rfl) (fl_X12_begins_0 (j := 11) rfl rfl) (by decide)
theorem dX12_begins_12 : decode cX12_begins 12 = .ok (.iload_n 1, 1) := fq1_27 (fl_X12_begins_0 (j := 12) rfl rfl)
theorem dX12_begins_13 : decode cX12_begins 13 = .ok (.iload_n 2, 1) := fq1_28 (fl_X12_begins_0 (j := 13) rfl rfl)
theorem dX12_begins_14 : decode cX12_begins 14 = .ok (.if_icmp .le 5, 3) := fq3_164 (fl_X12_begins_0 (j := 14) rfl rfl) (fl_X12_begins_0 (j := 15) rfl rfl) (fl_X12_begins_0 (j := 16) rfl rfl) (by decide)
theorem dX12_begins_17 : decode cX12_begins 17 = .ok (.iconst 0, 1) := fq1_3 (fl_X12_begins_0 (j := 17) rfl rfl)
theorem dX12_begins_18 : decode cX12_begins 18 = .ok (.ireturn, 1) := fq1_172 (fl_X12_begins_0 (j := 18) rfl rfl)
theorem dX12_begins_19 : decode cX12_begins 19 = .ok (.aload_n 0, 1) := fq1_42 (fl_X12_begins_0 (j := 19) rfl rfl)
theorem dX12_begins_20 : decode cX12_begins 20 = .ok (.iload_n 1, 1) := fq1_27 (fl_X12_begins_0 (j := 20) rfl rfl)
theorem dX12_begins_21 : decode cX12_begins 21 = .ok (.putfield 112, 3) := fq3_181 (fl_X12_begins_0 (j := 21) rfl rfl) (fl_X12_begins_0 (j := 22) rfl rfl) (fl_X12_begins_0 (j := 23) rfl rfl) (by decide)
theorem dX12_begins_24 : decode cX12_begins 24 = .ok (.iconst 0, 1) := fq1_3 (fl_X12_begins_0 (j := 24) rfl rfl)
theorem dX12_begins_25 : decode cX12_begins 25 = .ok (.istore_n 3, 1) := fq1_62 (fl_X12_begins_0 (j := 25) rfl rfl)
theorem dX12_begins_26 : decode cX12_begins 26 = .ok (.iload_n 3, 1) := fq1_29 (fl_X12_begins_0 (j := 26) rfl rfl)
theorem dX12_begins_27 : decode cX12_begins 27 = .ok (.iload_n 1, 1) := fq1_27 (fl_X12_begins_0 (j := 27) rfl rfl)
theorem dX12_begins_28 : decode cX12_begins 28 = .ok (.if_icmp .ge 21, 3) := fq3_162 (fl_X12_begins_0 (j := 28) rfl rfl) (fl_X12_begins_0 (j := 29) rfl rfl) (fl_X12_begins_0 (j := 30) rfl rfl) (by decide)
theorem dX12_begins_31 : decode cX12_begins 31 = .ok (.aload_n 0, 1) := fq1_42 (fl_X12_begins_0 (j := 31) rfl rfl)
theorem dX12_begins_32 : decode cX12_begins 32 = .ok (.getfield 34, 3) := fq3_180 (fl_X12_begins_0 (j := 32) rfl rfl) (fl_X12_begins_0 (j := 33) rfl rfl) (fl_X12_begins_0 (j := 34) rfl rfl) (by decide)
theorem dX12_begins_35 : decode cX12_begins 35 = .ok (.iload_n 3, 1) := fq1_29 (fl_X12_begins_0 (j := 35) rfl rfl)
theorem dX12_begins_36 : decode cX12_begins 36 = .ok (.aload_n 0, 1) := fq1_42 (fl_X12_begins_0 (j := 36) rfl rfl)
theorem dX12_begins_37 : decode cX12_begins 37 = .ok (.getfield 30, 3) := fq3_180 (fl_X12_begins_0 (j := 37) rfl rfl) (fl_X12_begins_0 (j := 38) rfl rfl) (fl_X12_begins_0 (j := 39) rfl rfl) (by decide)
theorem dX12_begins_40 : decode cX12_begins 40 = .ok (.iload_n 3, 1) := fq1_29 (fl_X12_begins_0 (j := 40) rfl rfl)
theorem dX12_begins_41 : decode cX12_begins 41 = .ok (.baload, 1) := fq1_51 (fl_X12_begins_0 (j := 41) rfl rfl)
theorem dX12_begins_42 : decode cX12_begins 42 = .ok (.bastore, 1) := fq1_84 (fl_X12_begins_0 (j := 42) rfl rfl)
theorem dX12_begins_43 : decode cX12_begins 43 = .ok (.iinc 3 1, 3) := fq3_132 (fl_X12_begins_0 (j := 43) rfl rfl) (fl_X12_begins_0 (j := 44) rfl rfl) (fl_X12_begins_0 (j := 45) rfl rfl) (by decide) (by decide)
theorem dX12_begins_46 : decode cX12_begins 46 = .ok (.goto (-20), 3) := fq3_167 (fl_X12_begins_0 (j := 46) rfl rfl) (fl_X12_begins_0 (j := 47) rfl rfl) (fl_X12_begins_0 (j := 48) rfl rfl) (by decide)
theorem dX12_begins_49 : decode cX12_begins 49 = .ok (.aload_n 0, 1) := fq1_42 (fl_X12_begins_0 (j := 49) rfl rfl)
theorem dX12_begins_50 : decode cX12_begins 50 = .ok (.iconst 0, 1) := fq1_3 (fl_X12_begins_0 (j := 50) rfl rfl)
theorem dX12_begins_51 : decode cX12_begins 51 = .ok (.putfield 106, 3) := fq3_181 (fl_X12_begins_0 (j := 51) rfl rfl) (fl_X12_begins_0 (j := 52) rfl rfl) (fl_X12_begins_0 (j := 53) rfl rfl) (by decide)
theorem dX12_begins_54 : decode cX12_begins 54 = .ok (.aload_n 0, 1) := fq1_42 (fl_X12_begins_0 (j := 54) rfl rfl)
theorem dX12_begins_55 : decode cX12_begins 55 = .ok (.iconst 0, 1) := fq1_3 (fl_X12_begins_0 (j := 55) rfl rfl)
theorem dX12_begins_56 : decode cX12_begins 56 = .ok (.putfield 152, 3) := fq3_181 (fl_X12_begins_0 (j := 56) rfl rfl) (fl_X12_begins_0 (j := 57) rfl rfl) (fl_X12_begins_0 (j := 58) rfl rfl) (by decide)
theorem dX12_begins_59 : decode cX12_begins 59 = .ok (.aload_n 0, 1) := fq1_42 (fl_X12_begins_0 (j := 59) rfl rfl)
theorem dX12_begins_60 : decode cX12_begins 60 = .ok (.iconst (-1), 1) := fq1_2 (fl_X12_begins_0 (j := 60) rfl rfl)
theorem dX12_begins_61 : decode cX12_begins 61 = .ok (.putfield 41, 3) := fq3_181 (fl_X12_begins_0 (j := 61) rfl rfl) (fl_X12_begins_0 (j := 62) rfl rfl) (fl_X12_begins_0 (j := 63) rfl rfl) (by decide)
def fb_X12_begins_1 : List UInt8 := [0x2a, 0x03, 0xb5, 0x00, 0x73, 0x2a, 0x03, 0xb5, 0x00, 0x9b, 0x2a, 0xb6, 0x00, 0x9e, 0x04, 0xac]
theorem fl_X12_begins_1 {p j : Nat} {b : UInt8} (e : p = 64 + j) (h : fb_X12_begins_1[j]? = some b) : cX12_begins.data.toList[p]? = some b := fq_l (n := 64) (show (cX12_begins.data.toList.drop 64).take 64 = fb_X12_begins_1 by decide +kernel) e h
theorem dX12_begins_64 : decode cX12_begins 64 = .ok (.aload_n 0, 1) := fq1_42 (fl_X12_begins_1 (j := 0) rfl rfl)
theorem dX12_begins_65 : decode cX12_begins 65 = .ok (.iconst 0, 1) := fq1_3 (fl_X12_begins_1 (j := 1) rfl rfl)
theorem dX12_begins_66 : decode cX12_begins 66 = .ok (.putfield 115, 3) := fq3_181 (fl_X12_begins_1 (j := 2) rfl rfl) (fl_X12_begins_1 (j := 3) rfl rfl) (fl_X12_begins_1 (j := 4) rfl rfl) (by decide)
theorem dX12_begins_69 : decode cX12_begins 69 = .ok (.aload_n 0, 1) := fq1_42 (fl_X12_begins_1 (j := 5) rfl rfl)
theorem dX12_begins_70 : decode cX12_begins 70 = .ok (.iconst 0, 1) := fq1_3 (fl_X12_begins_1 (j := 6) rfl rfl)
theorem dX12_begins_71 : decode cX12_begins 71 = .ok (.putfield 155, 3) := fq3_181 (fl_X12_begins_1 (j := 7) rfl rfl) (fl_X12_begins_1 (j := 8) rfl rfl) (fl_X12_begins_1 (j := 9) rfl rfl) (by decide)
theorem dX12_begins_74 : decode cX12_begins 74 = .ok (.aload_n 0, 1) := fq1_42 (fl_X12_begins_1 (j := 10) rfl rfl)
theorem dX12_begins_75 : decode cX12_begins 75 = .ok (.invokevirtual 158, 3) := fq3_182 (fl_X12_begins_1 (j := 11) rfl rfl) (fl_X12_begins_1 (j := 12) rfl rfl) (fl_X12_begins_1 (j := 13) rfl rfl) (by decide)
theorem dX12_begins_78 : decode cX12_begins 78 = .ok (.iconst 1, 1) := fq1_4 (fl_X12_begins_1 (j := 14) rfl rfl)
theorem dX12_begins_79 : decode cX12_begins 79 = .ok (.ireturn, 1) := fq1_172 (fl_X12_begins_1 (j := 15) rfl rfl)
def fb_X12_sky_0 : List UInt8 := [0x2a, 0x1b, 0x11, 0x03, 0x84, 0xb6, 0x00, 0xd7, 0x9a, 0x00, 0x09, 0x2a, 0x04, 0xb6, 0x00, 0x51, 0xac, 0x2a, 0x11, 0x0d, 0xe8, 0xb6, 0x00, 0x47, 0x2a, 0x03, 0xb5, 0x00, 0xc6, 0x04, 0x3d, 0x1c, 0x99, 0x00, 0x12, 0x2a, 0xb4, 0x00, 0x7f, 0x99, 0x00, 0x0b, 0x2a, 0xb6, 0x00, 0xdb, 0x3d, 0xa7, 0xff, 0xf0, 0x2a, 0xb4, 0x00, 0x98, 0x9a, 0x00, 0x3f, 0x03, 0x3e, 0x1d, 0x11, 0x03, 0x7a, 0xa2]
theorem fl_X12_sky_0 {p j : Nat} {b : UInt8} (e : p = 0 + j) (h : fb_X12_sky_0[j]? = some b) : cX12_sky.data.toList[p]? = some b := fq_l (n := 64) (show (cX12_sky.data.toList.drop 0).take 64 = fb_X12_sky_0 by decide +kernel) e h
theorem dX12_sky_0 : decode cX12_sky 0 = .ok (.aload_n 0, 1) := fq1_42 (fl_X12_sky_0 (j := 0) rfl rfl)
theorem dX12_sky_1 : decode cX12_sky 1 = .ok (.iload_n 1, 1) := fq1_27 (fl_X12_sky_0 (j := 1) rfl rfl)
theorem dX12_sky_2 : decode cX12_sky 2 = .ok (.sipush 900, 3) := fq3_17 (fl_X12_sky_0 (j := 2) rfl rfl) (fl_X12_sky_0 (j := 3) rfl rfl) (fl_X12_sky_0 (j := 4) rfl rfl) (by decide)
theorem dX12_sky_5 : decode cX12_sky 5 = .ok (.invokevirtual 215, 3) := fq3_182 (fl_X12_sky_0 (j := 5) rfl rfl) (fl_X12_sky_0 (j := 6) rfl rfl) (fl_X12_sky_0 (j := 7) rfl rfl) (by decide)
theorem dX12_sky_8 : decode cX12_sky 8 = .ok (.ifCond .ne 9, 3) := fq3_154 (fl_X12_sky_0 (j := 8) rfl rfl) (fl_X12_sky_0 (j := 9) rfl rfl) (fl_X12_sky_0 (j := 10) rfl rfl) (by decide)
theorem dX12_sky_11 : decode cX12_sky 11 = .ok (.aload_n 0, 1) := fq1_42 (fl_X12_sky_0 (j := 11) rfl rfl)
theorem dX12_sky_12 : decode cX12_sky 12 = .ok (.iconst 1, 1) := fq1_4 (fl_X12_sky_0 (j := 12) rfl rfl)
theorem dX12_sky_13 : decode cX12_sky 13 = .ok (.invokevirtual 81, 3) := fq3_182 (fl_X12_sky_0 (j := 13) rfl rfl) (fl_X12_sky_0 (j := 14) rfl rfl) (fl_X12_sky_0 (j := 15) rfl rfl) (by decide)
theorem dX12_sky_16 : decode cX12_sky 16 = .ok (.ireturn, 1) := fq1_172 (fl_X12_sky_0 (j := 16) rfl rfl)
theorem dX12_sky_17 : decode cX12_sky 17 = .ok (.aload_n 0, 1) := fq1_42 (fl_X12_sky_0 (j := 17) rfl rfl)
theorem dX12_sky_18 : decode cX12_sky 18 = .ok (.sipush 3560, 3) := fq3_17 (fl_X12_sky_0 (j := 18) rfl rfl) (fl_X12_sky_0 (j := 19) rfl rfl) (fl_X12_sky_0 (j := 20) rfl rfl) (by decide)
theorem dX12_sky_21 : decode cX12_sky 21 = .ok (.invokevirtual 71, 3) := fq3_182 (fl_X12_sky_0 (j := 21) rfl rfl) (fl_X12_sky_0 (j := 22) rfl rfl) (fl_X12_sky_0 (j := 23) rfl rfl) (by decide)
theorem dX12_sky_24 : decode cX12_sky 24 = .ok (.aload_n 0, 1) := fq1_42 (fl_X12_sky_0 (j := 24) rfl rfl)
theorem dX12_sky_25 : decode cX12_sky 25 = .ok (.iconst 0, 1) := fq1_3 (fl_X12_sky_0 (j := 25) rfl rfl)
theorem dX12_sky_26 : decode cX12_sky 26 = .ok (.putfield 198, 3) := fq3_181 (fl_X12_sky_0 (j := 26) rfl rfl) (fl_X12_sky_0 (j := 27) rfl rfl) (fl_X12_sky_0 (j := 28) rfl rfl) (by decide)
theorem dX12_sky_29 : decode cX12_sky 29 = .ok (.iconst 1, 1) := fq1_4 (fl_X12_sky_0 (j := 29) rfl rfl)
theorem dX12_sky_30 : decode cX12_sky 30 = .ok (.istore_n 2, 1) := fq1_61 (fl_X12_sky_0 (j := 30) rfl rfl)
theorem dX12_sky_31 : decode cX12_sky 31 = .ok (.iload_n 2, 1) := fq1_28 (fl_X12_sky_0 (j := 31) rfl rfl)
theorem dX12_sky_32 : decode cX12_sky 32 = .ok (.ifCond .eq 18, 3) := fq3_153 (fl_X12_sky_0 (j := 32) rfl rfl) (fl_X12_sky_0 (j := 33) rfl rfl) (fl_X12_sky_0 (j := 34) rfl rfl) (by decide)
theorem dX12_sky_35 : decode cX12_sky 35 = .ok (.aload_n 0, 1) := fq1_42 (fl_X12_sky_0 (j := 35) rfl rfl)
theorem dX12_sky_36 : decode cX12_sky 36 = .ok (.getfield 127, 3) := fq3_180 (fl_X12_sky_0 (j := 36) rfl rfl) (fl_X12_sky_0 (j := 37) rfl rfl) (fl_X12_sky_0 (j := 38) rfl rfl) (by decide)
theorem dX12_sky_39 : decode cX12_sky 39 = .ok (.ifCond .eq 11, 3) := fq3_153 (fl_X12_sky_0 (j := 39) rfl rfl) (fl_X12_sky_0 (j := 40) rfl rfl) (fl_X12_sky_0 (j := 41) rfl rfl) (by decide)
theorem dX12_sky_42 : decode cX12_sky 42 = .ok (.aload_n 0, 1) := fq1_42 (fl_X12_sky_0 (j := 42) rfl rfl)
theorem dX12_sky_43 : decode cX12_sky 43 = .ok (.invokevirtual 219, 3) := fq3_182 (fl_X12_sky_0 (j := 43) rfl rfl) (fl_X12_sky_0 (j := 44) rfl rfl) (fl_X12_sky_0 (j := 45) rfl rfl) (by decide)
theorem dX12_sky_46 : decode cX12_sky 46 = .ok (.istore_n 2, 1) := fq1_61 (fl_X12_sky_0 (j := 46) rfl rfl)
theorem dX12_sky_47 : decode cX12_sky 47 = .ok (.goto (-16), 3) := fq3_167 (fl_X12_sky_0 (j := 47) rfl rfl) (fl_X12_sky_0 (j := 48) rfl rfl) (fl_X12_sky_0 (j := 49) rfl rfl) (by decide)
theorem dX12_sky_50 : decode cX12_sky 50 = .ok (.aload_n 0, 1) := fq1_42 (fl_X12_sky_0 (j := 50) rfl rfl)
theorem dX12_sky_51 : decode cX12_sky 51 = .ok (.getfield 152, 3) := fq3_180 (fl_X12_sky_0 (j := 51) rfl rfl) (fl_X12_sky_0 (j := 52) rfl rfl) (fl_X12_sky_0 (j := 53) rfl rfl) (by decide)
theorem dX12_sky_54 : decode cX12_sky 54 = .ok (.ifCond .ne 63, 3) := fq3_154 (fl_X12_sky_0 (j := 54) rfl rfl) (fl_X12_sky_0 (j := 55) rfl rfl) (fl_X12_sky_0 (j := 56) rfl rfl) (by decide)
theorem dX12_sky_57 : decode cX12_sky 57 = .ok (.iconst 0, 1) := fq1_3 (fl_X12_sky_0 (j := 57) rfl rfl)
theorem dX12_sky_58 : decode cX12_sky 58 = .ok (.istore_n 3, 1) := fq1_62 (fl_X12_sky_0 (j := 58) rfl rfl)
theorem dX12_sky_59 : decode cX12_sky 59 = .ok (.iload_n 3, 1) := fq1_29 (fl_X12_sky_0 (j := 59) rfl rfl)
theorem dX12_sky_60 : decode cX12_sky 60 = .ok (.sipush 890, 3) := fq3_17 (fl_X12_sky_0 (j := 60) rfl rfl) (fl_X12_sky_0 (j := 61) rfl rfl) (fl_X12_sky_0 (j := 62) rfl rfl) (by decide)
def fb_X12_sky_1 : List UInt8 := [0x00, 0x19, 0x2a, 0xb4, 0x00, 0x07, 0x1d, 0x2a, 0xb4, 0x00, 0x07, 0x11, 0x0d, 0xe8, 0x1d, 0x60, 0x2e, 0x4f, 0x84, 0x03, 0x01, 0xa7, 0xff, 0xe6, 0x03, 0x3e, 0x1d, 0x10, 0x06, 0xa2, 0x00, 0x18, 0x2a, 0xb4, 0x00, 0x0d, 0x1d, 0x2a, 0xb4, 0x00, 0x0d, 0x10, 0x18, 0x1d, 0x60, 0x2f, 0x50, 0x84, 0x03, 0x01, 0xa7, 0xff, 0xe8, 0x2a, 0x2a, 0xb4, 0x00, 0x07, 0x03, 0x2e, 0xb6, 0x00, 0xde, 0xac]
theorem fl_X12_sky_1 {p j : Nat} {b : UInt8} (e : p = 64 + j) (h : fb_X12_sky_1[j]? = some b) : cX12_sky.data.toList[p]? = some b := fq_l (n := 64) (show (cX12_sky.data.toList.drop 64).take 64 = fb_X12_sky_1 by decide +kernel) e h
theorem dX12_sky_63 : decode cX12_sky 63 = .ok (.if_icmp .ge 25, 3) := fq3_162 (fl_X12_sky_0 (j := 63) rfl rfl) (fl_X12_sky_1 (j := 0) rfl rfl) (fl_X12_sky_1 (j := 1) rfl rfl) (by decide)
theorem dX12_sky_66 : decode cX12_sky 66 = .ok (.aload_n 0, 1) := fq1_42 (fl_X12_sky_1 (j := 2) rfl rfl)
theorem dX12_sky_67 : decode cX12_sky 67 = .ok (.getfield 7, 3) := fq3_180 (fl_X12_sky_1 (j := 3) rfl rfl) (fl_X12_sky_1 (j := 4) rfl rfl) (fl_X12_sky_1 (j := 5) rfl rfl) (by decide)
theorem dX12_sky_70 : decode cX12_sky 70 = .ok (.iload_n 3, 1) := fq1_29 (fl_X12_sky_1 (j := 6) rfl rfl)
theorem dX12_sky_71 : decode cX12_sky 71 = .ok (.aload_n 0, 1) := fq1_42 (fl_X12_sky_1 (j := 7) rfl rfl)
theorem dX12_sky_72 : decode cX12_sky 72 = .ok (.getfield 7, 3) := fq3_180 (fl_X12_sky_1 (j := 8) rfl rfl) (fl_X12_sky_1 (j := 9) rfl rfl) (fl_X12_sky_1 (j := 10) rfl rfl) (by decide)
theorem dX12_sky_75 : decode cX12_sky 75 = .ok (.sipush 3560, 3) := fq3_17 (fl_X12_sky_1 (j := 11) rfl rfl) (fl_X12_sky_1 (j := 12) rfl rfl) (fl_X12_sky_1 (j := 13) rfl rfl) (by decide)
theorem dX12_sky_78 : decode cX12_sky 78 = .ok (.iload_n 3, 1) := fq1_29 (fl_X12_sky_1 (j := 14) rfl rfl)
theorem dX12_sky_79 : decode cX12_sky 79 = .ok (.iadd, 1) := fq1_96 (fl_X12_sky_1 (j := 15) rfl rfl)
theorem dX12_sky_80 : decode cX12_sky 80 = .ok (.iaload, 1) := fq1_46 (fl_X12_sky_1 (j := 16) rfl rfl)
theorem dX12_sky_81 : decode cX12_sky 81 = .ok (.iastore, 1) := fq1_79 (fl_X12_sky_1 (j := 17) rfl rfl)
theorem dX12_sky_82 : decode cX12_sky 82 = .ok (.iinc 3 1, 3) := fq3_132 (fl_X12_sky_1 (j := 18) rfl rfl) (fl_X12_sky_1 (j := 19) rfl rfl) (fl_X12_sky_1 (j := 20) rfl rfl) (by decide) (by decide)
theorem dX12_sky_85 : decode cX12_sky 85 = .ok (.goto (-26), 3) := fq3_167 (fl_X12_sky_1 (j := 21) rfl rfl) (fl_X12_sky_1 (j := 22) rfl rfl) (fl_X12_sky_1 (j := 23) rfl rfl) (by decide)
theorem dX12_sky_88 : decode cX12_sky 88 = .ok (.iconst 0, 1) := fq1_3 (fl_X12_sky_1 (j := 24) rfl rfl)
theorem dX12_sky_89 : decode cX12_sky 89 = .ok (.istore_n 3, 1) := fq1_62 (fl_X12_sky_1 (j := 25) rfl rfl)
theorem dX12_sky_90 : decode cX12_sky 90 = .ok (.iload_n 3, 1) := fq1_29 (fl_X12_sky_1 (j := 26) rfl rfl)
theorem dX12_sky_91 : decode cX12_sky 91 = .ok (.bipush 6, 2) := fq2_16 (fl_X12_sky_1 (j := 27) rfl rfl) (fl_X12_sky_1 (j := 28) rfl rfl) (by decide)
theorem dX12_sky_93 : decode cX12_sky 93 = .ok (.if_icmp .ge 24, 3) := fq3_162 (fl_X12_sky_1 (j := 29) rfl rfl) (fl_X12_sky_1 (j := 30) rfl rfl) (fl_X12_sky_1 (j := 31) rfl rfl) (by decide)
theorem dX12_sky_96 : decode cX12_sky 96 = .ok (.aload_n 0, 1) := fq1_42 (fl_X12_sky_1 (j := 32) rfl rfl)
theorem dX12_sky_97 : decode cX12_sky 97 = .ok (.getfield 13, 3) := fq3_180 (fl_X12_sky_1 (j := 33) rfl rfl) (fl_X12_sky_1 (j := 34) rfl rfl) (fl_X12_sky_1 (j := 35) rfl rfl) (by decide)
theorem dX12_sky_100 : decode cX12_sky 100 = .ok (.iload_n 3, 1) := fq1_29 (fl_X12_sky_1 (j := 36) rfl rfl)
theorem dX12_sky_101 : decode cX12_sky 101 = .ok (.aload_n 0, 1) := fq1_42 (fl_X12_sky_1 (j := 37) rfl rfl)
theorem dX12_sky_102 : decode cX12_sky 102 = .ok (.getfield 13, 3) := fq3_180 (fl_X12_sky_1 (j := 38) rfl rfl) (fl_X12_sky_1 (j := 39) rfl rfl) (fl_X12_sky_1 (j := 40) rfl rfl) (by decide)
theorem dX12_sky_105 : decode cX12_sky 105 = .ok (.bipush 24, 2) := fq2_16 (fl_X12_sky_1 (j := 41) rfl rfl) (fl_X12_sky_1 (j := 42) rfl rfl) (by decide)
theorem dX12_sky_107 : decode cX12_sky 107 = .ok (.iload_n 3, 1) := fq1_29 (fl_X12_sky_1 (j := 43) rfl rfl)
theorem dX12_sky_108 : decode cX12_sky 108 = .ok (.iadd, 1) := fq1_96 (fl_X12_sky_1 (j := 44) rfl rfl)
theorem dX12_sky_109 : decode cX12_sky 109 = .ok (.laload, 1) := fq1_47 (fl_X12_sky_1 (j := 45) rfl rfl)
theorem dX12_sky_110 : decode cX12_sky 110 = .ok (.lastore, 1) := fq1_80 (fl_X12_sky_1 (j := 46) rfl rfl)
theorem dX12_sky_111 : decode cX12_sky 111 = .ok (.iinc 3 1, 3) := fq3_132 (fl_X12_sky_1 (j := 47) rfl rfl) (fl_X12_sky_1 (j := 48) rfl rfl) (fl_X12_sky_1 (j := 49) rfl rfl) (by decide) (by decide)
theorem dX12_sky_114 : decode cX12_sky 114 = .ok (.goto (-24), 3) := fq3_167 (fl_X12_sky_1 (j := 50) rfl rfl) (fl_X12_sky_1 (j := 51) rfl rfl) (fl_X12_sky_1 (j := 52) rfl rfl) (by decide)
theorem dX12_sky_117 : decode cX12_sky 117 = .ok (.aload_n 0, 1) := fq1_42 (fl_X12_sky_1 (j := 53) rfl rfl)
theorem dX12_sky_118 : decode cX12_sky 118 = .ok (.aload_n 0, 1) := fq1_42 (fl_X12_sky_1 (j := 54) rfl rfl)
theorem dX12_sky_119 : decode cX12_sky 119 = .ok (.getfield 7, 3) := fq3_180 (fl_X12_sky_1 (j := 55) rfl rfl) (fl_X12_sky_1 (j := 56) rfl rfl) (fl_X12_sky_1 (j := 57) rfl rfl) (by decide)
theorem dX12_sky_122 : decode cX12_sky 122 = .ok (.iconst 0, 1) := fq1_3 (fl_X12_sky_1 (j := 58) rfl rfl)
theorem dX12_sky_123 : decode cX12_sky 123 = .ok (.iaload, 1) := fq1_46 (fl_X12_sky_1 (j := 59) rfl rfl)
theorem dX12_sky_124 : decode cX12_sky 124 = .ok (.invokevirtual 222, 3) := fq3_182 (fl_X12_sky_1 (j := 60) rfl rfl) (fl_X12_sky_1 (j := 61) rfl rfl) (fl_X12_sky_1 (j := 62) rfl rfl) (by decide)
theorem dX12_sky_127 : decode cX12_sky 127 = .ok (.ireturn, 1) := fq1_172 (fl_X12_sky_1 (j := 63) rfl rfl)
def fb_X12_taken_0 : List UInt8 := [0x2a, 0x2a, 0xb4, 0x00, 0x98, 0xb5, 0x00, 0x25, 0x2a, 0xb4, 0x00, 0x98, 0x9e, 0x00, 0x0c, 0x2a, 0x10, 0x09, 0xb6, 0x00, 0x51, 0xa7, 0x00, 0x08, 0x2a, 0x1b, 0xb6, 0x00, 0x55, 0xac]
theorem fl_X12_taken_0 {p j : Nat} {b : UInt8} (e : p = 0 + j) (h : fb_X12_taken_0[j]? = some b) : cX12_taken.data.toList[p]? = some b := fq_l (n := 64) (show (cX12_taken.data.toList.drop 0).take 64 = fb_X12_taken_0 by decide +kernel) e h
theorem dX12_taken_0 : decode cX12_taken 0 = .ok (.aload_n 0, 1) := fq1_42 (fl_X12_taken_0 (j := 0) rfl rfl)
theorem dX12_taken_1 : decode cX12_taken 1 = .ok (.aload_n 0, 1) := fq1_42 (fl_X12_taken_0 (j := 1) rfl rfl)
theorem dX12_taken_2 : decode cX12_taken 2 = .ok (.getfield 152, 3) := fq3_180 (fl_X12_taken_0 (j := 2) rfl rfl) (fl_X12_taken_0 (j := 3) rfl rfl) (fl_X12_taken_0 (j := 4) rfl rfl) (by decide)
theorem dX12_taken_5 : decode cX12_taken 5 = .ok (.putfield 37, 3) := fq3_181 (fl_X12_taken_0 (j := 5) rfl rfl) (fl_X12_taken_0 (j := 6) rfl rfl) (fl_X12_taken_0 (j := 7) rfl rfl) (by decide)
theorem dX12_taken_8 : decode cX12_taken 8 = .ok (.aload_n 0, 1) := fq1_42 (fl_X12_taken_0 (j := 8) rfl rfl)
theorem dX12_taken_9 : decode cX12_taken 9 = .ok (.getfield 152, 3) := fq3_180 (fl_X12_taken_0 (j := 9) rfl rfl) (fl_X12_taken_0 (j := 10) rfl rfl) (fl_X12_taken_0 (j := 11) rfl rfl) (by decide)
theorem dX12_taken_12 : decode cX12_taken 12 = .ok (.ifCond .le 12, 3) := fq3_158 (fl_X12_taken_0 (j := 12) rfl rfl) (fl_X12_taken_0 (j := 13) rfl rfl) (fl_X12_taken_0 (j := 14) rfl rfl) (by decide)
theorem dX12_taken_15 : decode cX12_taken 15 = .ok (.aload_n 0, 1) := fq1_42 (fl_X12_taken_0 (j := 15) rfl rfl)
theorem dX12_taken_16 : decode cX12_taken 16 = .ok (.bipush 9, 2) := fq2_16 (fl_X12_taken_0 (j := 16) rfl rfl) (fl_X12_taken_0 (j := 17) rfl rfl) (by decide)
theorem dX12_taken_18 : decode cX12_taken 18 = .ok (.invokevirtual 81, 3) := fq3_182 (fl_X12_taken_0 (j := 18) rfl rfl) (fl_X12_taken_0 (j := 19) rfl rfl) (fl_X12_taken_0 (j := 20) rfl rfl) (by decide)
theorem dX12_taken_21 : decode cX12_taken 21 = .ok (.goto 8, 3) := fq3_167 (fl_X12_taken_0 (j := 21) rfl rfl) (fl_X12_taken_0 (j := 22) rfl rfl) (fl_X12_taken_0 (j := 23) rfl rfl) (by decide)
theorem dX12_taken_24 : decode cX12_taken 24 = .ok (.aload_n 0, 1) := fq1_42 (fl_X12_taken_0 (j := 24) rfl rfl)
theorem dX12_taken_25 : decode cX12_taken 25 = .ok (.iload_n 1, 1) := fq1_27 (fl_X12_taken_0 (j := 25) rfl rfl)
theorem dX12_taken_26 : decode cX12_taken 26 = .ok (.invokevirtual 85, 3) := fq3_182 (fl_X12_taken_0 (j := 26) rfl rfl) (fl_X12_taken_0 (j := 27) rfl rfl) (fl_X12_taken_0 (j := 28) rfl rfl) (by decide)
theorem dX12_taken_29 : decode cX12_taken 29 = .ok (.ireturn, 1) := fq1_172 (fl_X12_taken_0 (j := 29) rfl rfl)
