theorem qc_X12_isTray : Cond.code yX12_isTray cX12_isTray 1 (some .boolean) ∈ gw := tbt (tb6 (List.mem_of_getElem? (i := 171) rfl)) rfl
theorem qt_yX12_isTray : Cond.static yX12_isTray ∈ gw := tbt (tb6 (List.mem_of_getElem? (i := 170) rfl)) rfl
theorem ci_X12_isTray : CIs yX12_isTray cX12_isTray 1 (some .boolean) 1 := ⟨qc_X12_isTray, qt_yX12_isTray, qz_X12, by decide +kernel⟩
theorem qm_X12_93 : Cond.methodLink RX12 93 yX12_isTray ∈ gw := tbt (tb6 (List.mem_of_getElem? (i := 169) rfl)) rfl
theorem qf_X12_24 : Cond.fieldLink RX12 24 "SlowWorldsModel" "trayMany" "[I" ∈ gw := tbt (tb6 (List.mem_of_getElem? (i := 50) rfl)) rfl
theorem qc_X12_wrongPlace : Cond.code yX12_wrongPlace cX12_wrongPlace 3 (some .int) ∈ gw := tbt (tb6 (List.mem_of_getElem? (i := 183) rfl)) rfl
theorem qi_yX12_wrongPlace : Cond.instanceMethod yX12_wrongPlace ∈ gw := tbt (tb6 (List.mem_of_getElem? (i := 182) rfl)) rfl
theorem qs_X12_wrongPlace : Cond.selects (yX12_wrongPlace).cls yX12_wrongPlace yX12_wrongPlace ∈ gw := tb0 (List.mem_of_getElem? (i := 38) rfl) rfl
theorem ci_X12_wrongPlace : CIv yX12_wrongPlace cX12_wrongPlace 3 (some .int) 2 := ⟨qc_X12_wrongPlace, qi_yX12_wrongPlace, qs_X12_wrongPlace, qz_X12, by decide +kernel⟩
theorem qm_X12_96 : Cond.methodLink RX12 96 yX12_wrongPlace ∈ gw := tbt (tb6 (List.mem_of_getElem? (i := 180) rfl)) rfl
theorem qk_X12_104 : Cond.constantLong RX12 104 (-1) ∈ gw := tbt (tb6 (List.mem_of_getElem? (i := 191) rfl)) rfl
theorem qf_X12_21 : Cond.fieldLink RX12 21 "SlowWorldsModel" "sort" "[I" ∈ gw := tbt (tb6 (List.mem_of_getElem? (i := 49) rfl)) rfl
theorem qf_X12_27 : Cond.fieldLink RX12 27 "SlowWorldsModel" "trays" "[J" ∈ gw := tbt (tb6 (List.mem_of_getElem? (i := 51) rfl)) rfl
theorem qf_X12_30 : Cond.fieldLink RX12 30 "SlowWorldsModel" "tape" "[B" ∈ gw := tbt (tb6 (List.mem_of_getElem? (i := 52) rfl)) rfl
theorem qf_X12_106 : Cond.fieldLink RX12 106 "SlowWorldsModel" "taped" "I" ∈ gw := tbt (tb6 (List.mem_of_getElem? (i := 54) rfl)) rfl
theorem qc_X12_four : Cond.code yX12_four cX12_four 3 none ∈ gw := tbt (tb6 (List.mem_of_getElem? (i := 203) rfl)) rfl
theorem qi_yX12_four : Cond.instanceMethod yX12_four ∈ gw := tbt (tb6 (List.mem_of_getElem? (i := 202) rfl)) rfl
theorem qs_X12_four : Cond.selects (yX12_four).cls yX12_four yX12_four ∈ gw := tb0 (List.mem_of_getElem? (i := 39) rfl) rfl
theorem ci_X12_four : CIv yX12_four cX12_four 3 none 1 := ⟨qc_X12_four, qi_yX12_four, qs_X12_four, qz_X12, by decide +kernel⟩
theorem qm_X12_109 : Cond.methodLink RX12 109 yX12_four ∈ gw := tbt (tb6 (List.mem_of_getElem? (i := 200) rfl)) rfl
theorem qf_X12_112 : Cond.fieldLink RX12 112 "SlowWorldsModel" "size" "I" ∈ gw := tbt (tb6 (List.mem_of_getElem? (i := 55) rfl)) rfl
theorem qf_X12_115 : Cond.fieldLink RX12 115 "SlowWorldsModel" "end" "I" ∈ gw := tbt (tb6 (List.mem_of_getElem? (i := 58) rfl)) rfl
theorem qc_X12_byteAt : Cond.code yX12_byteAt cX12_byteAt 2 (some .int) ∈ gw := tbt (tb6 (List.mem_of_getElem? (i := 223) rfl)) rfl
theorem qi_yX12_byteAt : Cond.instanceMethod yX12_byteAt ∈ gw := tbt (tb6 (List.mem_of_getElem? (i := 222) rfl)) rfl
theorem qs_X12_byteAt : Cond.selects (yX12_byteAt).cls yX12_byteAt yX12_byteAt ∈ gw := tb0 (List.mem_of_getElem? (i := 42) rfl) rfl
theorem ci_X12_byteAt : CIv yX12_byteAt cX12_byteAt 2 (some .int) 1 := ⟨qc_X12_byteAt, qi_yX12_byteAt, qs_X12_byteAt, qz_X12, by decide +kernel⟩
theorem qm_X12_118 : Cond.methodLink RX12 118 yX12_byteAt ∈ gw := tbt (tb6 (List.mem_of_getElem? (i := 220) rfl)) rfl
theorem qf_X12_121 : Cond.fieldLink RX12 121 "SlowWorldsModel" "from" "I" ∈ gw := tbt (tb6 (List.mem_of_getElem? (i := 57) rfl)) rfl
theorem qf_X12_124 : Cond.fieldLink RX12 124 "SlowWorldsModel" "value" "I" ∈ gw := tbt (tb6 (List.mem_of_getElem? (i := 59) rfl)) rfl
theorem qf_X12_127 : Cond.fieldLink RX12 127 "SlowWorldsModel" "token" "I" ∈ gw := tbt (tb6 (List.mem_of_getElem? (i := 56) rfl)) rfl
theorem qf_X12_152 : Cond.fieldLink RX12 152 "SlowWorldsModel" "faults" "I" ∈ gw := tbt (tb6 (List.mem_of_getElem? (i := 62) rfl)) rfl
theorem qf_X12_155 : Cond.fieldLink RX12 155 "SlowWorldsModel" "seen" "I" ∈ gw := tbt (tb6 (List.mem_of_getElem? (i := 63) rfl)) rfl
theorem qc_X12_onward : Cond.code yX12_onward cX12_onward 2 none ∈ gw := tbt (tb6 (List.mem_of_getElem? (i := 219) rfl)) rfl
theorem qi_yX12_onward : Cond.instanceMethod yX12_onward ∈ gw := tbt (tb6 (List.mem_of_getElem? (i := 218) rfl)) rfl
theorem qs_X12_onward : Cond.selects (yX12_onward).cls yX12_onward yX12_onward ∈ gw := tb0 (List.mem_of_getElem? (i := 41) rfl) rfl
theorem ci_X12_onward : CIv yX12_onward cX12_onward 2 none 0 := ⟨qc_X12_onward, qi_yX12_onward, qs_X12_onward, qz_X12, by decide +kernel⟩
theorem qm_X12_158 : Cond.methodLink RX12 158 yX12_onward ∈ gw := tbt (tb6 (List.mem_of_getElem? (i := 216) rfl)) rfl
theorem qc_X12_begins : Cond.code yX12_begins cX12_begins 4 (some .boolean) ∈ gw := tbt (tb6 (List.mem_of_getElem? (i := 215) rfl)) rfl
theorem qi_yX12_begins : Cond.instanceMethod yX12_begins ∈ gw := tbt (tb6 (List.mem_of_getElem? (i := 214) rfl)) rfl
theorem qs_X12_begins : Cond.selects (yX12_begins).cls yX12_begins yX12_begins ∈ gw := tb0 (List.mem_of_getElem? (i := 40) rfl) rfl
theorem ci_X12_begins : CIv yX12_begins cX12_begins 4 (some .boolean) 2 := ⟨qc_X12_begins, qi_yX12_begins, qs_X12_begins, qz_X12, by decide +kernel⟩
theorem qm_X12_215 : Cond.methodLink RX12 215 yX12_begins ∈ gw := tbt (tb6 (List.mem_of_getElem? (i := 212) rfl)) rfl
theorem qc_X12_plain : Cond.code yX12_plain cX12_plain 3 none ∈ gw := tbt (tb6 (List.mem_of_getElem? (i := 43) rfl)) rfl
theorem qi_yX12_plain : Cond.instanceMethod yX12_plain ∈ gw := tbt (tb6 (List.mem_of_getElem? (i := 42) rfl)) rfl
theorem qs_X12_plain : Cond.selects (yX12_plain).cls yX12_plain yX12_plain ∈ gw := tb0 (List.mem_of_getElem? (i := 36) rfl) rfl
theorem ci_X12_plain : CIv yX12_plain cX12_plain 3 none 1 := ⟨qc_X12_plain, qi_yX12_plain, qs_X12_plain, qz_X12, by decide +kernel⟩
theorem qm_X12_71 : Cond.methodLink RX12 71 yX12_plain ∈ gw := tbt (tb6 (List.mem_of_getElem? (i := 40) rfl)) rfl
theorem qf_X12_198 : Cond.fieldLink RX12 198 "SlowWorldsModel" "lawTold" "Z" ∈ gw := tbt (tb6 (List.mem_of_getElem? (i := 64) rfl)) rfl
theorem qc_X12_taken : Cond.code yX12_taken cX12_taken 2 (some .int) ∈ gw := tbt (tb7 (List.mem_of_getElem? (i := 62) rfl)) rfl
theorem qi_yX12_taken : Cond.instanceMethod yX12_taken ∈ gw := tbt (tb7 (List.mem_of_getElem? (i := 61) rfl)) rfl
theorem qs_X12_taken : Cond.selects (yX12_taken).cls yX12_taken yX12_taken ∈ gw := tb0 (List.mem_of_getElem? (i := 59) rfl) rfl
theorem ci_X12_taken : CIv yX12_taken cX12_taken 2 (some .int) 1 := ⟨qc_X12_taken, qi_yX12_taken, qs_X12_taken, qz_X12, by decide +kernel⟩
theorem qm_X12_222 : Cond.methodLink RX12 222 yX12_taken ∈ gw := tbt (tb7 (List.mem_of_getElem? (i := 59) rfl)) rfl
theorem qf_X12_13 : Cond.fieldLink RX12 13 "SlowWorldsModel" "names" "[J" ∈ gw := tbt (tb6 (List.mem_of_getElem? (i := 45) rfl)) rfl
theorem qf_X12_231 : Cond.fieldLink RX12 231 "SlowWorldsModel" "depth" "I" ∈ gw := tbt (tb6 (List.mem_of_getElem? (i := 66) rfl)) rfl
theorem qf_X12_234 : Cond.fieldLink RX12 234 "SlowWorldsModel" "counted" "I" ∈ gw := tbt (tb6 (List.mem_of_getElem? (i := 67) rfl)) rfl
theorem qk_X12_369 : Cond.constantLong RX12 369 (99) ∈ gw := tbt (tb8 (List.mem_of_getElem? (i := 191) rfl)) rfl
theorem qc_X12_goes : Cond.code yX12_goes cX12_goes 7 (some .boolean) ∈ gw := tbt (tb8 (List.mem_of_getElem? (i := 195) rfl)) rfl
theorem qi_yX12_goes : Cond.instanceMethod yX12_goes ∈ gw := tbt (tb8 (List.mem_of_getElem? (i := 194) rfl)) rfl
theorem qs_X12_goes : Cond.selects (yX12_goes).cls yX12_goes yX12_goes ∈ gw := tb0 (List.mem_of_getElem? (i := 94) rfl) rfl
theorem ci_X12_goes : CIv yX12_goes cX12_goes 7 (some .boolean) 0 := ⟨qc_X12_goes, qi_yX12_goes, qs_X12_goes, qz_X12, by decide +kernel⟩
theorem qm_X12_371 : Cond.methodLink RX12 371 yX12_goes ∈ gw := tbt (tb8 (List.mem_of_getElem? (i := 192) rfl)) rfl
theorem qc_X12_copies : Cond.code yX12_copies cX12_copies 4 none ∈ gw := tbt (tb9 (List.mem_of_getElem? (i := 45) rfl)) rfl
theorem qi_yX12_copies : Cond.instanceMethod yX12_copies ∈ gw := tbt (tb9 (List.mem_of_getElem? (i := 44) rfl)) rfl
theorem qs_X12_copies : Cond.selects (yX12_copies).cls yX12_copies yX12_copies ∈ gw := tb0 (List.mem_of_getElem? (i := 104) rfl) rfl
theorem ci_X12_copies : CIv yX12_copies cX12_copies 4 none 2 := ⟨qc_X12_copies, qi_yX12_copies, qs_X12_copies, qz_X12, by decide +kernel⟩
theorem qm_X12_415 : Cond.methodLink RX12 415 yX12_copies ∈ gw := tbt (tb9 (List.mem_of_getElem? (i := 42) rfl)) rfl
theorem dX12_begins_0 : decode cX12_begins 0 = .ok (.iload_n 1, 1) := by decide +kernel
theorem dX12_begins_1 : decode cX12_begins 1 = .ok (.ifCond .lt 16, 3) := by decide +kernel
theorem dX12_begins_4 : decode cX12_begins 4 = .ok (.iload_n 1, 1) := by decide +kernel
theorem dX12_begins_5 : decode cX12_begins 5 = .ok (.aload_n 0, 1) := by decide +kernel
theorem dX12_begins_6 : decode cX12_begins 6 = .ok (.getfield 106, 3) := by decide +kernel
theorem dX12_begins_9 : decode cX12_begins 9 = .ok (.if_icmp .gt 8, 3) := by decide +kernel
theorem dX12_begins_12 : decode cX12_begins 12 = .ok (.iload_n 1, 1) := by decide +kernel
theorem dX12_begins_13 : decode cX12_begins 13 = .ok (.iload_n 2, 1) := by decide +kernel
theorem dX12_begins_14 : decode cX12_begins 14 = .ok (.if_icmp .le 5, 3) := by decide +kernel
theorem dX12_begins_17 : decode cX12_begins 17 = .ok (.iconst 0, 1) := by decide +kernel
theorem dX12_begins_18 : decode cX12_begins 18 = .ok (.ireturn, 1) := by decide +kernel
theorem dX12_begins_19 : decode cX12_begins 19 = .ok (.aload_n 0, 1) := by decide +kernel
theorem dX12_begins_20 : decode cX12_begins 20 = .ok (.iload_n 1, 1) := by decide +kernel
theorem dX12_begins_21 : decode cX12_begins 21 = .ok (.putfield 112, 3) := by decide +kernel
theorem dX12_begins_24 : decode cX12_begins 24 = .ok (.iconst 0, 1) := by decide +kernel
theorem dX12_begins_25 : decode cX12_begins 25 = .ok (.istore_n 3, 1) := by decide +kernel
theorem dX12_begins_26 : decode cX12_begins 26 = .ok (.iload_n 3, 1) := by decide +kernel
theorem dX12_begins_27 : decode cX12_begins 27 = .ok (.iload_n 1, 1) := by decide +kernel
theorem dX12_begins_28 : decode cX12_begins 28 = .ok (.if_icmp .ge 21, 3) := by decide +kernel
theorem dX12_begins_49 : decode cX12_begins 49 = .ok (.aload_n 0, 1) := by decide +kernel
theorem dX12_begins_50 : decode cX12_begins 50 = .ok (.iconst 0, 1) := by decide +kernel
theorem dX12_begins_51 : decode cX12_begins 51 = .ok (.putfield 106, 3) := by decide +kernel
theorem dX12_begins_54 : decode cX12_begins 54 = .ok (.aload_n 0, 1) := by decide +kernel
theorem dX12_begins_55 : decode cX12_begins 55 = .ok (.iconst 0, 1) := by decide +kernel
theorem dX12_begins_56 : decode cX12_begins 56 = .ok (.putfield 152, 3) := by decide +kernel
theorem dX12_begins_59 : decode cX12_begins 59 = .ok (.aload_n 0, 1) := by decide +kernel
theorem dX12_begins_60 : decode cX12_begins 60 = .ok (.iconst (-1), 1) := by decide +kernel
theorem dX12_begins_61 : decode cX12_begins 61 = .ok (.putfield 41, 3) := by decide +kernel
theorem dX12_begins_64 : decode cX12_begins 64 = .ok (.aload_n 0, 1) := by decide +kernel
theorem dX12_begins_65 : decode cX12_begins 65 = .ok (.iconst 0, 1) := by decide +kernel
theorem dX12_begins_66 : decode cX12_begins 66 = .ok (.putfield 115, 3) := by decide +kernel
theorem dX12_begins_69 : decode cX12_begins 69 = .ok (.aload_n 0, 1) := by decide +kernel
theorem dX12_begins_70 : decode cX12_begins 70 = .ok (.iconst 0, 1) := by decide +kernel
theorem dX12_begins_71 : decode cX12_begins 71 = .ok (.putfield 155, 3) := by decide +kernel
theorem dX12_begins_74 : decode cX12_begins 74 = .ok (.aload_n 0, 1) := by decide +kernel
theorem dX12_begins_75 : decode cX12_begins 75 = .ok (.invokevirtual 158, 3) := by decide +kernel
theorem dX12_begins_78 : decode cX12_begins 78 = .ok (.iconst 1, 1) := by decide +kernel
theorem dX12_begins_79 : decode cX12_begins 79 = .ok (.ireturn, 1) := by decide +kernel
theorem dX12_byteAt_0 : decode cX12_byteAt 0 = .ok (.iload_n 1, 1) := by decide +kernel
theorem dX12_byteAt_1 : decode cX12_byteAt 1 = .ok (.aload_n 0, 1) := by decide +kernel
theorem dX12_byteAt_2 : decode cX12_byteAt 2 = .ok (.getfield 112, 3) := by decide +kernel
theorem dX12_byteAt_5 : decode cX12_byteAt 5 = .ok (.if_icmp .ge 16, 3) := by decide +kernel
theorem dX12_byteAt_21 : decode cX12_byteAt 21 = .ok (.iconst (-1), 1) := by decide +kernel
theorem dX12_byteAt_22 : decode cX12_byteAt 22 = .ok (.ireturn, 1) := by decide +kernel
theorem dX12_copies_0 : decode cX12_copies 0 = .ok (.iconst 0, 1) := by decide +kernel
theorem dX12_copies_1 : decode cX12_copies 1 = .ok (.istore_n 3, 1) := by decide +kernel
theorem dX12_copies_2 : decode cX12_copies 2 = .ok (.iload_n 3, 1) := by decide +kernel
theorem dX12_copies_3 : decode cX12_copies 3 = .ok (.sipush 890, 3) := by decide +kernel
theorem dX12_copies_6 : decode cX12_copies 6 = .ok (.if_icmp .ge 33, 3) := by decide +kernel
theorem dX12_copies_9 : decode cX12_copies 9 = .ok (.aload_n 0, 1) := by decide +kernel
theorem dX12_copies_10 : decode cX12_copies 10 = .ok (.getfield 7, 3) := by decide +kernel
theorem dX12_copies_13 : decode cX12_copies 13 = .ok (.sipush 890, 3) := by decide +kernel
theorem dX12_copies_16 : decode cX12_copies 16 = .ok (.iload_n 2, 1) := by decide +kernel
theorem dX12_copies_17 : decode cX12_copies 17 = .ok (.imul, 1) := by decide +kernel
theorem dX12_copies_18 : decode cX12_copies 18 = .ok (.iload_n 3, 1) := by decide +kernel
theorem dX12_copies_19 : decode cX12_copies 19 = .ok (.iadd, 1) := by decide +kernel
theorem dX12_copies_20 : decode cX12_copies 20 = .ok (.aload_n 0, 1) := by decide +kernel
theorem dX12_copies_21 : decode cX12_copies 21 = .ok (.getfield 7, 3) := by decide +kernel
theorem dX12_copies_24 : decode cX12_copies 24 = .ok (.sipush 890, 3) := by decide +kernel
theorem dX12_copies_27 : decode cX12_copies 27 = .ok (.iload_n 1, 1) := by decide +kernel
theorem dX12_copies_28 : decode cX12_copies 28 = .ok (.imul, 1) := by decide +kernel
theorem dX12_copies_29 : decode cX12_copies 29 = .ok (.iload_n 3, 1) := by decide +kernel
theorem dX12_copies_30 : decode cX12_copies 30 = .ok (.iadd, 1) := by decide +kernel
theorem dX12_copies_31 : decode cX12_copies 31 = .ok (.iaload, 1) := by decide +kernel
theorem dX12_copies_32 : decode cX12_copies 32 = .ok (.iastore, 1) := by decide +kernel
theorem dX12_copies_33 : decode cX12_copies 33 = .ok (.iinc 3 1, 3) := by decide +kernel
theorem dX12_copies_36 : decode cX12_copies 36 = .ok (.goto (-34), 3) := by decide +kernel
theorem dX12_copies_39 : decode cX12_copies 39 = .ok (.iconst 0, 1) := by decide +kernel
theorem dX12_copies_40 : decode cX12_copies 40 = .ok (.istore_n 3, 1) := by decide +kernel
theorem dX12_copies_41 : decode cX12_copies 41 = .ok (.iload_n 3, 1) := by decide +kernel
theorem dX12_copies_42 : decode cX12_copies 42 = .ok (.bipush 6, 2) := by decide +kernel
theorem dX12_copies_44 : decode cX12_copies 44 = .ok (.if_icmp .ge 31, 3) := by decide +kernel
theorem dX12_copies_47 : decode cX12_copies 47 = .ok (.aload_n 0, 1) := by decide +kernel
theorem dX12_copies_48 : decode cX12_copies 48 = .ok (.getfield 13, 3) := by decide +kernel
theorem dX12_copies_51 : decode cX12_copies 51 = .ok (.bipush 6, 2) := by decide +kernel
theorem dX12_copies_53 : decode cX12_copies 53 = .ok (.iload_n 2, 1) := by decide +kernel
theorem dX12_copies_54 : decode cX12_copies 54 = .ok (.imul, 1) := by decide +kernel
theorem dX12_copies_55 : decode cX12_copies 55 = .ok (.iload_n 3, 1) := by decide +kernel
theorem dX12_copies_56 : decode cX12_copies 56 = .ok (.iadd, 1) := by decide +kernel
theorem dX12_copies_57 : decode cX12_copies 57 = .ok (.aload_n 0, 1) := by decide +kernel
theorem dX12_copies_58 : decode cX12_copies 58 = .ok (.getfield 13, 3) := by decide +kernel
theorem dX12_copies_61 : decode cX12_copies 61 = .ok (.bipush 6, 2) := by decide +kernel
theorem dX12_copies_63 : decode cX12_copies 63 = .ok (.iload_n 1, 1) := by decide +kernel
theorem dX12_copies_64 : decode cX12_copies 64 = .ok (.imul, 1) := by decide +kernel
theorem dX12_copies_65 : decode cX12_copies 65 = .ok (.iload_n 3, 1) := by decide +kernel
theorem dX12_copies_66 : decode cX12_copies 66 = .ok (.iadd, 1) := by decide +kernel
theorem dX12_copies_67 : decode cX12_copies 67 = .ok (.laload, 1) := by decide +kernel
theorem dX12_copies_68 : decode cX12_copies 68 = .ok (.lastore, 1) := by decide +kernel
theorem dX12_copies_69 : decode cX12_copies 69 = .ok (.iinc 3 1, 3) := by decide +kernel
theorem dX12_copies_72 : decode cX12_copies 72 = .ok (.goto (-31), 3) := by decide +kernel
theorem dX12_copies_75 : decode cX12_copies 75 = .ok (.return_, 1) := by decide +kernel
theorem dX12_feed_0 : decode cX12_feed 0 = .ok (.aload_n 0, 1) := by decide +kernel
theorem dX12_feed_1 : decode cX12_feed 1 = .ok (.getfield 106, 3) := by decide +kernel
theorem dX12_feed_4 : decode cX12_feed 4 = .ok (.bipush 20, 2) := by decide +kernel
theorem dX12_feed_6 : decode cX12_feed 6 = .ok (.iadd, 1) := by decide +kernel
theorem dX12_feed_7 : decode cX12_feed 7 = .ok (.sipush 900, 3) := by decide +kernel
theorem dX12_feed_10 : decode cX12_feed 10 = .ok (.if_icmp .le 5, 3) := by decide +kernel
theorem dX12_feed_15 : decode cX12_feed 15 = .ok (.aload_n 0, 1) := by decide +kernel
theorem dX12_feed_16 : decode cX12_feed 16 = .ok (.iload_n 1, 1) := by decide +kernel
theorem dX12_feed_17 : decode cX12_feed 17 = .ok (.invokevirtual 109, 3) := by decide +kernel
theorem dX12_feed_20 : decode cX12_feed 20 = .ok (.aload_n 0, 1) := by decide +kernel
theorem dX12_feed_21 : decode cX12_feed 21 = .ok (.iload_n 2, 1) := by decide +kernel
theorem dX12_feed_22 : decode cX12_feed 22 = .ok (.invokevirtual 109, 3) := by decide +kernel
theorem dX12_feed_25 : decode cX12_feed 25 = .ok (.aload_n 0, 1) := by decide +kernel
theorem dX12_feed_26 : decode cX12_feed 26 = .ok (.iload_n 3, 1) := by decide +kernel
theorem dX12_feed_27 : decode cX12_feed 27 = .ok (.invokevirtual 109, 3) := by decide +kernel
theorem dX12_feed_30 : decode cX12_feed 30 = .ok (.aload_n 0, 1) := by decide +kernel
theorem dX12_feed_31 : decode cX12_feed 31 = .ok (.iload 4, 2) := by decide +kernel
theorem dX12_feed_33 : decode cX12_feed 33 = .ok (.invokevirtual 109, 3) := by decide +kernel
theorem dX12_feed_36 : decode cX12_feed 36 = .ok (.aload_n 0, 1) := by decide +kernel
theorem dX12_feed_37 : decode cX12_feed 37 = .ok (.iload 5, 2) := by decide +kernel
theorem dX12_feed_39 : decode cX12_feed 39 = .ok (.invokevirtual 109, 3) := by decide +kernel
theorem dX12_feed_42 : decode cX12_feed 42 = .ok (.aload_n 0, 1) := by decide +kernel
theorem dX12_feed_43 : decode cX12_feed 43 = .ok (.getfield 106, 3) := by decide +kernel
theorem dX12_feed_46 : decode cX12_feed 46 = .ok (.ireturn, 1) := by decide +kernel
theorem dX12_four_0 : decode cX12_four 0 = .ok (.bipush 24, 2) := by decide +kernel
theorem dX12_four_2 : decode cX12_four 2 = .ok (.istore_n 2, 1) := by decide +kernel
theorem dX12_four_3 : decode cX12_four 3 = .ok (.iload_n 2, 1) := by decide +kernel
theorem dX12_four_4 : decode cX12_four 4 = .ok (.ifCond .lt 32, 3) := by decide +kernel
theorem dX12_four_7 : decode cX12_four 7 = .ok (.aload_n 0, 1) := by decide +kernel
theorem dX12_four_8 : decode cX12_four 8 = .ok (.getfield 30, 3) := by decide +kernel
theorem dX12_four_11 : decode cX12_four 11 = .ok (.aload_n 0, 1) := by decide +kernel
theorem dX12_four_12 : decode cX12_four 12 = .ok (.getfield 106, 3) := by decide +kernel
theorem dX12_four_15 : decode cX12_four 15 = .ok (.iload_n 1, 1) := by decide +kernel
theorem dX12_four_16 : decode cX12_four 16 = .ok (.iload_n 2, 1) := by decide +kernel
theorem dX12_four_17 : decode cX12_four 17 = .ok (.ishr, 1) := by decide +kernel
theorem dX12_four_18 : decode cX12_four 18 = .ok (.i2b, 1) := by decide +kernel
theorem dX12_four_19 : decode cX12_four 19 = .ok (.bastore, 1) := by decide +kernel
theorem dX12_four_20 : decode cX12_four 20 = .ok (.aload_n 0, 1) := by decide +kernel
theorem dX12_four_21 : decode cX12_four 21 = .ok (.dup, 1) := by decide +kernel
theorem dX12_four_22 : decode cX12_four 22 = .ok (.getfield 106, 3) := by decide +kernel
theorem dX12_four_25 : decode cX12_four 25 = .ok (.iconst 1, 1) := by decide +kernel
theorem dX12_four_26 : decode cX12_four 26 = .ok (.iadd, 1) := by decide +kernel
theorem dX12_four_27 : decode cX12_four 27 = .ok (.putfield 106, 3) := by decide +kernel
theorem dX12_four_30 : decode cX12_four 30 = .ok (.iinc 2 (-8), 3) := by decide +kernel
theorem dX12_four_33 : decode cX12_four 33 = .ok (.goto (-30), 3) := by decide +kernel
theorem dX12_four_36 : decode cX12_four 36 = .ok (.return_, 1) := by decide +kernel
theorem dX12_goes_0 : decode cX12_goes 0 = .ok (.aload_n 0, 1) := by decide +kernel
theorem dX12_goes_1 : decode cX12_goes 1 = .ok (.getfield 7, 3) := by decide +kernel
theorem dX12_goes_4 : decode cX12_goes 4 = .ok (.iconst 3, 1) := by decide +kernel
theorem dX12_goes_5 : decode cX12_goes 5 = .ok (.iaload, 1) := by decide +kernel
theorem dX12_goes_6 : decode cX12_goes 6 = .ok (.sipush 400, 3) := by decide +kernel
theorem dX12_goes_9 : decode cX12_goes 9 = .ok (.if_icmp .ne 5, 3) := by decide +kernel
theorem dX12_goes_14 : decode cX12_goes 14 = .ok (.aload_n 0, 1) := by decide +kernel
theorem dX12_goes_15 : decode cX12_goes 15 = .ok (.getfield 7, 3) := by decide +kernel
theorem dX12_goes_18 : decode cX12_goes 18 = .ok (.iconst 3, 1) := by decide +kernel
theorem dX12_goes_19 : decode cX12_goes 19 = .ok (.iaload, 1) := by decide +kernel
theorem dX12_goes_20 : decode cX12_goes 20 = .ok (.iconst 1, 1) := by decide +kernel
theorem dX12_goes_21 : decode cX12_goes 21 = .ok (.iadd, 1) := by decide +kernel
theorem dX12_goes_22 : decode cX12_goes 22 = .ok (.istore_n 1, 1) := by decide +kernel
theorem dX12_goes_23 : decode cX12_goes 23 = .ok (.iconst 0, 1) := by decide +kernel
theorem dX12_goes_24 : decode cX12_goes 24 = .ok (.istore_n 2, 1) := by decide +kernel
theorem dX12_goes_25 : decode cX12_goes 25 = .ok (.iconst 0, 1) := by decide +kernel
theorem dX12_goes_26 : decode cX12_goes 26 = .ok (.istore_n 3, 1) := by decide +kernel
theorem dX12_goes_27 : decode cX12_goes 27 = .ok (.iload_n 3, 1) := by decide +kernel
theorem dX12_goes_28 : decode cX12_goes 28 = .ok (.aload_n 0, 1) := by decide +kernel
theorem dX12_goes_29 : decode cX12_goes 29 = .ok (.getfield 7, 3) := by decide +kernel
theorem dX12_goes_32 : decode cX12_goes 32 = .ok (.iconst 0, 1) := by decide +kernel
theorem dX12_goes_33 : decode cX12_goes 33 = .ok (.iaload, 1) := by decide +kernel
theorem dX12_goes_34 : decode cX12_goes 34 = .ok (.if_icmp .ge 111, 3) := by decide +kernel
theorem dX12_goes_145 : decode cX12_goes 145 = .ok (.aload_n 0, 1) := by decide +kernel
theorem dX12_goes_146 : decode cX12_goes 146 = .ok (.getfield 7, 3) := by decide +kernel
theorem dX12_goes_149 : decode cX12_goes 149 = .ok (.bipush 118, 2) := by decide +kernel
theorem dX12_goes_151 : decode cX12_goes 151 = .ok (.iload_n 1, 1) := by decide +kernel
theorem dX12_goes_152 : decode cX12_goes 152 = .ok (.iadd, 1) := by decide +kernel
theorem dX12_goes_153 : decode cX12_goes 153 = .ok (.iload_n 2, 1) := by decide +kernel
theorem dX12_goes_154 : decode cX12_goes 154 = .ok (.iastore, 1) := by decide +kernel
theorem dX12_goes_155 : decode cX12_goes 155 = .ok (.aload_n 0, 1) := by decide +kernel
theorem dX12_goes_156 : decode cX12_goes 156 = .ok (.getfield 7, 3) := by decide +kernel
theorem dX12_goes_159 : decode cX12_goes 159 = .ok (.iconst 3, 1) := by decide +kernel
theorem dX12_goes_160 : decode cX12_goes 160 = .ok (.iload_n 1, 1) := by decide +kernel
theorem dX12_goes_161 : decode cX12_goes 161 = .ok (.iastore, 1) := by decide +kernel
theorem dX12_goes_162 : decode cX12_goes 162 = .ok (.iconst 1, 1) := by decide +kernel
theorem dX12_goes_163 : decode cX12_goes 163 = .ok (.ireturn, 1) := by decide +kernel
theorem dX12_mark_0 : decode cX12_mark 0 = .ok (.aload_n 0, 1) := by decide +kernel
theorem dX12_mark_1 : decode cX12_mark 1 = .ok (.getfield 412, 3) := by decide +kernel
theorem dX12_mark_4 : decode cX12_mark 4 = .ok (.iconst 3, 1) := by decide +kernel
theorem dX12_mark_5 : decode cX12_mark 5 = .ok (.if_icmp .ne 9, 3) := by decide +kernel
theorem dX12_mark_14 : decode cX12_mark 14 = .ok (.aload_n 0, 1) := by decide +kernel
theorem dX12_mark_15 : decode cX12_mark 15 = .ok (.dup, 1) := by decide +kernel
theorem dX12_mark_16 : decode cX12_mark 16 = .ok (.getfield 412, 3) := by decide +kernel
theorem dX12_mark_19 : decode cX12_mark 19 = .ok (.iconst 1, 1) := by decide +kernel
theorem dX12_mark_20 : decode cX12_mark 20 = .ok (.iadd, 1) := by decide +kernel
theorem dX12_mark_21 : decode cX12_mark 21 = .ok (.putfield 412, 3) := by decide +kernel
theorem dX12_mark_24 : decode cX12_mark 24 = .ok (.aload_n 0, 1) := by decide +kernel
theorem dX12_mark_25 : decode cX12_mark 25 = .ok (.iconst 0, 1) := by decide +kernel
theorem dX12_mark_26 : decode cX12_mark 26 = .ok (.aload_n 0, 1) := by decide +kernel
theorem dX12_mark_27 : decode cX12_mark 27 = .ok (.getfield 412, 3) := by decide +kernel
theorem dX12_mark_30 : decode cX12_mark 30 = .ok (.invokevirtual 415, 3) := by decide +kernel
theorem dX12_mark_33 : decode cX12_mark 33 = .ok (.aload_n 0, 1) := by decide +kernel
theorem dX12_mark_34 : decode cX12_mark 34 = .ok (.aload_n 0, 1) := by decide +kernel
theorem dX12_mark_35 : decode cX12_mark 35 = .ok (.getfield 412, 3) := by decide +kernel
theorem dX12_mark_38 : decode cX12_mark 38 = .ok (.invokevirtual 85, 3) := by decide +kernel
theorem dX12_mark_41 : decode cX12_mark 41 = .ok (.ireturn, 1) := by decide +kernel
theorem dX12_onward_0 : decode cX12_onward 0 = .ok (.aload_n 0, 1) := by decide +kernel
theorem dX12_onward_1 : decode cX12_onward 1 = .ok (.aload_n 0, 1) := by decide +kernel
theorem dX12_onward_2 : decode cX12_onward 2 = .ok (.getfield 115, 3) := by decide +kernel
theorem dX12_onward_5 : decode cX12_onward 5 = .ok (.invokevirtual 118, 3) := by decide +kernel
theorem dX12_onward_8 : decode cX12_onward 8 = .ok (.bipush 32, 2) := by decide +kernel
theorem dX12_onward_10 : decode cX12_onward 10 = .ok (.if_icmp .eq 16, 3) := by decide +kernel
theorem dX12_onward_13 : decode cX12_onward 13 = .ok (.aload_n 0, 1) := by decide +kernel
theorem dX12_onward_14 : decode cX12_onward 14 = .ok (.aload_n 0, 1) := by decide +kernel
theorem dX12_onward_15 : decode cX12_onward 15 = .ok (.getfield 115, 3) := by decide +kernel
theorem dX12_onward_18 : decode cX12_onward 18 = .ok (.invokevirtual 118, 3) := by decide +kernel
theorem dX12_onward_21 : decode cX12_onward 21 = .ok (.bipush 10, 2) := by decide +kernel
theorem dX12_onward_23 : decode cX12_onward 23 = .ok (.if_icmp .ne 16, 3) := by decide +kernel
theorem dX12_onward_39 : decode cX12_onward 39 = .ok (.aload_n 0, 1) := by decide +kernel
theorem dX12_onward_40 : decode cX12_onward 40 = .ok (.aload_n 0, 1) := by decide +kernel
theorem dX12_onward_41 : decode cX12_onward 41 = .ok (.getfield 115, 3) := by decide +kernel
theorem dX12_onward_44 : decode cX12_onward 44 = .ok (.putfield 121, 3) := by decide +kernel
theorem dX12_onward_47 : decode cX12_onward 47 = .ok (.aload_n 0, 1) := by decide +kernel
theorem dX12_onward_48 : decode cX12_onward 48 = .ok (.aload_n 0, 1) := by decide +kernel
theorem dX12_onward_49 : decode cX12_onward 49 = .ok (.getfield 115, 3) := by decide +kernel
theorem dX12_onward_52 : decode cX12_onward 52 = .ok (.invokevirtual 118, 3) := by decide +kernel
theorem dX12_onward_55 : decode cX12_onward 55 = .ok (.istore_n 1, 1) := by decide +kernel
theorem dX12_onward_56 : decode cX12_onward 56 = .ok (.aload_n 0, 1) := by decide +kernel
theorem dX12_onward_57 : decode cX12_onward 57 = .ok (.iload_n 1, 1) := by decide +kernel
theorem dX12_onward_58 : decode cX12_onward 58 = .ok (.putfield 124, 3) := by decide +kernel
theorem dX12_onward_61 : decode cX12_onward 61 = .ok (.iload_n 1, 1) := by decide +kernel
theorem dX12_onward_62 : decode cX12_onward 62 = .ok (.iconst (-1), 1) := by decide +kernel
theorem dX12_onward_63 : decode cX12_onward 63 = .ok (.if_icmp .ne 11, 3) := by decide +kernel
theorem dX12_onward_66 : decode cX12_onward 66 = .ok (.aload_n 0, 1) := by decide +kernel
theorem dX12_onward_67 : decode cX12_onward 67 = .ok (.iconst 0, 1) := by decide +kernel
theorem dX12_onward_68 : decode cX12_onward 68 = .ok (.putfield 127, 3) := by decide +kernel
theorem dX12_onward_71 : decode cX12_onward 71 = .ok (.goto 180, 3) := by decide +kernel
theorem dX12_onward_251 : decode cX12_onward 251 = .ok (.return_, 1) := by decide +kernel
theorem dX12_pass_0 : decode cX12_pass 0 = .ok (.iload_n 1, 1) := by decide +kernel
theorem dX12_pass_1 : decode cX12_pass 1 = .ok (.i2l, 1) := by decide +kernel
theorem dX12_pass_2 : decode cX12_pass 2 = .ok (.lconst 1, 1) := by decide +kernel
theorem dX12_pass_3 : decode cX12_pass 3 = .ok (.ldc2_w 369, 3) := by decide +kernel
theorem dX12_pass_6 : decode cX12_pass 6 = .ok (.invokestatic 295, 3) := by decide +kernel
theorem dX12_pass_9 : decode cX12_pass 9 = .ok (.ifCond .ne 9, 3) := by decide +kernel
theorem dX12_pass_12 : decode cX12_pass 12 = .ok (.aload_n 0, 1) := by decide +kernel
theorem dX12_pass_13 : decode cX12_pass 13 = .ok (.iconst 1, 1) := by decide +kernel
theorem dX12_pass_14 : decode cX12_pass 14 = .ok (.invokevirtual 81, 3) := by decide +kernel
theorem dX12_pass_17 : decode cX12_pass 17 = .ok (.ireturn, 1) := by decide +kernel
theorem dX12_pass_18 : decode cX12_pass 18 = .ok (.aload_n 0, 1) := by decide +kernel
theorem dX12_pass_19 : decode cX12_pass 19 = .ok (.getfield 7, 3) := by decide +kernel
theorem dX12_pass_22 : decode cX12_pass 22 = .ok (.iconst 3, 1) := by decide +kernel
theorem dX12_pass_23 : decode cX12_pass 23 = .ok (.iaload, 1) := by decide +kernel
theorem dX12_pass_24 : decode cX12_pass 24 = .ok (.iload_n 1, 1) := by decide +kernel
theorem dX12_pass_25 : decode cX12_pass 25 = .ok (.iadd, 1) := by decide +kernel
theorem dX12_pass_26 : decode cX12_pass 26 = .ok (.sipush 400, 3) := by decide +kernel
theorem dX12_pass_29 : decode cX12_pass 29 = .ok (.if_icmp .le 9, 3) := by decide +kernel
theorem dX12_pass_38 : decode cX12_pass 38 = .ok (.iconst 1, 1) := by decide +kernel
theorem dX12_pass_39 : decode cX12_pass 39 = .ok (.istore_n 2, 1) := by decide +kernel
theorem dX12_pass_40 : decode cX12_pass 40 = .ok (.iconst 0, 1) := by decide +kernel
theorem dX12_pass_41 : decode cX12_pass 41 = .ok (.istore_n 3, 1) := by decide +kernel
theorem dX12_pass_42 : decode cX12_pass 42 = .ok (.iload_n 3, 1) := by decide +kernel
theorem dX12_pass_43 : decode cX12_pass 43 = .ok (.iload_n 1, 1) := by decide +kernel
theorem dX12_pass_44 : decode cX12_pass 44 = .ok (.if_icmp .ge 18, 3) := by decide +kernel
theorem dX12_pass_47 : decode cX12_pass 47 = .ok (.iload_n 2, 1) := by decide +kernel
theorem dX12_pass_48 : decode cX12_pass 48 = .ok (.ifCond .eq 14, 3) := by decide +kernel
theorem dX12_pass_51 : decode cX12_pass 51 = .ok (.aload_n 0, 1) := by decide +kernel
theorem dX12_pass_52 : decode cX12_pass 52 = .ok (.invokevirtual 371, 3) := by decide +kernel
theorem dX12_pass_55 : decode cX12_pass 55 = .ok (.istore_n 2, 1) := by decide +kernel
theorem dX12_pass_56 : decode cX12_pass 56 = .ok (.iinc 3 1, 3) := by decide +kernel
theorem dX12_pass_59 : decode cX12_pass 59 = .ok (.goto (-17), 3) := by decide +kernel
theorem dX12_pass_62 : decode cX12_pass 62 = .ok (.aload_n 0, 1) := by decide +kernel
theorem dX12_pass_63 : decode cX12_pass 63 = .ok (.aload_n 0, 1) := by decide +kernel
theorem dX12_pass_64 : decode cX12_pass 64 = .ok (.getfield 7, 3) := by decide +kernel
theorem dX12_pass_67 : decode cX12_pass 67 = .ok (.iconst 3, 1) := by decide +kernel
theorem dX12_pass_68 : decode cX12_pass 68 = .ok (.iaload, 1) := by decide +kernel
theorem dX12_pass_69 : decode cX12_pass 69 = .ok (.invokevirtual 85, 3) := by decide +kernel
theorem dX12_pass_72 : decode cX12_pass 72 = .ok (.ireturn, 1) := by decide +kernel
theorem dX12_peace_0 : decode cX12_peace 0 = .ok (.iload_n 1, 1) := by decide +kernel
theorem dX12_peace_1 : decode cX12_peace 1 = .ok (.invokestatic 258, 3) := by decide +kernel
theorem dX12_peace_4 : decode cX12_peace 4 = .ok (.ifCond .ne 9, 3) := by decide +kernel
theorem dX12_peace_7 : decode cX12_peace 7 = .ok (.aload_n 0, 1) := by decide +kernel
theorem dX12_peace_8 : decode cX12_peace 8 = .ok (.iconst 1, 1) := by decide +kernel
theorem dX12_peace_9 : decode cX12_peace 9 = .ok (.invokevirtual 81, 3) := by decide +kernel
theorem dX12_peace_12 : decode cX12_peace 12 = .ok (.ireturn, 1) := by decide +kernel
theorem dX12_peace_13 : decode cX12_peace 13 = .ok (.aload_n 0, 1) := by decide +kernel
theorem dX12_peace_14 : decode cX12_peace 14 = .ok (.invokevirtual 330, 3) := by decide +kernel
theorem dX12_peace_17 : decode cX12_peace 17 = .ok (.iload_n 1, 1) := by decide +kernel
theorem dX12_peace_18 : decode cX12_peace 18 = .ok (.istore_n 2, 1) := by decide +kernel
theorem dX12_peace_19 : decode cX12_peace 19 = .ok (.iload_n 2, 1) := by decide +kernel
theorem dX12_peace_20 : decode cX12_peace 20 = .ok (.sipush 500, 3) := by decide +kernel
theorem dX12_peace_23 : decode cX12_peace 23 = .ok (.if_icmp .gt 91, 3) := by decide +kernel
theorem dX12_peace_26 : decode cX12_peace 26 = .ok (.aload_n 0, 1) := by decide +kernel
theorem dX12_peace_27 : decode cX12_peace 27 = .ok (.getfield 7, 3) := by decide +kernel
theorem dX12_peace_30 : decode cX12_peace 30 = .ok (.iconst 0, 1) := by decide +kernel
theorem dX12_peace_31 : decode cX12_peace 31 = .ok (.iaload, 1) := by decide +kernel
theorem dX12_peace_32 : decode cX12_peace 32 = .ok (.ifCond .le 7, 3) := by decide +kernel
theorem dX12_peace_39 : decode cX12_peace 39 = .ok (.iconst 0, 1) := by decide +kernel
theorem dX12_peace_40 : decode cX12_peace 40 = .ok (.istore_n 3, 1) := by decide +kernel
theorem dX12_peace_41 : decode cX12_peace 41 = .ok (.iconst 0, 1) := by decide +kernel
theorem dX12_peace_42 : decode cX12_peace 42 = .ok (.istore 4, 2) := by decide +kernel
theorem dX12_peace_44 : decode cX12_peace 44 = .ok (.iload 4, 2) := by decide +kernel
theorem dX12_peace_46 : decode cX12_peace 46 = .ok (.aload_n 0, 1) := by decide +kernel
theorem dX12_peace_47 : decode cX12_peace 47 = .ok (.getfield 7, 3) := by decide +kernel
theorem dX12_peace_50 : decode cX12_peace 50 = .ok (.iconst 0, 1) := by decide +kernel
theorem dX12_peace_51 : decode cX12_peace 51 = .ok (.iaload, 1) := by decide +kernel
theorem dX12_peace_52 : decode cX12_peace 52 = .ok (.if_icmp .ge 46, 3) := by decide +kernel
theorem dX12_peace_98 : decode cX12_peace 98 = .ok (.iload_n 3, 1) := by decide +kernel
theorem dX12_peace_99 : decode cX12_peace 99 = .ok (.ifCond .eq 9, 3) := by decide +kernel
theorem dX12_peace_108 : decode cX12_peace 108 = .ok (.iinc 2 1, 3) := by decide +kernel
theorem dX12_peace_111 : decode cX12_peace 111 = .ok (.goto (-92), 3) := by decide +kernel
theorem dX12_peace_114 : decode cX12_peace 114 = .ok (.aload_n 0, 1) := by decide +kernel
theorem dX12_peace_115 : decode cX12_peace 115 = .ok (.bipush 6, 2) := by decide +kernel
theorem dX12_peace_117 : decode cX12_peace 117 = .ok (.invokevirtual 81, 3) := by decide +kernel
theorem dX12_peace_120 : decode cX12_peace 120 = .ok (.ireturn, 1) := by decide +kernel
theorem dX12_plain_0 : decode cX12_plain 0 = .ok (.iconst 0, 1) := by decide +kernel
theorem dX12_plain_1 : decode cX12_plain 1 = .ok (.istore_n 2, 1) := by decide +kernel
theorem dX12_plain_2 : decode cX12_plain 2 = .ok (.iload_n 2, 1) := by decide +kernel
theorem dX12_plain_3 : decode cX12_plain 3 = .ok (.sipush 890, 3) := by decide +kernel
theorem dX12_plain_6 : decode cX12_plain 6 = .ok (.if_icmp .ge 18, 3) := by decide +kernel
theorem dX12_plain_9 : decode cX12_plain 9 = .ok (.aload_n 0, 1) := by decide +kernel
theorem dX12_plain_10 : decode cX12_plain 10 = .ok (.getfield 7, 3) := by decide +kernel
theorem dX12_plain_13 : decode cX12_plain 13 = .ok (.iload_n 1, 1) := by decide +kernel
theorem dX12_plain_14 : decode cX12_plain 14 = .ok (.iload_n 2, 1) := by decide +kernel
theorem dX12_plain_15 : decode cX12_plain 15 = .ok (.iadd, 1) := by decide +kernel
theorem dX12_plain_16 : decode cX12_plain 16 = .ok (.iconst 0, 1) := by decide +kernel
theorem dX12_plain_17 : decode cX12_plain 17 = .ok (.iastore, 1) := by decide +kernel
theorem dX12_plain_18 : decode cX12_plain 18 = .ok (.iinc 2 1, 3) := by decide +kernel
theorem dX12_plain_21 : decode cX12_plain 21 = .ok (.goto (-19), 3) := by decide +kernel
theorem dX12_plain_24 : decode cX12_plain 24 = .ok (.aload_n 0, 1) := by decide +kernel
theorem dX12_plain_25 : decode cX12_plain 25 = .ok (.getfield 7, 3) := by decide +kernel
theorem dX12_plain_28 : decode cX12_plain 28 = .ok (.iload_n 1, 1) := by decide +kernel
theorem dX12_plain_29 : decode cX12_plain 29 = .ok (.iconst 5, 1) := by decide +kernel
theorem dX12_plain_30 : decode cX12_plain 30 = .ok (.iadd, 1) := by decide +kernel
theorem dX12_plain_31 : decode cX12_plain 31 = .ok (.iconst (-1), 1) := by decide +kernel
theorem dX12_plain_32 : decode cX12_plain 32 = .ok (.iastore, 1) := by decide +kernel
theorem dX12_plain_33 : decode cX12_plain 33 = .ok (.return_, 1) := by decide +kernel
theorem dX12_pour_0 : decode cX12_pour 0 = .ok (.iload_n 1, 1) := by decide +kernel
theorem dX12_pour_1 : decode cX12_pour 1 = .ok (.invokestatic 93, 3) := by decide +kernel
theorem dX12_pour_4 : decode cX12_pour 4 = .ok (.ifCond .eq 24, 3) := by decide +kernel
theorem dX12_pour_7 : decode cX12_pour 7 = .ok (.iload_n 3, 1) := by decide +kernel
theorem dX12_pour_8 : decode cX12_pour 8 = .ok (.invokestatic 93, 3) := by decide +kernel
theorem dX12_pour_11 : decode cX12_pour 11 = .ok (.ifCond .eq 17, 3) := by decide +kernel
theorem dX12_pour_14 : decode cX12_pour 14 = .ok (.iload_n 2, 1) := by decide +kernel
theorem dX12_pour_15 : decode cX12_pour 15 = .ok (.ifCond .lt 13, 3) := by decide +kernel
theorem dX12_pour_18 : decode cX12_pour 18 = .ok (.iload 4, 2) := by decide +kernel
theorem dX12_pour_20 : decode cX12_pour 20 = .ok (.ifCond .lt 8, 3) := by decide +kernel
theorem dX12_pour_23 : decode cX12_pour 23 = .ok (.iload 5, 2) := by decide +kernel
theorem dX12_pour_25 : decode cX12_pour 25 = .ok (.ifCond .ge 9, 3) := by decide +kernel
theorem dX12_pour_28 : decode cX12_pour 28 = .ok (.aload_n 0, 1) := by decide +kernel
theorem dX12_pour_29 : decode cX12_pour 29 = .ok (.iconst 1, 1) := by decide +kernel
theorem dX12_pour_30 : decode cX12_pour 30 = .ok (.invokevirtual 89, 3) := by decide +kernel
theorem dX12_pour_33 : decode cX12_pour 33 = .ok (.ireturn, 1) := by decide +kernel
theorem dX12_pour_34 : decode cX12_pour 34 = .ok (.aload_n 0, 1) := by decide +kernel
theorem dX12_pour_35 : decode cX12_pour 35 = .ok (.getfield 24, 3) := by decide +kernel
theorem dX12_pour_38 : decode cX12_pour 38 = .ok (.iload_n 1, 1) := by decide +kernel
theorem dX12_pour_39 : decode cX12_pour 39 = .ok (.iaload, 1) := by decide +kernel
theorem dX12_pour_40 : decode cX12_pour 40 = .ok (.iconst (-1), 1) := by decide +kernel
theorem dX12_pour_41 : decode cX12_pour 41 = .ok (.if_icmp .eq 13, 3) := by decide +kernel
theorem dX12_pour_54 : decode cX12_pour 54 = .ok (.aload_n 0, 1) := by decide +kernel
theorem dX12_pour_55 : decode cX12_pour 55 = .ok (.iconst 2, 1) := by decide +kernel
theorem dX12_pour_56 : decode cX12_pour 56 = .ok (.invokevirtual 89, 3) := by decide +kernel
theorem dX12_pour_59 : decode cX12_pour 59 = .ok (.ireturn, 1) := by decide +kernel
theorem dX12_read_0 : decode cX12_read 0 = .ok (.aload_n 0, 1) := by decide +kernel
theorem dX12_read_1 : decode cX12_read 1 = .ok (.aload_n 0, 1) := by decide +kernel
theorem dX12_read_2 : decode cX12_read 2 = .ok (.iload_n 1, 1) := by decide +kernel
theorem dX12_read_3 : decode cX12_read 3 = .ok (.iload_n 2, 1) := by decide +kernel
theorem dX12_read_4 : decode cX12_read 4 = .ok (.invokevirtual 96, 3) := by decide +kernel
theorem dX12_read_7 : decode cX12_read 7 = .ok (.putfield 75, 3) := by decide +kernel
theorem dX12_read_10 : decode cX12_read 10 = .ok (.aload_n 0, 1) := by decide +kernel
theorem dX12_read_11 : decode cX12_read 11 = .ok (.getfield 75, 3) := by decide +kernel
theorem dX12_read_14 : decode cX12_read 14 = .ok (.ifCond .le 9, 3) := by decide +kernel
theorem dX12_read_17 : decode cX12_read 17 = .ok (.ldc2_w 104, 3) := by decide +kernel
theorem dX12_read_20 : decode cX12_read 20 = .ok (.goto 14, 3) := by decide +kernel
theorem dX12_read_34 : decode cX12_read 34 = .ok (.lreturn, 1) := by decide +kernel
theorem dX12_sky_0 : decode cX12_sky 0 = .ok (.aload_n 0, 1) := by decide +kernel
theorem dX12_sky_1 : decode cX12_sky 1 = .ok (.iload_n 1, 1) := by decide +kernel
theorem dX12_sky_2 : decode cX12_sky 2 = .ok (.sipush 900, 3) := by decide +kernel
theorem dX12_sky_5 : decode cX12_sky 5 = .ok (.invokevirtual 215, 3) := by decide +kernel
theorem dX12_sky_8 : decode cX12_sky 8 = .ok (.ifCond .ne 9, 3) := by decide +kernel
theorem dX12_sky_11 : decode cX12_sky 11 = .ok (.aload_n 0, 1) := by decide +kernel
theorem dX12_sky_12 : decode cX12_sky 12 = .ok (.iconst 1, 1) := by decide +kernel
theorem dX12_sky_13 : decode cX12_sky 13 = .ok (.invokevirtual 81, 3) := by decide +kernel
theorem dX12_sky_16 : decode cX12_sky 16 = .ok (.ireturn, 1) := by decide +kernel
theorem dX12_sky_17 : decode cX12_sky 17 = .ok (.aload_n 0, 1) := by decide +kernel
theorem dX12_sky_18 : decode cX12_sky 18 = .ok (.sipush 3560, 3) := by decide +kernel
theorem dX12_sky_21 : decode cX12_sky 21 = .ok (.invokevirtual 71, 3) := by decide +kernel
theorem dX12_sky_24 : decode cX12_sky 24 = .ok (.aload_n 0, 1) := by decide +kernel
theorem dX12_sky_25 : decode cX12_sky 25 = .ok (.iconst 0, 1) := by decide +kernel
theorem dX12_sky_26 : decode cX12_sky 26 = .ok (.putfield 198, 3) := by decide +kernel
theorem dX12_sky_29 : decode cX12_sky 29 = .ok (.iconst 1, 1) := by decide +kernel
theorem dX12_sky_30 : decode cX12_sky 30 = .ok (.istore_n 2, 1) := by decide +kernel
theorem dX12_sky_31 : decode cX12_sky 31 = .ok (.iload_n 2, 1) := by decide +kernel
theorem dX12_sky_32 : decode cX12_sky 32 = .ok (.ifCond .eq 18, 3) := by decide +kernel
theorem dX12_sky_35 : decode cX12_sky 35 = .ok (.aload_n 0, 1) := by decide +kernel
theorem dX12_sky_36 : decode cX12_sky 36 = .ok (.getfield 127, 3) := by decide +kernel
theorem dX12_sky_39 : decode cX12_sky 39 = .ok (.ifCond .eq 11, 3) := by decide +kernel
theorem dX12_sky_50 : decode cX12_sky 50 = .ok (.aload_n 0, 1) := by decide +kernel
theorem dX12_sky_51 : decode cX12_sky 51 = .ok (.getfield 152, 3) := by decide +kernel
theorem dX12_sky_54 : decode cX12_sky 54 = .ok (.ifCond .ne 63, 3) := by decide +kernel
theorem dX12_sky_57 : decode cX12_sky 57 = .ok (.iconst 0, 1) := by decide +kernel
theorem dX12_sky_58 : decode cX12_sky 58 = .ok (.istore_n 3, 1) := by decide +kernel
theorem dX12_sky_59 : decode cX12_sky 59 = .ok (.iload_n 3, 1) := by decide +kernel
theorem dX12_sky_60 : decode cX12_sky 60 = .ok (.sipush 890, 3) := by decide +kernel
theorem dX12_sky_63 : decode cX12_sky 63 = .ok (.if_icmp .ge 25, 3) := by decide +kernel
theorem dX12_sky_66 : decode cX12_sky 66 = .ok (.aload_n 0, 1) := by decide +kernel
theorem dX12_sky_67 : decode cX12_sky 67 = .ok (.getfield 7, 3) := by decide +kernel
theorem dX12_sky_70 : decode cX12_sky 70 = .ok (.iload_n 3, 1) := by decide +kernel
theorem dX12_sky_71 : decode cX12_sky 71 = .ok (.aload_n 0, 1) := by decide +kernel
theorem dX12_sky_72 : decode cX12_sky 72 = .ok (.getfield 7, 3) := by decide +kernel
theorem dX12_sky_75 : decode cX12_sky 75 = .ok (.sipush 3560, 3) := by decide +kernel
theorem dX12_sky_78 : decode cX12_sky 78 = .ok (.iload_n 3, 1) := by decide +kernel
theorem dX12_sky_79 : decode cX12_sky 79 = .ok (.iadd, 1) := by decide +kernel
theorem dX12_sky_80 : decode cX12_sky 80 = .ok (.iaload, 1) := by decide +kernel
theorem dX12_sky_81 : decode cX12_sky 81 = .ok (.iastore, 1) := by decide +kernel
theorem dX12_sky_82 : decode cX12_sky 82 = .ok (.iinc 3 1, 3) := by decide +kernel
theorem dX12_sky_85 : decode cX12_sky 85 = .ok (.goto (-26), 3) := by decide +kernel
theorem dX12_sky_88 : decode cX12_sky 88 = .ok (.iconst 0, 1) := by decide +kernel
theorem dX12_sky_89 : decode cX12_sky 89 = .ok (.istore_n 3, 1) := by decide +kernel
theorem dX12_sky_90 : decode cX12_sky 90 = .ok (.iload_n 3, 1) := by decide +kernel
theorem dX12_sky_91 : decode cX12_sky 91 = .ok (.bipush 6, 2) := by decide +kernel
theorem dX12_sky_93 : decode cX12_sky 93 = .ok (.if_icmp .ge 24, 3) := by decide +kernel
theorem dX12_sky_96 : decode cX12_sky 96 = .ok (.aload_n 0, 1) := by decide +kernel
theorem dX12_sky_97 : decode cX12_sky 97 = .ok (.getfield 13, 3) := by decide +kernel
theorem dX12_sky_100 : decode cX12_sky 100 = .ok (.iload_n 3, 1) := by decide +kernel
theorem dX12_sky_101 : decode cX12_sky 101 = .ok (.aload_n 0, 1) := by decide +kernel
theorem dX12_sky_102 : decode cX12_sky 102 = .ok (.getfield 13, 3) := by decide +kernel
theorem dX12_sky_105 : decode cX12_sky 105 = .ok (.bipush 24, 2) := by decide +kernel
theorem dX12_sky_107 : decode cX12_sky 107 = .ok (.iload_n 3, 1) := by decide +kernel
theorem dX12_sky_108 : decode cX12_sky 108 = .ok (.iadd, 1) := by decide +kernel
theorem dX12_sky_109 : decode cX12_sky 109 = .ok (.laload, 1) := by decide +kernel
theorem dX12_sky_110 : decode cX12_sky 110 = .ok (.lastore, 1) := by decide +kernel
theorem dX12_sky_111 : decode cX12_sky 111 = .ok (.iinc 3 1, 3) := by decide +kernel
theorem dX12_sky_114 : decode cX12_sky 114 = .ok (.goto (-24), 3) := by decide +kernel
theorem dX12_sky_117 : decode cX12_sky 117 = .ok (.aload_n 0, 1) := by decide +kernel
theorem dX12_sky_118 : decode cX12_sky 118 = .ok (.aload_n 0, 1) := by decide +kernel
theorem dX12_sky_119 : decode cX12_sky 119 = .ok (.getfield 7, 3) := by decide +kernel
theorem dX12_sky_122 : decode cX12_sky 122 = .ok (.iconst 0, 1) := by decide +kernel
theorem dX12_sky_123 : decode cX12_sky 123 = .ok (.iaload, 1) := by decide +kernel
theorem dX12_sky_124 : decode cX12_sky 124 = .ok (.invokevirtual 222, 3) := by decide +kernel
theorem dX12_sky_127 : decode cX12_sky 127 = .ok (.ireturn, 1) := by decide +kernel
theorem dX12_taken_0 : decode cX12_taken 0 = .ok (.aload_n 0, 1) := by decide +kernel
theorem dX12_taken_1 : decode cX12_taken 1 = .ok (.aload_n 0, 1) := by decide +kernel
theorem dX12_taken_2 : decode cX12_taken 2 = .ok (.getfield 152, 3) := by decide +kernel
theorem dX12_taken_5 : decode cX12_taken 5 = .ok (.putfield 37, 3) := by decide +kernel
theorem dX12_taken_8 : decode cX12_taken 8 = .ok (.aload_n 0, 1) := by decide +kernel
theorem dX12_taken_9 : decode cX12_taken 9 = .ok (.getfield 152, 3) := by decide +kernel
theorem dX12_taken_12 : decode cX12_taken 12 = .ok (.ifCond .le 12, 3) := by decide +kernel
theorem dX12_taken_24 : decode cX12_taken 24 = .ok (.aload_n 0, 1) := by decide +kernel
theorem dX12_taken_25 : decode cX12_taken 25 = .ok (.iload_n 1, 1) := by decide +kernel
theorem dX12_taken_26 : decode cX12_taken 26 = .ok (.invokevirtual 85, 3) := by decide +kernel
theorem dX12_taken_29 : decode cX12_taken 29 = .ok (.ireturn, 1) := by decide +kernel
theorem dX12_told_0 : decode cX12_told 0 = .ok (.iload_n 1, 1) := by decide +kernel
theorem dX12_told_1 : decode cX12_told 1 = .ok (.ifCond .lt 8, 3) := by decide +kernel
theorem dX12_told_4 : decode cX12_told 4 = .ok (.iload_n 1, 1) := by decide +kernel
theorem dX12_told_5 : decode cX12_told 5 = .ok (.iconst 5, 1) := by decide +kernel
theorem dX12_told_6 : decode cX12_told 6 = .ok (.if_icmp .le 9, 3) := by decide +kernel
theorem dX12_told_9 : decode cX12_told 9 = .ok (.aload_n 0, 1) := by decide +kernel
theorem dX12_told_10 : decode cX12_told 10 = .ok (.iconst 1, 1) := by decide +kernel
theorem dX12_told_11 : decode cX12_told 11 = .ok (.invokevirtual 81, 3) := by decide +kernel
theorem dX12_told_14 : decode cX12_told 14 = .ok (.ireturn, 1) := by decide +kernel
theorem dX12_told_15 : decode cX12_told 15 = .ok (.aload_n 0, 1) := by decide +kernel
theorem dX12_told_16 : decode cX12_told 16 = .ok (.iload_n 1, 1) := by decide +kernel
theorem dX12_told_17 : decode cX12_told 17 = .ok (.iconst 5, 1) := by decide +kernel
theorem dX12_told_18 : decode cX12_told 18 = .ok (.if_icmp .ne 20, 3) := by decide +kernel
theorem dX12_told_21 : decode cX12_told 21 = .ok (.aload_n 0, 1) := by decide +kernel
theorem dX12_told_22 : decode cX12_told 22 = .ok (.getfield 7, 3) := by decide +kernel
theorem dX12_told_25 : decode cX12_told 25 = .ok (.bipush 118, 2) := by decide +kernel
theorem dX12_told_27 : decode cX12_told 27 = .ok (.aload_n 0, 1) := by decide +kernel
theorem dX12_told_28 : decode cX12_told 28 = .ok (.getfield 7, 3) := by decide +kernel
theorem dX12_told_31 : decode cX12_told 31 = .ok (.iconst 3, 1) := by decide +kernel
theorem dX12_told_32 : decode cX12_told 32 = .ok (.iaload, 1) := by decide +kernel
theorem dX12_told_33 : decode cX12_told 33 = .ok (.iadd, 1) := by decide +kernel
theorem dX12_told_34 : decode cX12_told 34 = .ok (.iaload, 1) := by decide +kernel
theorem dX12_told_35 : decode cX12_told 35 = .ok (.goto 9, 3) := by decide +kernel
theorem dX12_told_38 : decode cX12_told 38 = .ok (.aload_n 0, 1) := by decide +kernel
theorem dX12_told_39 : decode cX12_told 39 = .ok (.getfield 7, 3) := by decide +kernel
theorem dX12_told_42 : decode cX12_told 42 = .ok (.iload_n 1, 1) := by decide +kernel
theorem dX12_told_43 : decode cX12_told 43 = .ok (.iaload, 1) := by decide +kernel
theorem dX12_told_44 : decode cX12_told 44 = .ok (.invokevirtual 85, 3) := by decide +kernel
theorem dX12_told_47 : decode cX12_told 47 = .ok (.ireturn, 1) := by decide +kernel
theorem dX12_tray_0 : decode cX12_tray 0 = .ok (.iload_n 1, 1) := by decide +kernel
theorem dX12_tray_1 : decode cX12_tray 1 = .ok (.invokestatic 93, 3) := by decide +kernel
theorem dX12_tray_4 : decode cX12_tray 4 = .ok (.ifCond .eq 22, 3) := by decide +kernel
theorem dX12_tray_7 : decode cX12_tray 7 = .ok (.iload_n 2, 1) := by decide +kernel
theorem dX12_tray_8 : decode cX12_tray 8 = .ok (.ifCond .lt 18, 3) := by decide +kernel
theorem dX12_tray_11 : decode cX12_tray 11 = .ok (.iload_n 2, 1) := by decide +kernel
theorem dX12_tray_12 : decode cX12_tray 12 = .ok (.iconst 3, 1) := by decide +kernel
theorem dX12_tray_13 : decode cX12_tray 13 = .ok (.if_icmp .gt 13, 3) := by decide +kernel
theorem dX12_tray_16 : decode cX12_tray 16 = .ok (.iload_n 3, 1) := by decide +kernel
theorem dX12_tray_17 : decode cX12_tray 17 = .ok (.ifCond .lt 9, 3) := by decide +kernel
theorem dX12_tray_20 : decode cX12_tray 20 = .ok (.iload_n 3, 1) := by decide +kernel
theorem dX12_tray_21 : decode cX12_tray 21 = .ok (.bipush 60, 2) := by decide +kernel
theorem dX12_tray_23 : decode cX12_tray 23 = .ok (.if_icmp .le 9, 3) := by decide +kernel
theorem dX12_tray_26 : decode cX12_tray 26 = .ok (.aload_n 0, 1) := by decide +kernel
theorem dX12_tray_27 : decode cX12_tray 27 = .ok (.iconst 1, 1) := by decide +kernel
theorem dX12_tray_28 : decode cX12_tray 28 = .ok (.invokevirtual 89, 3) := by decide +kernel
theorem dX12_tray_31 : decode cX12_tray 31 = .ok (.ireturn, 1) := by decide +kernel
theorem dX12_tray_32 : decode cX12_tray 32 = .ok (.aload_n 0, 1) := by decide +kernel
theorem dX12_tray_33 : decode cX12_tray 33 = .ok (.getfield 21, 3) := by decide +kernel
theorem dX12_tray_36 : decode cX12_tray 36 = .ok (.iload_n 1, 1) := by decide +kernel
theorem dX12_tray_37 : decode cX12_tray 37 = .ok (.iload_n 2, 1) := by decide +kernel
theorem dX12_tray_38 : decode cX12_tray 38 = .ok (.iastore, 1) := by decide +kernel
theorem dX12_tray_39 : decode cX12_tray 39 = .ok (.aload_n 0, 1) := by decide +kernel
theorem dX12_tray_40 : decode cX12_tray 40 = .ok (.getfield 24, 3) := by decide +kernel
theorem dX12_tray_43 : decode cX12_tray 43 = .ok (.iload_n 1, 1) := by decide +kernel
theorem dX12_tray_44 : decode cX12_tray 44 = .ok (.iload_n 3, 1) := by decide +kernel
theorem dX12_tray_45 : decode cX12_tray 45 = .ok (.iastore, 1) := by decide +kernel
theorem dX12_tray_46 : decode cX12_tray 46 = .ok (.iconst 0, 1) := by decide +kernel
theorem dX12_tray_47 : decode cX12_tray 47 = .ok (.istore 4, 2) := by decide +kernel
theorem dX12_tray_49 : decode cX12_tray 49 = .ok (.iload 4, 2) := by decide +kernel
theorem dX12_tray_51 : decode cX12_tray 51 = .ok (.iload_n 3, 1) := by decide +kernel
theorem dX12_tray_52 : decode cX12_tray 52 = .ok (.if_icmp .ge 22, 3) := by decide +kernel
theorem dX12_tray_55 : decode cX12_tray 55 = .ok (.aload_n 0, 1) := by decide +kernel
theorem dX12_tray_56 : decode cX12_tray 56 = .ok (.getfield 27, 3) := by decide +kernel
theorem dX12_tray_59 : decode cX12_tray 59 = .ok (.bipush 60, 2) := by decide +kernel
theorem dX12_tray_61 : decode cX12_tray 61 = .ok (.iload_n 1, 1) := by decide +kernel
theorem dX12_tray_62 : decode cX12_tray 62 = .ok (.imul, 1) := by decide +kernel
theorem dX12_tray_63 : decode cX12_tray 63 = .ok (.iload 4, 2) := by decide +kernel
theorem dX12_tray_65 : decode cX12_tray 65 = .ok (.iadd, 1) := by decide +kernel
theorem dX12_tray_66 : decode cX12_tray 66 = .ok (.lconst 0, 1) := by decide +kernel
theorem dX12_tray_67 : decode cX12_tray 67 = .ok (.lastore, 1) := by decide +kernel
theorem dX12_tray_68 : decode cX12_tray 68 = .ok (.iinc 4 1, 3) := by decide +kernel
theorem dX12_tray_71 : decode cX12_tray 71 = .ok (.goto (-22), 3) := by decide +kernel
theorem dX12_tray_74 : decode cX12_tray 74 = .ok (.aload_n 0, 1) := by decide +kernel
theorem dX12_tray_75 : decode cX12_tray 75 = .ok (.iconst 0, 1) := by decide +kernel
theorem dX12_tray_76 : decode cX12_tray 76 = .ok (.invokevirtual 89, 3) := by decide +kernel
theorem dX12_tray_79 : decode cX12_tray 79 = .ok (.ireturn, 1) := by decide +kernel
theorem dX12_write_0 : decode cX12_write 0 = .ok (.aload_n 0, 1) := by decide +kernel
theorem dX12_write_1 : decode cX12_write 1 = .ok (.iload_n 1, 1) := by decide +kernel
theorem dX12_write_2 : decode cX12_write 2 = .ok (.iload_n 2, 1) := by decide +kernel
theorem dX12_write_3 : decode cX12_write 3 = .ok (.invokevirtual 96, 3) := by decide +kernel
theorem dX12_write_6 : decode cX12_write 6 = .ok (.istore 5, 2) := by decide +kernel
theorem dX12_write_8 : decode cX12_write 8 = .ok (.iload 5, 2) := by decide +kernel
theorem dX12_write_10 : decode cX12_write 10 = .ok (.ifCond .ne 24, 3) := by decide +kernel
theorem dX12_write_34 : decode cX12_write 34 = .ok (.aload_n 0, 1) := by decide +kernel
theorem dX12_write_35 : decode cX12_write 35 = .ok (.iload 5, 2) := by decide +kernel
theorem dX12_write_37 : decode cX12_write 37 = .ok (.invokevirtual 89, 3) := by decide +kernel
theorem dX12_write_40 : decode cX12_write 40 = .ok (.ireturn, 1) := by decide +kernel
theorem dX12_wrongPlace_0 : decode cX12_wrongPlace 0 = .ok (.iload_n 1, 1) := by decide +kernel
theorem dX12_wrongPlace_1 : decode cX12_wrongPlace 1 = .ok (.invokestatic 93, 3) := by decide +kernel
theorem dX12_wrongPlace_4 : decode cX12_wrongPlace 4 = .ok (.ifCond .ne 7, 3) := by decide +kernel
theorem dX12_wrongPlace_7 : decode cX12_wrongPlace 7 = .ok (.iconst 1, 1) := by decide +kernel
theorem dX12_wrongPlace_8 : decode cX12_wrongPlace 8 = .ok (.goto 36, 3) := by decide +kernel
theorem dX12_wrongPlace_11 : decode cX12_wrongPlace 11 = .ok (.aload_n 0, 1) := by decide +kernel
theorem dX12_wrongPlace_12 : decode cX12_wrongPlace 12 = .ok (.getfield 24, 3) := by decide +kernel
theorem dX12_wrongPlace_15 : decode cX12_wrongPlace 15 = .ok (.iload_n 1, 1) := by decide +kernel
theorem dX12_wrongPlace_16 : decode cX12_wrongPlace 16 = .ok (.iaload, 1) := by decide +kernel
theorem dX12_wrongPlace_17 : decode cX12_wrongPlace 17 = .ok (.iconst (-1), 1) := by decide +kernel
theorem dX12_wrongPlace_18 : decode cX12_wrongPlace 18 = .ok (.if_icmp .ne 7, 3) := by decide +kernel
theorem dX12_wrongPlace_21 : decode cX12_wrongPlace 21 = .ok (.iconst 2, 1) := by decide +kernel
theorem dX12_wrongPlace_22 : decode cX12_wrongPlace 22 = .ok (.goto 22, 3) := by decide +kernel
theorem dX12_wrongPlace_44 : decode cX12_wrongPlace 44 = .ok (.ireturn, 1) := by decide +kernel
theorem dX12_years_0 : decode cX12_years 0 = .ok (.aload_n 0, 1) := by decide +kernel
theorem dX12_years_1 : decode cX12_years 1 = .ok (.iload_n 1, 1) := by decide +kernel
theorem dX12_years_2 : decode cX12_years 2 = .ok (.sipush 300, 3) := by decide +kernel
theorem dX12_years_5 : decode cX12_years 5 = .ok (.invokevirtual 215, 3) := by decide +kernel
theorem dX12_years_8 : decode cX12_years 8 = .ok (.ifCond .ne 9, 3) := by decide +kernel
theorem dX12_years_11 : decode cX12_years 11 = .ok (.aload_n 0, 1) := by decide +kernel
theorem dX12_years_12 : decode cX12_years 12 = .ok (.iconst 1, 1) := by decide +kernel
theorem dX12_years_13 : decode cX12_years 13 = .ok (.invokevirtual 81, 3) := by decide +kernel
theorem dX12_years_16 : decode cX12_years 16 = .ok (.ireturn, 1) := by decide +kernel
theorem dX12_years_17 : decode cX12_years 17 = .ok (.aload_n 0, 1) := by decide +kernel
theorem dX12_years_18 : decode cX12_years 18 = .ok (.getfield 7, 3) := by decide +kernel
theorem dX12_years_21 : decode cX12_years 21 = .ok (.sipush 3565, 3) := by decide +kernel
theorem dX12_years_24 : decode cX12_years 24 = .ok (.iconst 0, 1) := by decide +kernel
theorem dX12_years_25 : decode cX12_years 25 = .ok (.iastore, 1) := by decide +kernel
theorem dX12_years_26 : decode cX12_years 26 = .ok (.aload_n 0, 1) := by decide +kernel
theorem dX12_years_27 : decode cX12_years 27 = .ok (.iconst 0, 1) := by decide +kernel
theorem dX12_years_28 : decode cX12_years 28 = .ok (.putfield 231, 3) := by decide +kernel
theorem dX12_years_31 : decode cX12_years 31 = .ok (.aload_n 0, 1) := by decide +kernel
theorem dX12_years_32 : decode cX12_years 32 = .ok (.iconst 0, 1) := by decide +kernel
theorem dX12_years_33 : decode cX12_years 33 = .ok (.putfield 234, 3) := by decide +kernel
theorem dX12_years_36 : decode cX12_years 36 = .ok (.iconst 1, 1) := by decide +kernel
theorem dX12_years_37 : decode cX12_years 37 = .ok (.istore_n 2, 1) := by decide +kernel
theorem dX12_years_38 : decode cX12_years 38 = .ok (.iload_n 2, 1) := by decide +kernel
theorem dX12_years_39 : decode cX12_years 39 = .ok (.ifCond .eq 18, 3) := by decide +kernel
theorem dX12_years_42 : decode cX12_years 42 = .ok (.aload_n 0, 1) := by decide +kernel
theorem dX12_years_43 : decode cX12_years 43 = .ok (.getfield 127, 3) := by decide +kernel
theorem dX12_years_46 : decode cX12_years 46 = .ok (.ifCond .eq 11, 3) := by decide +kernel
theorem dX12_years_57 : decode cX12_years 57 = .ok (.aload_n 0, 1) := by decide +kernel
theorem dX12_years_58 : decode cX12_years 58 = .ok (.getfield 152, 3) := by decide +kernel
theorem dX12_years_61 : decode cX12_years 61 = .ok (.ifCond .ne 16, 3) := by decide +kernel
theorem dX12_years_64 : decode cX12_years 64 = .ok (.aload_n 0, 1) := by decide +kernel
theorem dX12_years_65 : decode cX12_years 65 = .ok (.getfield 231, 3) := by decide +kernel
theorem dX12_years_68 : decode cX12_years 68 = .ok (.ifCond .le 9, 3) := by decide +kernel
theorem dX12_years_77 : decode cX12_years 77 = .ok (.aload_n 0, 1) := by decide +kernel
theorem dX12_years_78 : decode cX12_years 78 = .ok (.getfield 152, 3) := by decide +kernel
theorem dX12_years_81 : decode cX12_years 81 = .ok (.ifCond .ne 50, 3) := by decide +kernel
theorem dX12_years_84 : decode cX12_years 84 = .ok (.aload_n 0, 1) := by decide +kernel
theorem dX12_years_85 : decode cX12_years 85 = .ok (.getfield 7, 3) := by decide +kernel
theorem dX12_years_88 : decode cX12_years 88 = .ok (.iconst 5, 1) := by decide +kernel
theorem dX12_years_89 : decode cX12_years 89 = .ok (.aload_n 0, 1) := by decide +kernel
theorem dX12_years_90 : decode cX12_years 90 = .ok (.getfield 7, 3) := by decide +kernel
theorem dX12_years_93 : decode cX12_years 93 = .ok (.sipush 3565, 3) := by decide +kernel
theorem dX12_years_96 : decode cX12_years 96 = .ok (.iaload, 1) := by decide +kernel
theorem dX12_years_97 : decode cX12_years 97 = .ok (.iastore, 1) := by decide +kernel
theorem dX12_years_98 : decode cX12_years 98 = .ok (.sipush 520, 3) := by decide +kernel
theorem dX12_years_101 : decode cX12_years 101 = .ok (.istore_n 3, 1) := by decide +kernel
theorem dX12_years_102 : decode cX12_years 102 = .ok (.iload_n 3, 1) := by decide +kernel
theorem dX12_years_103 : decode cX12_years 103 = .ok (.sipush 884, 3) := by decide +kernel
theorem dX12_years_106 : decode cX12_years 106 = .ok (.if_icmp .ge 25, 3) := by decide +kernel
theorem dX12_years_109 : decode cX12_years 109 = .ok (.aload_n 0, 1) := by decide +kernel
theorem dX12_years_110 : decode cX12_years 110 = .ok (.getfield 7, 3) := by decide +kernel
theorem dX12_years_113 : decode cX12_years 113 = .ok (.iload_n 3, 1) := by decide +kernel
theorem dX12_years_114 : decode cX12_years 114 = .ok (.aload_n 0, 1) := by decide +kernel
theorem dX12_years_115 : decode cX12_years 115 = .ok (.getfield 7, 3) := by decide +kernel
theorem dX12_years_118 : decode cX12_years 118 = .ok (.sipush 3560, 3) := by decide +kernel
theorem dX12_years_121 : decode cX12_years 121 = .ok (.iload_n 3, 1) := by decide +kernel
theorem dX12_years_122 : decode cX12_years 122 = .ok (.iadd, 1) := by decide +kernel
theorem dX12_years_123 : decode cX12_years 123 = .ok (.iaload, 1) := by decide +kernel
theorem dX12_years_124 : decode cX12_years 124 = .ok (.iastore, 1) := by decide +kernel
theorem dX12_years_125 : decode cX12_years 125 = .ok (.iinc 3 1, 3) := by decide +kernel
theorem dX12_years_128 : decode cX12_years 128 = .ok (.goto (-26), 3) := by decide +kernel
theorem dX12_years_131 : decode cX12_years 131 = .ok (.aload_n 0, 1) := by decide +kernel
theorem dX12_years_132 : decode cX12_years 132 = .ok (.aload_n 0, 1) := by decide +kernel
theorem dX12_years_133 : decode cX12_years 133 = .ok (.getfield 234, 3) := by decide +kernel
theorem dX12_years_136 : decode cX12_years 136 = .ok (.invokevirtual 222, 3) := by decide +kernel
theorem dX12_years_139 : decode cX12_years 139 = .ok (.ireturn, 1) := by decide +kernel
