theorem qf_J0_38 : Cond.fieldLink RJ0 38 "java/lang/String" "COMPACT_STRINGS" "Z" ∈ gw := tbt (tb1 (List.mem_of_getElem? (i := 200) rfl)) rfl
theorem qf_J0_15 : Cond.fieldLink RJ0 15 "java/lang/String" "coder" "B" ∈ gw := tbt (tb9 (List.mem_of_getElem? (i := 52) rfl)) rfl
theorem qf_J0_9 : Cond.fieldLink RJ0 9 "java/lang/String" "value" "[B" ∈ gw := tbt (tb9 (List.mem_of_getElem? (i := 51) rfl)) rfl
theorem qc_J0_coder_7d493 : Cond.code yJ0_coder_7d493 cJ0_coder_7d493 1 (some .byte) ∈ gw := tbt (tb1 (List.mem_of_getElem? (i := 199) rfl)) rfl
theorem qi_yJ0_coder_7d493 : Cond.instanceMethod yJ0_coder_7d493 ∈ gw := tbt (tb1 (List.mem_of_getElem? (i := 197) rfl)) rfl
theorem qs_J0_coder_7d493 : Cond.selects (yJ0_coder_7d493).cls yJ0_coder_7d493 yJ0_coder_7d493 ∈ gw := tbt (tb1 (List.mem_of_getElem? (i := 198) rfl)) rfl
theorem qz_J0 : Cond.initialized RJ0 ∈ gw := tbt (tb1 (List.mem_of_getElem? (i := 7) rfl)) rfl
theorem ci_J0_coder_7d493 : CIv yJ0_coder_7d493 cJ0_coder_7d493 1 (some .byte) 0 := ⟨qc_J0_coder_7d493, qi_yJ0_coder_7d493, qs_J0_coder_7d493, qz_J0, by decide +kernel⟩
theorem qm_J0_335 : Cond.methodLink RJ0 335 yJ0_coder_7d493 ∈ gw := tbt (tb1 (List.mem_of_getElem? (i := 196) rfl)) rfl
theorem qf_J0_1053 : Cond.fieldLink RJ0 1053 "jdk/internal/util/Preconditions" "SIOOBE_FORMATTER" "Ljava/util/function/BiFunction;" ∈ gw := tbt (tb1 (List.mem_of_getElem? (i := 216) rfl)) rfl
theorem qc_J3_checkIndex_8e157 : Cond.code yJ3_checkIndex_8e157 cJ3_checkIndex_8e157 3 (some .int) ∈ gw := tbt (tb1 (List.mem_of_getElem? (i := 220) rfl)) rfl
theorem qt_yJ3_checkIndex_8e157 : Cond.static yJ3_checkIndex_8e157 ∈ gw := tbt (tb1 (List.mem_of_getElem? (i := 219) rfl)) rfl
theorem qz_J3 : Cond.initialized RJ3 ∈ gw := tbt (tb1 (List.mem_of_getElem? (i := 9) rfl)) rfl
theorem ci_J3_checkIndex_8e157 : CIs yJ3_checkIndex_8e157 cJ3_checkIndex_8e157 3 (some .int) 3 := ⟨qc_J3_checkIndex_8e157, qt_yJ3_checkIndex_8e157, qz_J3, by decide +kernel⟩
theorem qm_J0_1059 : Cond.methodLink RJ0 1059 yJ3_checkIndex_8e157 ∈ gw := tbt (tb1 (List.mem_of_getElem? (i := 218) rfl)) rfl
theorem qc_J0_checkIndex_df160 : Cond.code yJ0_checkIndex_df160 cJ0_checkIndex_df160 2 none ∈ gw := tbt (tb1 (List.mem_of_getElem? (i := 215) rfl)) rfl
theorem qt_yJ0_checkIndex_df160 : Cond.static yJ0_checkIndex_df160 ∈ gw := tbt (tb1 (List.mem_of_getElem? (i := 214) rfl)) rfl
theorem ci_J0_checkIndex_df160 : CIs yJ0_checkIndex_df160 cJ0_checkIndex_df160 2 none 2 := ⟨qc_J0_checkIndex_df160, qt_yJ0_checkIndex_df160, qz_J0, by decide +kernel⟩
theorem qm_J1_9 : Cond.methodLink RJ1 9 yJ0_checkIndex_df160 ∈ gw := tbt (tb1 (List.mem_of_getElem? (i := 213) rfl)) rfl
theorem qc_J0_isLatin1_aae02 : Cond.code yJ0_isLatin1_aae02 cJ0_isLatin1_aae02 1 (some .boolean) ∈ gw := tbt (tb1 (List.mem_of_getElem? (i := 209) rfl)) rfl
theorem qi_yJ0_isLatin1_aae02 : Cond.instanceMethod yJ0_isLatin1_aae02 ∈ gw := tbt (tb1 (List.mem_of_getElem? (i := 207) rfl)) rfl
theorem qs_J0_isLatin1_aae02 : Cond.selects (yJ0_isLatin1_aae02).cls yJ0_isLatin1_aae02 yJ0_isLatin1_aae02 ∈ gw := tbt (tb1 (List.mem_of_getElem? (i := 208) rfl)) rfl
theorem ci_J0_isLatin1_aae02 : CIv yJ0_isLatin1_aae02 cJ0_isLatin1_aae02 1 (some .boolean) 0 := ⟨qc_J0_isLatin1_aae02, qi_yJ0_isLatin1_aae02, qs_J0_isLatin1_aae02, qz_J0, by decide +kernel⟩
theorem qm_J0_492 : Cond.methodLink RJ0 492 yJ0_isLatin1_aae02 ∈ gw := tbt (tb1 (List.mem_of_getElem? (i := 206) rfl)) rfl
theorem qc_J1_charAt_3b067 : Cond.code yJ1_charAt_3b067 cJ1_charAt_3b067 2 (some .char) ∈ gw := tbt (tb1 (List.mem_of_getElem? (i := 212) rfl)) rfl
theorem qt_yJ1_charAt_3b067 : Cond.static yJ1_charAt_3b067 ∈ gw := tbt (tb1 (List.mem_of_getElem? (i := 211) rfl)) rfl
theorem qz_J1 : Cond.initialized RJ1 ∈ gw := tbt (tb1 (List.mem_of_getElem? (i := 8) rfl)) rfl
theorem ci_J1_charAt_3b067 : CIs yJ1_charAt_3b067 cJ1_charAt_3b067 2 (some .char) 2 := ⟨qc_J1_charAt_3b067, qt_yJ1_charAt_3b067, qz_J1, by decide +kernel⟩
theorem qm_J0_495 : Cond.methodLink RJ0 495 yJ1_charAt_3b067 ∈ gw := tbt (tb1 (List.mem_of_getElem? (i := 210) rfl)) rfl
def fb_J0_charAt_5068e_0 : List UInt8 := [0x2a, 0xb6, 0x01, 0xec, 0x99, 0x00, 0x0c, 0x2a, 0xb4, 0x00, 0x09, 0x1b, 0xb8, 0x01, 0xef, 0xac, 0x2a, 0xb4, 0x00, 0x09, 0x1b, 0xb8, 0x01, 0xf2, 0xac]
theorem fl_J0_charAt_5068e_0 {p j : Nat} {b : UInt8} (e : p = 0 + j) (h : fb_J0_charAt_5068e_0[j]? = some b) : cJ0_charAt_5068e.data.toList[p]? = some b := fq_l (n := 64) (show (cJ0_charAt_5068e.data.toList.drop 0).take 64 = fb_J0_charAt_5068e_0 by decide +kernel) e h
theorem dJ0_charAt_5068e_0 : decode cJ0_charAt_5068e 0 = .ok (.aload_n 0, 1) := fq1_42 (fl_J0_charAt_5068e_0 (j := 0) rfl rfl)
theorem dJ0_charAt_5068e_1 : decode cJ0_charAt_5068e 1 = .ok (.invokevirtual 492, 3) := fq3_182 (fl_J0_charAt_5068e_0 (j := 1) rfl rfl) (fl_J0_charAt_5068e_0 (j := 2) rfl rfl) (fl_J0_charAt_5068e_0 (j := 3) rfl rfl) (by decide)
theorem dJ0_charAt_5068e_4 : decode cJ0_charAt_5068e 4 = .ok (.ifCond .eq 12, 3) := fq3_153 (fl_J0_charAt_5068e_0 (j := 4) rfl rfl) (fl_J0_charAt_5068e_0 (j := 5) rfl rfl) (fl_J0_charAt_5068e_0 (j := 6) rfl rfl) (by decide)
theorem dJ0_charAt_5068e_7 : decode cJ0_charAt_5068e 7 = .ok (.aload_n 0, 1) := fq1_42 (fl_J0_charAt_5068e_0 (j := 7) rfl rfl)
theorem dJ0_charAt_5068e_8 : decode cJ0_charAt_5068e 8 = .ok (.getfield 9, 3) := fq3_180 (fl_J0_charAt_5068e_0 (j := 8) rfl rfl) (fl_J0_charAt_5068e_0 (j := 9) rfl rfl) (fl_J0_charAt_5068e_0 (j := 10) rfl rfl) (by decide)
theorem dJ0_charAt_5068e_11 : decode cJ0_charAt_5068e 11 = .ok (.iload_n 1, 1) := fq1_27 (fl_J0_charAt_5068e_0 (j := 11) rfl rfl)
theorem dJ0_charAt_5068e_12 : decode cJ0_charAt_5068e 12 = .ok (.invokestatic 495, 3) := fq3_184 (fl_J0_charAt_5068e_0 (j := 12) rfl rfl) (fl_J0_charAt_5068e_0 (j := 13) rfl rfl) (fl_J0_charAt_5068e_0 (j := 14) rfl rfl) (by decide)
theorem dJ0_charAt_5068e_15 : decode cJ0_charAt_5068e 15 = .ok (.ireturn, 1) := fq1_172 (fl_J0_charAt_5068e_0 (j := 15) rfl rfl)
def fb_J0_checkIndex_df160_0 : List UInt8 := [0x1a, 0x1b, 0xb2, 0x04, 0x1d, 0xb8, 0x04, 0x23, 0x57, 0xb1]
theorem fl_J0_checkIndex_df160_0 {p j : Nat} {b : UInt8} (e : p = 0 + j) (h : fb_J0_checkIndex_df160_0[j]? = some b) : cJ0_checkIndex_df160.data.toList[p]? = some b := fq_l (n := 64) (show (cJ0_checkIndex_df160.data.toList.drop 0).take 64 = fb_J0_checkIndex_df160_0 by decide +kernel) e h
theorem dJ0_checkIndex_df160_0 : decode cJ0_checkIndex_df160 0 = .ok (.iload_n 0, 1) := fq1_26 (fl_J0_checkIndex_df160_0 (j := 0) rfl rfl)
theorem dJ0_checkIndex_df160_1 : decode cJ0_checkIndex_df160 1 = .ok (.iload_n 1, 1) := fq1_27 (fl_J0_checkIndex_df160_0 (j := 1) rfl rfl)
theorem dJ0_checkIndex_df160_2 : decode cJ0_checkIndex_df160 2 = .ok (.getstatic 1053, 3) := fq3_178 (fl_J0_checkIndex_df160_0 (j := 2) rfl rfl) (fl_J0_checkIndex_df160_0 (j := 3) rfl rfl) (fl_J0_checkIndex_df160_0 (j := 4) rfl rfl) (by decide)
theorem dJ0_checkIndex_df160_5 : decode cJ0_checkIndex_df160 5 = .ok (.invokestatic 1059, 3) := fq3_184 (fl_J0_checkIndex_df160_0 (j := 5) rfl rfl) (fl_J0_checkIndex_df160_0 (j := 6) rfl rfl) (fl_J0_checkIndex_df160_0 (j := 7) rfl rfl) (by decide)
theorem dJ0_checkIndex_df160_8 : decode cJ0_checkIndex_df160 8 = .ok (.pop, 1) := fq1_87 (fl_J0_checkIndex_df160_0 (j := 8) rfl rfl)
theorem dJ0_checkIndex_df160_9 : decode cJ0_checkIndex_df160 9 = .ok (.return_, 1) := fq1_177 (fl_J0_checkIndex_df160_0 (j := 9) rfl rfl)
def fb_J0_coder_7d493_0 : List UInt8 := [0xb2, 0x00, 0x26, 0x99, 0x00, 0x0a, 0x2a, 0xb4, 0x00, 0x0f, 0xa7, 0x00, 0x04, 0x04, 0xac]
theorem fl_J0_coder_7d493_0 {p j : Nat} {b : UInt8} (e : p = 0 + j) (h : fb_J0_coder_7d493_0[j]? = some b) : cJ0_coder_7d493.data.toList[p]? = some b := fq_l (n := 64) (show (cJ0_coder_7d493.data.toList.drop 0).take 64 = fb_J0_coder_7d493_0 by decide +kernel) e h
theorem dJ0_coder_7d493_0 : decode cJ0_coder_7d493 0 = .ok (.getstatic 38, 3) := fq3_178 (fl_J0_coder_7d493_0 (j := 0) rfl rfl) (fl_J0_coder_7d493_0 (j := 1) rfl rfl) (fl_J0_coder_7d493_0 (j := 2) rfl rfl) (by decide)
theorem dJ0_coder_7d493_3 : decode cJ0_coder_7d493 3 = .ok (.ifCond .eq 10, 3) := fq3_153 (fl_J0_coder_7d493_0 (j := 3) rfl rfl) (fl_J0_coder_7d493_0 (j := 4) rfl rfl) (fl_J0_coder_7d493_0 (j := 5) rfl rfl) (by decide)
theorem dJ0_coder_7d493_6 : decode cJ0_coder_7d493 6 = .ok (.aload_n 0, 1) := fq1_42 (fl_J0_coder_7d493_0 (j := 6) rfl rfl)
theorem dJ0_coder_7d493_7 : decode cJ0_coder_7d493 7 = .ok (.getfield 15, 3) := fq3_180 (fl_J0_coder_7d493_0 (j := 7) rfl rfl) (fl_J0_coder_7d493_0 (j := 8) rfl rfl) (fl_J0_coder_7d493_0 (j := 9) rfl rfl) (by decide)
theorem dJ0_coder_7d493_10 : decode cJ0_coder_7d493 10 = .ok (.goto 4, 3) := fq3_167 (fl_J0_coder_7d493_0 (j := 10) rfl rfl) (fl_J0_coder_7d493_0 (j := 11) rfl rfl) (fl_J0_coder_7d493_0 (j := 12) rfl rfl) (by decide)
theorem dJ0_coder_7d493_14 : decode cJ0_coder_7d493 14 = .ok (.ireturn, 1) := fq1_172 (fl_J0_coder_7d493_0 (j := 14) rfl rfl)
def fb_J0_isLatin1_aae02_0 : List UInt8 := [0xb2, 0x00, 0x26, 0x99, 0x00, 0x0e, 0x2a, 0xb4, 0x00, 0x0f, 0x9a, 0x00, 0x07, 0x04, 0xa7, 0x00, 0x04, 0x03, 0xac]
theorem fl_J0_isLatin1_aae02_0 {p j : Nat} {b : UInt8} (e : p = 0 + j) (h : fb_J0_isLatin1_aae02_0[j]? = some b) : cJ0_isLatin1_aae02.data.toList[p]? = some b := fq_l (n := 64) (show (cJ0_isLatin1_aae02.data.toList.drop 0).take 64 = fb_J0_isLatin1_aae02_0 by decide +kernel) e h
theorem dJ0_isLatin1_aae02_0 : decode cJ0_isLatin1_aae02 0 = .ok (.getstatic 38, 3) := fq3_178 (fl_J0_isLatin1_aae02_0 (j := 0) rfl rfl) (fl_J0_isLatin1_aae02_0 (j := 1) rfl rfl) (fl_J0_isLatin1_aae02_0 (j := 2) rfl rfl) (by decide)
theorem dJ0_isLatin1_aae02_3 : decode cJ0_isLatin1_aae02 3 = .ok (.ifCond .eq 14, 3) := fq3_153 (fl_J0_isLatin1_aae02_0 (j := 3) rfl rfl) (fl_J0_isLatin1_aae02_0 (j := 4) rfl rfl) (fl_J0_isLatin1_aae02_0 (j := 5) rfl rfl) (by decide)
theorem dJ0_isLatin1_aae02_6 : decode cJ0_isLatin1_aae02 6 = .ok (.aload_n 0, 1) := fq1_42 (fl_J0_isLatin1_aae02_0 (j := 6) rfl rfl)
theorem dJ0_isLatin1_aae02_7 : decode cJ0_isLatin1_aae02 7 = .ok (.getfield 15, 3) := fq3_180 (fl_J0_isLatin1_aae02_0 (j := 7) rfl rfl) (fl_J0_isLatin1_aae02_0 (j := 8) rfl rfl) (fl_J0_isLatin1_aae02_0 (j := 9) rfl rfl) (by decide)
theorem dJ0_isLatin1_aae02_10 : decode cJ0_isLatin1_aae02 10 = .ok (.ifCond .ne 7, 3) := fq3_154 (fl_J0_isLatin1_aae02_0 (j := 10) rfl rfl) (fl_J0_isLatin1_aae02_0 (j := 11) rfl rfl) (fl_J0_isLatin1_aae02_0 (j := 12) rfl rfl) (by decide)
theorem dJ0_isLatin1_aae02_13 : decode cJ0_isLatin1_aae02 13 = .ok (.iconst 1, 1) := fq1_4 (fl_J0_isLatin1_aae02_0 (j := 13) rfl rfl)
theorem dJ0_isLatin1_aae02_14 : decode cJ0_isLatin1_aae02 14 = .ok (.goto 4, 3) := fq3_167 (fl_J0_isLatin1_aae02_0 (j := 14) rfl rfl) (fl_J0_isLatin1_aae02_0 (j := 15) rfl rfl) (fl_J0_isLatin1_aae02_0 (j := 16) rfl rfl) (by decide)
theorem dJ0_isLatin1_aae02_18 : decode cJ0_isLatin1_aae02 18 = .ok (.ireturn, 1) := fq1_172 (fl_J0_isLatin1_aae02_0 (j := 18) rfl rfl)
def fb_J0_length_8abf5_0 : List UInt8 := [0x2a, 0xb4, 0x00, 0x09, 0xbe, 0x2a, 0xb6, 0x01, 0x4f, 0x7a, 0xac]
theorem fl_J0_length_8abf5_0 {p j : Nat} {b : UInt8} (e : p = 0 + j) (h : fb_J0_length_8abf5_0[j]? = some b) : cJ0_length_8abf5.data.toList[p]? = some b := fq_l (n := 64) (show (cJ0_length_8abf5.data.toList.drop 0).take 64 = fb_J0_length_8abf5_0 by decide +kernel) e h
theorem dJ0_length_8abf5_0 : decode cJ0_length_8abf5 0 = .ok (.aload_n 0, 1) := fq1_42 (fl_J0_length_8abf5_0 (j := 0) rfl rfl)
theorem dJ0_length_8abf5_1 : decode cJ0_length_8abf5 1 = .ok (.getfield 9, 3) := fq3_180 (fl_J0_length_8abf5_0 (j := 1) rfl rfl) (fl_J0_length_8abf5_0 (j := 2) rfl rfl) (fl_J0_length_8abf5_0 (j := 3) rfl rfl) (by decide)
theorem dJ0_length_8abf5_4 : decode cJ0_length_8abf5 4 = .ok (.arraylength, 1) := fq1_190 (fl_J0_length_8abf5_0 (j := 4) rfl rfl)
theorem dJ0_length_8abf5_5 : decode cJ0_length_8abf5 5 = .ok (.aload_n 0, 1) := fq1_42 (fl_J0_length_8abf5_0 (j := 5) rfl rfl)
theorem dJ0_length_8abf5_6 : decode cJ0_length_8abf5 6 = .ok (.invokevirtual 335, 3) := fq3_182 (fl_J0_length_8abf5_0 (j := 6) rfl rfl) (fl_J0_length_8abf5_0 (j := 7) rfl rfl) (fl_J0_length_8abf5_0 (j := 8) rfl rfl) (by decide)
theorem dJ0_length_8abf5_9 : decode cJ0_length_8abf5 9 = .ok (.ishr, 1) := fq1_122 (fl_J0_length_8abf5_0 (j := 9) rfl rfl)
theorem dJ0_length_8abf5_10 : decode cJ0_length_8abf5 10 = .ok (.ireturn, 1) := fq1_172 (fl_J0_length_8abf5_0 (j := 10) rfl rfl)
def fb_J1_charAt_3b067_0 : List UInt8 := [0x1b, 0x2a, 0xbe, 0xb8, 0x00, 0x09, 0x2a, 0x1b, 0x33, 0x11, 0x00, 0xff, 0x7e, 0x92, 0xac]
theorem fl_J1_charAt_3b067_0 {p j : Nat} {b : UInt8} (e : p = 0 + j) (h : fb_J1_charAt_3b067_0[j]? = some b) : cJ1_charAt_3b067.data.toList[p]? = some b := fq_l (n := 64) (show (cJ1_charAt_3b067.data.toList.drop 0).take 64 = fb_J1_charAt_3b067_0 by decide +kernel) e h
theorem dJ1_charAt_3b067_0 : decode cJ1_charAt_3b067 0 = .ok (.iload_n 1, 1) := fq1_27 (fl_J1_charAt_3b067_0 (j := 0) rfl rfl)
theorem dJ1_charAt_3b067_1 : decode cJ1_charAt_3b067 1 = .ok (.aload_n 0, 1) := fq1_42 (fl_J1_charAt_3b067_0 (j := 1) rfl rfl)
theorem dJ1_charAt_3b067_2 : decode cJ1_charAt_3b067 2 = .ok (.arraylength, 1) := fq1_190 (fl_J1_charAt_3b067_0 (j := 2) rfl rfl)
theorem dJ1_charAt_3b067_3 : decode cJ1_charAt_3b067 3 = .ok (.invokestatic 9, 3) := fq3_184 (fl_J1_charAt_3b067_0 (j := 3) rfl rfl) (fl_J1_charAt_3b067_0 (j := 4) rfl rfl) (fl_J1_charAt_3b067_0 (j := 5) rfl rfl) (by decide)
theorem dJ1_charAt_3b067_6 : decode cJ1_charAt_3b067 6 = .ok (.aload_n 0, 1) := fq1_42 (fl_J1_charAt_3b067_0 (j := 6) rfl rfl)
theorem dJ1_charAt_3b067_7 : decode cJ1_charAt_3b067 7 = .ok (.iload_n 1, 1) := fq1_27 (fl_J1_charAt_3b067_0 (j := 7) rfl rfl)
theorem dJ1_charAt_3b067_8 : decode cJ1_charAt_3b067 8 = .ok (.baload, 1) := fq1_51 (fl_J1_charAt_3b067_0 (j := 8) rfl rfl)
theorem dJ1_charAt_3b067_9 : decode cJ1_charAt_3b067 9 = .ok (.sipush 255, 3) := fq3_17 (fl_J1_charAt_3b067_0 (j := 9) rfl rfl) (fl_J1_charAt_3b067_0 (j := 10) rfl rfl) (fl_J1_charAt_3b067_0 (j := 11) rfl rfl) (by decide)
theorem dJ1_charAt_3b067_12 : decode cJ1_charAt_3b067 12 = .ok (.iand, 1) := fq1_126 (fl_J1_charAt_3b067_0 (j := 12) rfl rfl)
theorem dJ1_charAt_3b067_13 : decode cJ1_charAt_3b067 13 = .ok (.i2c, 1) := fq1_146 (fl_J1_charAt_3b067_0 (j := 13) rfl rfl)
theorem dJ1_charAt_3b067_14 : decode cJ1_charAt_3b067 14 = .ok (.ireturn, 1) := fq1_172 (fl_J1_charAt_3b067_0 (j := 14) rfl rfl)
def fb_J3_checkIndex_8e157_0 : List UInt8 := [0x1a, 0x9b, 0x00, 0x08, 0x1a, 0x1b, 0xa1, 0x00, 0x0a, 0x2c, 0x1a, 0x1b, 0xb8, 0x00, 0x5f, 0xbf, 0x1a, 0xac]
theorem fl_J3_checkIndex_8e157_0 {p j : Nat} {b : UInt8} (e : p = 0 + j) (h : fb_J3_checkIndex_8e157_0[j]? = some b) : cJ3_checkIndex_8e157.data.toList[p]? = some b := fq_l (n := 64) (show (cJ3_checkIndex_8e157.data.toList.drop 0).take 64 = fb_J3_checkIndex_8e157_0 by decide +kernel) e h
theorem dJ3_checkIndex_8e157_0 : decode cJ3_checkIndex_8e157 0 = .ok (.iload_n 0, 1) := fq1_26 (fl_J3_checkIndex_8e157_0 (j := 0) rfl rfl)
theorem dJ3_checkIndex_8e157_1 : decode cJ3_checkIndex_8e157 1 = .ok (.ifCond .lt 8, 3) := fq3_155 (fl_J3_checkIndex_8e157_0 (j := 1) rfl rfl) (fl_J3_checkIndex_8e157_0 (j := 2) rfl rfl) (fl_J3_checkIndex_8e157_0 (j := 3) rfl rfl) (by decide)
theorem dJ3_checkIndex_8e157_4 : decode cJ3_checkIndex_8e157 4 = .ok (.iload_n 0, 1) := fq1_26 (fl_J3_checkIndex_8e157_0 (j := 4) rfl rfl)
theorem dJ3_checkIndex_8e157_5 : decode cJ3_checkIndex_8e157 5 = .ok (.iload_n 1, 1) := fq1_27 (fl_J3_checkIndex_8e157_0 (j := 5) rfl rfl)
theorem dJ3_checkIndex_8e157_6 : decode cJ3_checkIndex_8e157 6 = .ok (.if_icmp .lt 10, 3) := fq3_161 (fl_J3_checkIndex_8e157_0 (j := 6) rfl rfl) (fl_J3_checkIndex_8e157_0 (j := 7) rfl rfl) (fl_J3_checkIndex_8e157_0 (j := 8) rfl rfl) (by decide)
theorem dJ3_checkIndex_8e157_16 : decode cJ3_checkIndex_8e157 16 = .ok (.iload_n 0, 1) := fq1_26 (fl_J3_checkIndex_8e157_0 (j := 16) rfl rfl)
theorem dJ3_checkIndex_8e157_17 : decode cJ3_checkIndex_8e157 17 = .ok (.ireturn, 1) := fq1_172 (fl_J3_checkIndex_8e157_0 (j := 17) rfl rfl)
