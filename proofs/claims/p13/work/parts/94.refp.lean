section
theorem qf_J0_38 : Cond.fieldLink RJ0 38 "java/lang/String" "COMPACT_STRINGS" "Z" ∈ gw := tbt (tb1 (List.mem_of_getElem? (i := 200) rfl)) rfl
theorem qf_J0_15 : Cond.fieldLink RJ0 15 "java/lang/String" "coder" "B" ∈ gw := tbt (tb9 (List.mem_of_getElem? (i := 52) rfl)) rfl
theorem qf_J0_9 : Cond.fieldLink RJ0 9 "java/lang/String" "value" "[B" ∈ gw := tbt (tb9 (List.mem_of_getElem? (i := 51) rfl)) rfl
theorem qc_J0_coder_7d493 : Cond.code yJ0_coder_7d493 cJ0_coder_7d493 1 (some .byte) ∈ gw := tbt (tb1 (List.mem_of_getElem? (i := 199) rfl)) rfl
theorem qi_yJ0_coder_7d493 : Cond.instanceMethod yJ0_coder_7d493 ∈ gw := tbt (tb1 (List.mem_of_getElem? (i := 197) rfl)) rfl
theorem qs_J0_coder_7d493 : Cond.selects (yJ0_coder_7d493).cls yJ0_coder_7d493 yJ0_coder_7d493 ∈ gw := tbt (tb1 (List.mem_of_getElem? (i := 198) rfl)) rfl
theorem qz_J0 : Cond.initialized RJ0 ∈ gw := tbt (tb1 (List.mem_of_getElem? (i := 7) rfl)) rfl
theorem ci_J0_coder_7d493 : CIv yJ0_coder_7d493 cJ0_coder_7d493 1 (some .byte) 0 := ⟨qc_J0_coder_7d493, qi_yJ0_coder_7d493, qs_J0_coder_7d493, qz_J0, by decide +kernel⟩
theorem qm_J0_335 : Cond.methodLink RJ0 335 yJ0_coder_7d493 ∈ gw := tbt (tb1 (List.mem_of_getElem? (i := 196) rfl)) rfl
theorem qf_J0_1053 : Cond.fieldLink RJ0 1053 "jdk/internal/util/Preconditions" "SIOOBE_FORMATTER" "Ljava/util/function/BiFunction;" ∈ gw := tbt (tb1 (List.mem_of_getElem? (i := 216) rfl)) rfl
theorem qc_J3_checkIndex_8e157 : Cond.code yJ3_checkIndex_8e157 cJ3_checkIndex_8e157 3 (some .int) ∈ gw := tbt (tb1 (List.mem_of_getElem? (i := 220) rfl)) rfl
theorem qt_yJ3_checkIndex_8e157 : Cond.static yJ3_checkIndex_8e157 ∈ gw := tbt (tb1 (List.mem_of_getElem? (i := 219) rfl)) rfl
theorem qz_J3 : Cond.initialized RJ3 ∈ gw := tbt (tb1 (List.mem_of_getElem? (i := 9) rfl)) rfl
theorem ci_J3_checkIndex_8e157 : CIs yJ3_checkIndex_8e157 cJ3_checkIndex_8e157 3 (some .int) 3 := ⟨qc_J3_checkIndex_8e157, qt_yJ3_checkIndex_8e157, qz_J3, by decide +kernel⟩
theorem qm_J0_1059 : Cond.methodLink RJ0 1059 yJ3_checkIndex_8e157 ∈ gw := tbt (tb1 (List.mem_of_getElem? (i := 218) rfl)) rfl
theorem qc_J0_checkIndex_df160 : Cond.code yJ0_checkIndex_df160 cJ0_checkIndex_df160 2 none ∈ gw := tbt (tb1 (List.mem_of_getElem? (i := 215) rfl)) rfl
theorem qt_yJ0_checkIndex_df160 : Cond.static yJ0_checkIndex_df160 ∈ gw := tbt (tb1 (List.mem_of_getElem? (i := 214) rfl)) rfl
theorem ci_J0_checkIndex_df160 : CIs yJ0_checkIndex_df160 cJ0_checkIndex_df160 2 none 2 := ⟨qc_J0_checkIndex_df160, qt_yJ0_checkIndex_df160, qz_J0, by decide +kernel⟩
theorem qm_J1_9 : Cond.methodLink RJ1 9 yJ0_checkIndex_df160 ∈ gw := tbt (tb1 (List.mem_of_getElem? (i := 213) rfl)) rfl
theorem qc_J0_isLatin1_aae02 : Cond.code yJ0_isLatin1_aae02 cJ0_isLatin1_aae02 1 (some .boolean) ∈ gw := tbt (tb1 (List.mem_of_getElem? (i := 209) rfl)) rfl
theorem qi_yJ0_isLatin1_aae02 : Cond.instanceMethod yJ0_isLatin1_aae02 ∈ gw := tbt (tb1 (List.mem_of_getElem? (i := 207) rfl)) rfl
theorem qs_J0_isLatin1_aae02 : Cond.selects (yJ0_isLatin1_aae02).cls yJ0_isLatin1_aae02 yJ0_isLatin1_aae02 ∈ gw := tbt (tb1 (List.mem_of_getElem? (i := 208) rfl)) rfl
theorem ci_J0_isLatin1_aae02 : CIv yJ0_isLatin1_aae02 cJ0_isLatin1_aae02 1 (some .boolean) 0 := ⟨qc_J0_isLatin1_aae02, qi_yJ0_isLatin1_aae02, qs_J0_isLatin1_aae02, qz_J0, by decide +kernel⟩
theorem qm_J0_492 : Cond.methodLink RJ0 492 yJ0_isLatin1_aae02 ∈ gw := tbt (tb1 (List.mem_of_getElem? (i := 206) rfl)) rfl
theorem qc_J1_charAt_3b067 : Cond.code yJ1_charAt_3b067 cJ1_charAt_3b067 2 (some .char) ∈ gw := tbt (tb1 (List.mem_of_getElem? (i := 212) rfl)) rfl
theorem qt_yJ1_charAt_3b067 : Cond.static yJ1_charAt_3b067 ∈ gw := tbt (tb1 (List.mem_of_getElem? (i := 211) rfl)) rfl
theorem qz_J1 : Cond.initialized RJ1 ∈ gw := tbt (tb1 (List.mem_of_getElem? (i := 8) rfl)) rfl
theorem ci_J1_charAt_3b067 : CIs yJ1_charAt_3b067 cJ1_charAt_3b067 2 (some .char) 2 := ⟨qc_J1_charAt_3b067, qt_yJ1_charAt_3b067, qz_J1, by decide +kernel⟩
theorem qm_J0_495 : Cond.methodLink RJ0 495 yJ1_charAt_3b067 ∈ gw := tbt (tb1 (List.mem_of_getElem? (i := 210) rfl)) rfl
def fb_J0_charAt_5068e_0 : List UInt8 := [0x2a, 0xb6, 0x01, 0xec, 0x99, 0x00, 0x0c, 0x2a, 0xb4, 0x00, 0x09, 0x1b, 0xb8, 0x01, 0xef, 0xac, 0x2a, 0xb4, 0x00, 0x09, 0x1b, 0xb8, 0x01, 0xf2, 0xac]
theorem fl_J0_charAt_5068e_0 {p j : Nat} {b : UInt8} (e : p = 0 + j) (h : fb_J0_charAt_5068e_0[j]? = some b) : cJ0_charAt_5068e.data.toList[p]? = some b := fq_l (n := 64) (show (cJ0_charAt_5068e.data.toList.drop 0).take 64 = fb_J0_charAt_5068e_0 by decide +kernel) e h
theorem dJ0_charAt_5068e_0 : decode cJ0_charAt_5068e 0 = .ok (.aload_n 0, 1) := fq1_42 (fl_J0_charAt_5068e_0 (j := 0) rfl rfl)
theorem dJ0_charAt_5068e_1 : decode cJ0_charAt_5068e 1 = .ok (.invokevirtual 492, 3) := fq3_182 (fl_J0_charAt_5068e_0 (j := 1) rfl rfl) (fl_J0_charAt_5068e_0 (j := 2) rfl rfl) (fl_J0_charAt_5068e_0 (j := 3) rfl rfl) rfl
theorem dJ0_charAt_5068e_4 : decode cJ0_charAt_5068e 4 = .ok (.ifCond .eq 12, 3) := fq3_153 (fl_J0_charAt_5068e_0 (j := 4) rfl rfl) (fl_J0_charAt_5068e_0 (j := 5) rfl rfl) (fl_J0_charAt_5068e_0 (j := 6) rfl rfl) (s2p rfl (bl rfl))
theorem dJ0_charAt_5068e_7 : decode cJ0_charAt_5068e 7 = .ok (.aload_n 0, 1) := fq1_42 (fl_J0_charAt_5068e_0 (j := 7) rfl rfl)
theorem dJ0_charAt_5068e_8 : decode cJ0_charAt_5068e 8 = .ok (.getfield 9, 3) := fq3_180 (fl_J0_charAt_5068e_0 (j := 8) rfl rfl) (fl_J0_charAt_5068e_0 (j := 9) rfl rfl) (fl_J0_charAt_5068e_0 (j := 10) rfl rfl) rfl
theorem dJ0_charAt_5068e_11 : decode cJ0_charAt_5068e 11 = .ok (.iload_n 1, 1) := fq1_27 (fl_J0_charAt_5068e_0 (j := 11) rfl rfl)
theorem dJ0_charAt_5068e_12 : decode cJ0_charAt_5068e 12 = .ok (.invokestatic 495, 3) := fq3_184 (fl_J0_charAt_5068e_0 (j := 12) rfl rfl) (fl_J0_charAt_5068e_0 (j := 13) rfl rfl) (fl_J0_charAt_5068e_0 (j := 14) rfl rfl) rfl
theorem dJ0_charAt_5068e_15 : decode cJ0_charAt_5068e 15 = .ok (.ireturn, 1) := fq1_172 (fl_J0_charAt_5068e_0 (j := 15) rfl rfl)
def fb_J0_checkIndex_df160_0 : List UInt8 := [0x1a, 0x1b, 0xb2, 0x04, 0x1d, 0xb8, 0x04, 0x23, 0x57, 0xb1]
theorem fl_J0_checkIndex_df160_0 {p j : Nat} {b : UInt8} (e : p = 0 + j) (h : fb_J0_checkIndex_df160_0[j]? = some b) : cJ0_checkIndex_df160.data.toList[p]? = some b := fq_l (n := 64) (show (cJ0_checkIndex_df160.data.toList.drop 0).take 64 = fb_J0_checkIndex_df160_0 by decide +kernel) e h
theorem dJ0_checkIndex_df160_0 : decode cJ0_checkIndex_df160 0 = .ok (.iload_n 0, 1) := fq1_26 (fl_J0_checkIndex_df160_0 (j := 0) rfl rfl)
theorem dJ0_checkIndex_df160_1 : decode cJ0_checkIndex_df160 1 = .ok (.iload_n 1, 1) := fq1_27 (fl_J0_checkIndex_df160_0 (j := 1) rfl rfl)
theorem dJ0_checkIndex_df160_2 : decode cJ0_checkIndex_df160 2 = .ok (.getstatic 1053, 3) := fq3_178 (fl_J0_checkIndex_df160_0 (j := 2) rfl rfl) (fl_J0_checkIndex_df160_0 (j := 3) rfl rfl) (fl_J0_checkIndex_df160_0 (j := 4) rfl rfl) rfl
theorem dJ0_checkIndex_df160_5 : decode cJ0_checkIndex_df160 5 = .ok (.invokestatic 1059, 3) := fq3_184 (fl_J0_checkIndex_df160_0 (j := 5) rfl rfl) (fl_J0_checkIndex_df160_0 (j := 6) rfl rfl) (fl_J0_checkIndex_df160_0 (j := 7) rfl rfl) rfl
theorem dJ0_checkIndex_df160_8 : decode cJ0_checkIndex_df160 8 = .ok (.pop, 1) := fq1_87 (fl_J0_checkIndex_df160_0 (j := 8) rfl rfl)
theorem dJ0_checkIndex_df160_9 : decode cJ0_checkIndex_df160 9 = .ok (.return_, 1) := fq1_177 (fl_J0_checkIndex_df160_0 (j := 9) rfl rfl)
def fb_J0_coder_7d493_0 : List UInt8 := [0xb2, 0x00, 0x26, 0x99, 0x00, 0x0a, 0x2a, 0xb4, 0x00, 0x0f, 0xa7, 0x00, 0x04, 0x04, 0xac]
theorem fl_J0_coder_7d493_0 {p j : Nat} {b : UInt8} (e : p = 0 + j) (h : fb_J0_coder_7d493_0[j]? = some b) : cJ0_coder_7d493.data.toList[p]? = some b := fq_l (n := 64) (show (cJ0_coder_7d493.data.toList.drop 0).take 64 = fb_J0_coder_7d493_0 by decide +kernel) e h
theorem dJ0_coder_7d493_0 : decode cJ0_coder_7d493 0 = .ok (.getstatic 38, 3) := fq3_178 (fl_J0_coder_7d493_0 (j := 0) rfl rfl) (fl_J0_coder_7d493_0 (j := 1) rfl rfl) (fl_J0_coder_7d493_0 (j := 2) rfl rfl) rfl
theorem dJ0_coder_7d493_3 : decode cJ0_coder_7d493 3 = .ok (.ifCond .eq 10, 3) := fq3_153 (fl_J0_coder_7d493_0 (j := 3) rfl rfl) (fl_J0_coder_7d493_0 (j := 4) rfl rfl) (fl_J0_coder_7d493_0 (j := 5) rfl rfl) (s2p rfl (bl rfl))
theorem dJ0_coder_7d493_6 : decode cJ0_coder_7d493 6 = .ok (.aload_n 0, 1) := fq1_42 (fl_J0_coder_7d493_0 (j := 6) rfl rfl)
theorem dJ0_coder_7d493_7 : decode cJ0_coder_7d493 7 = .ok (.getfield 15, 3) := fq3_180 (fl_J0_coder_7d493_0 (j := 7) rfl rfl) (fl_J0_coder_7d493_0 (j := 8) rfl rfl) (fl_J0_coder_7d493_0 (j := 9) rfl rfl) rfl
theorem dJ0_coder_7d493_10 : decode cJ0_coder_7d493 10 = .ok (.goto 4, 3) := fq3_167 (fl_J0_coder_7d493_0 (j := 10) rfl rfl) (fl_J0_coder_7d493_0 (j := 11) rfl rfl) (fl_J0_coder_7d493_0 (j := 12) rfl rfl) (s2p rfl (bl rfl))
theorem dJ0_coder_7d493_14 : decode cJ0_coder_7d493 14 = .ok (.ireturn, 1) := fq1_172 (fl_J0_coder_7d493_0 (j := 14) rfl rfl)
def fb_J0_isLatin1_aae02_0 : List UInt8 := [0xb2, 0x00, 0x26, 0x99, 0x00, 0x0e, 0x2a, 0xb4, 0x00, 0x0f, 0x9a, 0x00, 0x07, 0x04, 0xa7, 0x00, 0x04, 0x03, 0xac]
theorem fl_J0_isLatin1_aae02_0 {p j : Nat} {b : UInt8} (e : p = 0 + j) (h : fb_J0_isLatin1_aae02_0[j]? = some b) : cJ0_isLatin1_aae02.data.toList[p]? = some b := fq_l (n := 64) (show (cJ0_isLatin1_aae02.data.toList.drop 0).take 64 = fb_J0_isLatin1_aae02_0 by decide +kernel) e h
theorem dJ0_isLatin1_aae02_0 : decode cJ0_isLatin1_aae02 0 = .ok (.getstatic 38, 3) := fq3_178 (fl_J0_isLatin1_aae02_0 (j := 0) rfl rfl) (fl_J0_isLatin1_aae02_0 (j := 1) rfl rfl) (fl_J0_isLatin1_aae02_0 (j := 2) rfl rfl) rfl
theorem dJ0_isLatin1_aae02_3 : decode cJ0_isLatin1_aae02 3 = .ok (.ifCond .eq 14, 3) := fq3_153 (fl_J0_isLatin1_aae02_0 (j := 3) rfl rfl) (fl_J0_isLatin1_aae02_0 (j := 4) rfl rfl) (fl_J0_isLatin1_aae02_0 (j := 5) rfl rfl) (s2p rfl (bl rfl))
theorem dJ0_isLatin1_aae02_6 : decode cJ0_isLatin1_aae02 6 = .ok (.aload_n 0, 1) := fq1_42 (fl_J0_isLatin1_aae02_0 (j := 6) rfl rfl)
theorem dJ0_isLatin1_aae02_7 : decode cJ0_isLatin1_aae02 7 = .ok (.getfield 15, 3) := fq3_180 (fl_J0_isLatin1_aae02_0 (j := 7) rfl rfl) (fl_J0_isLatin1_aae02_0 (j := 8) rfl rfl) (fl_J0_isLatin1_aae02_0 (j := 9) rfl rfl) rfl
theorem dJ0_isLatin1_aae02_10 : decode cJ0_isLatin1_aae02 10 = .ok (.ifCond .ne 7, 3) := fq3_154 (fl_J0_isLatin1_aae02_0 (j := 10) rfl rfl) (fl_J0_isLatin1_aae02_0 (j := 11) rfl rfl) (fl_J0_isLatin1_aae02_0 (j := 12) rfl rfl) (s2p rfl (bl rfl))
theorem dJ0_isLatin1_aae02_13 : decode cJ0_isLatin1_aae02 13 = .ok (.iconst 1, 1) := fq1_4 (fl_J0_isLatin1_aae02_0 (j := 13) rfl rfl)
theorem dJ0_isLatin1_aae02_14 : decode cJ0_isLatin1_aae02 14 = .ok (.goto 4, 3) := fq3_167 (fl_J0_isLatin1_aae02_0 (j := 14) rfl rfl) (fl_J0_isLatin1_aae02_0 (j := 15) rfl rfl) (fl_J0_isLatin1_aae02_0 (j := 16) rfl rfl) (s2p rfl (bl rfl))
theorem dJ0_isLatin1_aae02_18 : decode cJ0_isLatin1_aae02 18 = .ok (.ireturn, 1) := fq1_172 (fl_J0_isLatin1_aae02_0 (j := 18) rfl rfl)
def fb_J0_length_8abf5_0 : List UInt8 := [0x2a, 0xb4, 0x00, 0x09, 0xbe, 0x2a, 0xb6, 0x01, 0x4f, 0x7a, 0xac]
theorem fl_J0_length_8abf5_0 {p j : Nat} {b : UInt8} (e : p = 0 + j) (h : fb_J0_length_8abf5_0[j]? = some b) : cJ0_length_8abf5.data.toList[p]? = some b := fq_l (n := 64) (show (cJ0_length_8abf5.data.toList.drop 0).take 64 = fb_J0_length_8abf5_0 by decide +kernel) e h
theorem dJ0_length_8abf5_0 : decode cJ0_length_8abf5 0 = .ok (.aload_n 0, 1) := fq1_42 (fl_J0_length_8abf5_0 (j := 0) rfl rfl)
theorem dJ0_length_8abf5_1 : decode cJ0_length_8abf5 1 = .ok (.getfield 9, 3) := fq3_180 (fl_J0_length_8abf5_0 (j := 1) rfl rfl) (fl_J0_length_8abf5_0 (j := 2) rfl rfl) (fl_J0_length_8abf5_0 (j := 3) rfl rfl) rfl
theorem dJ0_length_8abf5_4 : decode cJ0_length_8abf5 4 = .ok (.arraylength, 1) := fq1_190 (fl_J0_length_8abf5_0 (j := 4) rfl rfl)
theorem dJ0_length_8abf5_5 : decode cJ0_length_8abf5 5 = .ok (.aload_n 0, 1) := fq1_42 (fl_J0_length_8abf5_0 (j := 5) rfl rfl)
theorem dJ0_length_8abf5_6 : decode cJ0_length_8abf5 6 = .ok (.invokevirtual 335, 3) := fq3_182 (fl_J0_length_8abf5_0 (j := 6) rfl rfl) (fl_J0_length_8abf5_0 (j := 7) rfl rfl) (fl_J0_length_8abf5_0 (j := 8) rfl rfl) rfl
theorem dJ0_length_8abf5_9 : decode cJ0_length_8abf5 9 = .ok (.ishr, 1) := fq1_122 (fl_J0_length_8abf5_0 (j := 9) rfl rfl)
theorem dJ0_length_8abf5_10 : decode cJ0_length_8abf5 10 = .ok (.ireturn, 1) := fq1_172 (fl_J0_length_8abf5_0 (j := 10) rfl rfl)
def fb_J1_charAt_3b067_0 : List UInt8 := [0x1b, 0x2a, 0xbe, 0xb8, 0x00, 0x09, 0x2a, 0x1b, 0x33, 0x11, 0x00, 0xff, 0x7e, 0x92, 0xac]
theorem fl_J1_charAt_3b067_0 {p j : Nat} {b : UInt8} (e : p = 0 + j) (h : fb_J1_charAt_3b067_0[j]? = some b) : cJ1_charAt_3b067.data.toList[p]? = some b := fq_l (n := 64) (show (cJ1_charAt_3b067.data.toList.drop 0).take 64 = fb_J1_charAt_3b067_0 by decide +kernel) e h
theorem dJ1_charAt_3b067_0 : decode cJ1_charAt_3b067 0 = .ok (.iload_n 1, 1) := fq1_27 (fl_J1_charAt_3b067_0 (j := 0) rfl rfl)
theorem dJ1_charAt_3b067_1 : decode cJ1_charAt_3b067 1 = .ok (.aload_n 0, 1) := fq1_42 (fl_J1_charAt_3b067_0 (j := 1) rfl rfl)
theorem dJ1_charAt_3b067_2 : decode cJ1_charAt_3b067 2 = .ok (.arraylength, 1) := fq1_190 (fl_J1_charAt_3b067_0 (j := 2) rfl rfl)
theorem dJ1_charAt_3b067_3 : decode cJ1_charAt_3b067 3 = .ok (.invokestatic 9, 3) := fq3_184 (fl_J1_charAt_3b067_0 (j := 3) rfl rfl) (fl_J1_charAt_3b067_0 (j := 4) rfl rfl) (fl_J1_charAt_3b067_0 (j := 5) rfl rfl) rfl
theorem dJ1_charAt_3b067_6 : decode cJ1_charAt_3b067 6 = .ok (.aload_n 0, 1) := fq1_42 (fl_J1_charAt_3b067_0 (j := 6) rfl rfl)
theorem dJ1_charAt_3b067_7 : decode cJ1_charAt_3b067 7 = .ok (.iload_n 1, 1) := fq1_27 (fl_J1_charAt_3b067_0 (j := 7) rfl rfl)
theorem dJ1_charAt_3b067_8 : decode cJ1_charAt_3b067 8 = .ok (.baload, 1) := fq1_51 (fl_J1_charAt_3b067_0 (j := 8) rfl rfl)
theorem dJ1_charAt_3b067_9 : decode cJ1_charAt_3b067 9 = .ok (.sipush 255, 3) := fq3_17 (fl_J1_charAt_3b067_0 (j := 9) rfl rfl) (fl_J1_charAt_3b067_0 (j := 10) rfl rfl) (fl_J1_charAt_3b067_0 (j := 11) rfl rfl) (s2p rfl (bl rfl))
theorem dJ1_charAt_3b067_12 : decode cJ1_charAt_3b067 12 = .ok (.iand, 1) := fq1_126 (fl_J1_charAt_3b067_0 (j := 12) rfl rfl)
theorem dJ1_charAt_3b067_13 : decode cJ1_charAt_3b067 13 = .ok (.i2c, 1) := fq1_146 (fl_J1_charAt_3b067_0 (j := 13) rfl rfl)
theorem dJ1_charAt_3b067_14 : decode cJ1_charAt_3b067 14 = .ok (.ireturn, 1) := fq1_172 (fl_J1_charAt_3b067_0 (j := 14) rfl rfl)
def fb_J3_checkIndex_8e157_0 : List UInt8 := [0x1a, 0x9b, 0x00, 0x08, 0x1a, 0x1b, 0xa1, 0x00, 0x0a, 0x2c, 0x1a, 0x1b, 0xb8, 0x00, 0x5f, 0xbf, 0x1a, 0xac]
theorem fl_J3_checkIndex_8e157_0 {p j : Nat} {b : UInt8} (e : p = 0 + j) (h : fb_J3_checkIndex_8e157_0[j]? = some b) : cJ3_checkIndex_8e157.data.toList[p]? = some b := fq_l (n := 64) (show (cJ3_checkIndex_8e157.data.toList.drop 0).take 64 = fb_J3_checkIndex_8e157_0 by decide +kernel) e h
theorem dJ3_checkIndex_8e157_0 : decode cJ3_checkIndex_8e157 0 = .ok (.iload_n 0, 1) := fq1_26 (fl_J3_checkIndex_8e157_0 (j := 0) rfl rfl)
theorem dJ3_checkIndex_8e157_1 : decode cJ3_checkIndex_8e157 1 = .ok (.ifCond .lt 8, 3) := fq3_155 (fl_J3_checkIndex_8e157_0 (j := 1) rfl rfl) (fl_J3_checkIndex_8e157_0 (j := 2) rfl rfl) (fl_J3_checkIndex_8e157_0 (j := 3) rfl rfl) (s2p rfl (bl rfl))
theorem dJ3_checkIndex_8e157_4 : decode cJ3_checkIndex_8e157 4 = .ok (.iload_n 0, 1) := fq1_26 (fl_J3_checkIndex_8e157_0 (j := 4) rfl rfl)
theorem dJ3_checkIndex_8e157_5 : decode cJ3_checkIndex_8e157 5 = .ok (.iload_n 1, 1) := fq1_27 (fl_J3_checkIndex_8e157_0 (j := 5) rfl rfl)
theorem dJ3_checkIndex_8e157_6 : decode cJ3_checkIndex_8e157 6 = .ok (.if_icmp .lt 10, 3) := fq3_161 (fl_J3_checkIndex_8e157_0 (j := 6) rfl rfl) (fl_J3_checkIndex_8e157_0 (j := 7) rfl rfl) (fl_J3_checkIndex_8e157_0 (j := 8) rfl rfl) (s2p rfl (bl rfl))
theorem dJ3_checkIndex_8e157_16 : decode cJ3_checkIndex_8e157 16 = .ok (.iload_n 0, 1) := fq1_26 (fl_J3_checkIndex_8e157_0 (j := 16) rfl rfl)
theorem dJ3_checkIndex_8e157_17 : decode cJ3_checkIndex_8e157 17 = .ok (.ireturn, 1) := fq1_172 (fl_J3_checkIndex_8e157_0 (j := 17) rfl rfl)
end

section
section NW2
variable {p : Program} {l : Launch} {e : Env} {R : Room} {s : State} {m : MethodId} {args : Array Value} {below : List Frame} {meth : Method} {c : Code} {H H0 : Heap} {locs : List Loc} {cells slots : Nat} {Q : State → Prop} {D : va_G} {k : Nat → ClassId} {A : Nat → Prop} {cc : ByteArray} {pc : Nat} {ls : Array Slot} {rest : List Value} {ws : va_W}
theorem nwqT {own : String} {index : Nat} {n : Int32} {N' : Nat} (hx : p.tables.exec = Jvm.exec) (hb : c.code = cc) (hown : s.vm.findClass own = some m.cls) (hclink : (Cond.classLink own index "SlowWorlds$Tray").before args s = true) (hK : KK D k s) (hP : va_P D vwCl ws H) (hD : va_D A ws) (hS : va_S A H0 H locs) (hA : ∀ q, H0.size ≤ q → A q)
    (hn : ¬ n < 0) (hN : n.toNatClampNeg = N') (hbytes : N' * 4 ≤ 536870912) (hcells : cells + 1 ≤ R.cells) (hslots : slots + N' ≤ R.slots) (hdg : decode cc pc = .ok (.anewarray index, 3))
    (kk : ∀ (q : Nat) (H1 : Heap), va_P D vwCl (ws ++ [(q, .inl (k 3, N', .inr (.inr (.inr (.inr (fun _ => none))))))]) H1 → va_D A (ws ++ [(q, .inl (k 3, N', .inr (.inr (.inr (.inr (fun _ => none))))))]) → va_S A H0 H1 locs → W p l e R s m args below meth c H1 locs (cells + 1) (slots + N') Q (F0 m (pc + 3) ls (.ref q :: rest))) : W p l e R s m args below meth c H locs cells slots Q (F0 m pc ls (.int n :: rest)) := by
  refine va_newq hx hb hown hclink hK.2.2.1 hK.1 hP hD hS hA hn hN hbytes hcells hslots hdg (fun q cA H1 hK1 hP1 hD1 hS1 => ?_)
  have h1 := (hK1.2 (TY k).length (cA, .object "SlowWorlds$Tray") (by simp)).2
  have h2 := (hK.1.2 3 _ rfl).2
  obtain rfl : cA = k 3 := ra_one h1 h2
  exact kk q H1 hP1 hD1 hS1
theorem nwqW {own : String} {index : Nat} {n : Int32} {N' : Nat} (hx : p.tables.exec = Jvm.exec) (hb : c.code = cc) (hown : s.vm.findClass own = some m.cls) (hclink : (Cond.classLink own index "SlowWorlds$World").before args s = true) (hK : KK D k s) (hP : va_P D vwCl ws H) (hD : va_D A ws) (hS : va_S A H0 H locs) (hA : ∀ q, H0.size ≤ q → A q)
    (hn : ¬ n < 0) (hN : n.toNatClampNeg = N') (hbytes : N' * 4 ≤ 536870912) (hcells : cells + 1 ≤ R.cells) (hslots : slots + N' ≤ R.slots) (hdg : decode cc pc = .ok (.anewarray index, 3))
    (kk : ∀ (q : Nat) (H1 : Heap), va_P D vwCl (ws ++ [(q, .inl (k 4, N', .inr (.inr (.inr (.inr (fun _ => none))))))]) H1 → va_D A (ws ++ [(q, .inl (k 4, N', .inr (.inr (.inr (.inr (fun _ => none))))))]) → va_S A H0 H1 locs → W p l e R s m args below meth c H1 locs (cells + 1) (slots + N') Q (F0 m (pc + 3) ls (.ref q :: rest))) : W p l e R s m args below meth c H locs cells slots Q (F0 m pc ls (.int n :: rest)) := by
  refine va_newq hx hb hown hclink hK.2.2.2 hK.1 hP hD hS hA hn hN hbytes hcells hslots hdg (fun q cA H1 hK1 hP1 hD1 hS1 => ?_)
  have h1 := (hK1.2 (TY k).length (cA, .object "SlowWorlds$World") (by simp)).2
  have h2 := (hK.1.2 4 _ rfl).2
  obtain rfl : cA = k 4 := ra_one h1 h2
  exact kk q H1 hP1 hD1 hS1
end NW2
/-- the text of the keywords, and the statics that String's methods read -/
def SX (sa sv : Nat) (sf : Nat → Int32) (A : Nat → Prop) (U : State) (H : Heap) : Prop := va_O "java/lang/String" sa A U H ∧ va_OF "java/lang/String" "coder" "B" (.int 0) sa A U H ∧ va_OF "java/lang/String" "value" "[B" (.ref sv) sa A U H ∧ va_T .byte sv 124 (fun j => .int (sf j)) A U H ∧ va_Z "java/lang/String" "COMPACT_STRINGS" "Z" (.int 1) A U H ∧ va_Zq "jdk/internal/util/Preconditions" "SIOOBE_FORMATTER" "Ljava/util/function/BiFunction;" A U H
theorem SX.moved {sa sv : Nat} {sf : Nat → Int32} {A : Nat → Prop} {u U : State} {H : Heap} (hvm : u.vm.Alike U.vm) (h : SX sa sv sf A u H) : SX sa sv sf A U H := ⟨h.1.moved hvm, h.2.1.moved hvm, h.2.2.1.moved hvm, h.2.2.2.1.moved hvm, h.2.2.2.2.1.moved hvm, h.2.2.2.2.2.moved hvm⟩
theorem SX.kept {sa sv : Nat} {sf : Nat → Int32} {A : Nat → Prop} {U : State} {H H1 : Heap} (h : SX sa sv sf A U H) (hq : ∀ a : Nat, a < H.size → ¬ A a → H1[a]? = H[a]?) : SX sa sv sf A U H1 := ⟨h.1.kept hq, h.2.1.kept hq, h.2.2.1.kept hq, h.2.2.2.1.kept hq, h.2.2.2.2.1.kept hq, h.2.2.2.2.2.kept hq⟩
theorem SX.narrow {sa sv : Nat} {sf : Nat → Int32} {A B : Nat → Prop} {U : State} {H : Heap} (h : SX sa sv sf A U H) (hq : ∀ q, B q → A q) : SX sa sv sf B U H := ⟨h.1.narrow hq, h.2.1.narrow hq, h.2.2.1.narrow hq, h.2.2.2.1.narrow hq, h.2.2.2.2.1.narrow hq, h.2.2.2.2.2.narrow hq⟩
def PZ (sa sv : Nat) (sf : Nat → Int32) (av : List Value) : Array Value → State → Prop := va_Pc av (fun U => SX sa sv sf (fun _ => False) U U.heap)
theorem PZ.blind {sa sv : Nat} {sf : Nat → Int32} {av : List Value} : FrameBlind (PZ sa sv sf av) := fun _ U g mk q => ⟨q.1, SX.moved (u := U) (U := U.calling g mk _) (Vm.Alike.refl U.vm) q.2⟩
theorem MZ {l : Launch} {y : MethodName} {cc : ByteArray} {maxL : Nat} {ret : Option FieldType} {j : Nat} {sa sv : Nat} {sf : Nat → Int32} {av : List Value} {Qc : Array Value → State → Outcome → State → Prop} (hy : plainName y.cls = true) (hlen : (lg_sl av).length ≤ maxL)
    (body : ∀ (p : Program) (e : Env) (s : State) (m : MethodId) (below : List Frame) (meth : Method) (c : Code) (ls : Array Slot), p.tables.exec = Jvm.exec → c.code = cc → c.maxLocals = maxL → meth.sig.returnType = ret → meth.locks = false → (∀ w ∈ gw, w.before av.toArray s = true) → s.vm.findClass y.cls = some m.cls → SX sa sv sf (fun _ => False) s s.heap → lv_has ls maxL (lv_args 0 av) → W p l e (rj j 0 0) s m av.toArray below meth c s.heap [] 0 0 (MQ below Qc av.toArray s 0 0 (fun _ => False)) (F0 m 0 ls [])) : Met l y (Cond.code y cc maxL ret :: gw) (rj j 0 0) (PZ sa sv sf av) Qc 0 0 (fun _ => False) := by
  refine Met.ofW (cc := cc) (maxL := maxL) (ret := ret) hy rfl ?_
  intro p e s m args below meth c s₁ B hml hv
  obtain ⟨rfl, hK⟩ := hv
  have hl := lv_entry av (n := maxL) hlen
  rw [lg_entry_eq]
  generalize (lg_sl av ++ List.replicate (maxL - (lg_sl av).length) Slot.unset).toArray = ls at hl ⊢
  have hts := atoms_spec (ws := Cond.code y cc maxL ret :: gw) B.pre
  exact body p e s m below meth c ls B.exec B.bytes hml B.returns B.notSynchronized (fun w hw => hts w (List.mem_cons_of_mem _ hw)) (findClass_of_methodNamed B.named) hK hl
section CZ
variable {p : Program} {l : Launch} {e : Env} {R : Room} {s : State} {m : MethodId} {args : Array Value} {below : List Frame} {meth : Method} {c : Code} {H : Heap} {locs : List Loc} {cells slots : Nat} {Q : State → Prop} {sa sv : Nat} {sf : Nat → Int32}
variable {y : MethodName} {bytes cc : ByteArray} {maxL nL n index j pc : Nat} {ret : Option FieldType} {own : String} {As rest st : List Value} {ls : Array Slot} {r : Int32} {Qc : Array Value → State → Outcome → State → Prop}
theorem rzV (hx : p.tables.exec = Jvm.exec) (hb : c.code = cc) (hml : c.maxLocals = nL) (hown : s.vm.findClass own = some m.cls) (hts : ∀ w ∈ gw, w.before args s = true) (hSX : SX sa sv sf (fun _ => False) s H) (hM : Met l y (Cond.code y bytes maxL ret :: gw) (rj j 0 0) (PZ sa sv sf (.ref sa :: As)) Qc 0 0 (fun _ => False)) (cI : CIv y bytes maxL ret n) (hyc : y.cls = "java/lang/String") (hlink : Cond.methodLink own index y ∈ gw) (hR : j + 1 ≤ R.frames ∧ 8 + (maxL + 11) + 40 * j ≤ R.locals) (hce : cells ≤ R.cells ∧ slots ≤ R.slots)
    (hn : As.length = n) (hsz : ls.size = nL) (hst : st = As.reverse ++ .ref sa :: rest) (hW : (rest.map fun v => v.category).sum ≤ 8) (hdg : decode cc pc = .ok (.invokevirtual index, 3)) : CallRun p l e R s m args below meth c H locs cells slots 0 0 (F0 m pc ls st) rest (Qc (Value.ref sa :: As).toArray) (fun _ => False) :=
  W.runV (As := As) (rest := rest) (b := sa) ⟨hx, hb, hml, hown, hts⟩ hM (cwVx hts cI hlink hR) ⟨PZ.blind, (by obtain ⟨cell, h1, h2, h3, -⟩ := hSX.1; rw [hyc]; exact ⟨cell, h1, h2, h3⟩), fun U hU hW => ⟨rfl, by show SX _ _ _ _ U U.heap; rw [hU]; exact hSX.moved hW.alike⟩⟩ rfl hn hsz hst (lv_room hW) hdg hce
theorem rzS (hx : p.tables.exec = Jvm.exec) (hb : c.code = cc) (hml : c.maxLocals = nL) (hown : s.vm.findClass own = some m.cls) (hts : ∀ w ∈ gw, w.before args s = true) (hSX : SX sa sv sf (fun _ => False) s H) (hM : Met l y (Cond.code y bytes maxL ret :: gw) (rj j 0 0) (PZ sa sv sf As) Qc 0 0 (fun _ => False)) (cI : CIs y bytes maxL ret n) (hlink : Cond.methodLink own index y ∈ gw) (hR : j + 1 ≤ R.frames ∧ 8 + (maxL + 11) + 40 * j ≤ R.locals) (hce : cells ≤ R.cells ∧ slots ≤ R.slots)
    (hn : As.length = n) (hsz : ls.size = nL) (hst : st = As.reverse ++ rest) (hW : (rest.map fun v => v.category).sum ≤ 8) (hdg : decode cc pc = .ok (.invokestatic index, 3)) : CallRun p l e R s m args below meth c H locs cells slots 0 0 (F0 m pc ls st) rest (Qc As.toArray) (fun _ => False) :=
  W.runS (As := As) (rest := rest) ⟨hx, hb, hml, hown, hts⟩ hM (cwSx hts cI hlink hR) ⟨PZ.blind, fun U hU hW => ⟨rfl, by show SX _ _ _ _ U U.heap; rw [hU]; exact hSX.moved hW.alike⟩⟩ rfl hn hsz hst (lv_room hW) hdg hce
/-- nothing comes back, nothing changes -/
def QcNone : Array Value → State → Outcome → State → Prop := fun _ st o t => o = .returned none ∧ t.heap = st.heap
theorem callN {a : Array Value} {g : JFrame} (hr : CallRun p l e R s m args below meth c H locs cells slots 0 0 g rest (QcNone a) (fun _ => False)) (kk : W p l e R s m args below meth c H locs cells slots Q { g with pc := g.pc + 3, stack := rest }) : W p l e R s m args below meth c H locs cells slots Q g := by
  intro T hT X
  obtain ⟨v, st₀, t, T', L, h0, X', hL, e1, ⟨hv, hh⟩, st⟩ := hr T hT X
  cases hv
  obtain ⟨t2, a1, b1⟩ := kk T' (by rw [e1, hh, h0]) (Stand.forget X' (fun q h => (hL q h).elim))
  exact ⟨t2, st t2 a1, b1⟩
end CZ
set_option maxHeartbeats 4000000 in
set_option maxRecDepth 100000 in
theorem j_coder (l : Launch) (sa sv : Nat) (sf : Nat → Int32)  : Met l yJ0_coder_7d493 (Cond.code yJ0_coder_7d493 cJ0_coder_7d493 1 (some .byte) :: gw) (rj 0 0 0) (PZ sa sv sf [.ref sa]) (QcRead 0) 0 0 (fun _ => False) := by
  refine MZ (by decide) (Nat.le_of_ble_eq_true rfl) (fun p e s m below meth c ls hx hb hml hr hlocks hts hown hSX hl => ?_)
  have hl : lv_has ls 1 [(0, .ref sa)] := hl
  refine va_gets hx hb hSX.2.2.2.2.1 va_S.rf hown (hts _ qf_J0_38) (fun _ h => h) dJ0_coder_7d493_0 ?_
  refine lv_if_eq (tgt := 13) hx hb dJ0_coder_7d493_3 rfl (fun c => absurd c (by decide)) (fun _ => ?_)
  refine lv_aload_n hx hb dJ0_coder_7d493_6 rfl (lv_at hl 0 rfl) ?_
  refine vk_getf hx hb hSX.2.1 va_S.rf hown (hts _ qf_J0_15) (fun _ h => h) dJ0_coder_7d493_7 ?_
  refine lv_goto (tgt := 14) hx hb dJ0_coder_7d493_10 rfl ?_
  exact W.zret hx hb hr rfl (fun t ht _ => ⟨rfl, ht⟩) (fun q h => by cases h) dJ0_coder_7d493_14
set_option maxHeartbeats 4000000 in
set_option maxRecDepth 100000 in
theorem j_isLatin1 (l : Launch) (sa sv : Nat) (sf : Nat → Int32)  : Met l yJ0_isLatin1_aae02 (Cond.code yJ0_isLatin1_aae02 cJ0_isLatin1_aae02 1 (some .boolean) :: gw) (rj 0 0 0) (PZ sa sv sf [.ref sa]) (QcRead 1) 0 0 (fun _ => False) := by
  refine MZ (by decide) (Nat.le_of_ble_eq_true rfl) (fun p e s m below meth c ls hx hb hml hr hlocks hts hown hSX hl => ?_)
  have hl : lv_has ls 1 [(0, .ref sa)] := hl
  refine va_gets hx hb hSX.2.2.2.2.1 va_S.rf hown (hts _ qf_J0_38) (fun _ h => h) dJ0_isLatin1_aae02_0 ?_
  refine lv_if_eq (tgt := 17) hx hb dJ0_isLatin1_aae02_3 rfl (fun c => absurd c (by decide)) (fun _ => ?_)
  refine lv_aload_n hx hb dJ0_isLatin1_aae02_6 rfl (lv_at hl 0 rfl) ?_
  refine vk_getf hx hb hSX.2.1 va_S.rf hown (hts _ qf_J0_15) (fun _ h => h) dJ0_isLatin1_aae02_7 ?_
  refine lv_if_ne (tgt := 17) hx hb dJ0_isLatin1_aae02_10 rfl (fun c => absurd rfl c) (fun _ => ?_)
  refine lv_iconst (v := 1) hx hb dJ0_isLatin1_aae02_13 (by decide) ?_
  refine lv_goto (tgt := 18) hx hb dJ0_isLatin1_aae02_14 rfl ?_
  exact ERz hx hb hr hlocks rfl rfl dJ0_isLatin1_aae02_18
set_option maxHeartbeats 4000000 in
set_option maxRecDepth 100000 in
theorem j_length (l : Launch) (sa sv : Nat) (sf : Nat → Int32)  : Met l yJ0_length_8abf5 (Cond.code yJ0_length_8abf5 cJ0_length_8abf5 1 (some .int) :: gw) (rj 1 0 0) (PZ sa sv sf [.ref sa]) (QcRead 124) 0 0 (fun _ => False) := by
  refine MZ (by decide) (Nat.le_of_ble_eq_true rfl) (fun p e s m below meth c ls hx hb hml hr hlocks hts hown hSX hl => ?_)
  have hl : lv_has ls 1 [(0, .ref sa)] := hl
  refine lv_aload_n hx hb dJ0_length_8abf5_0 rfl (lv_at hl 0 rfl) ?_
  refine vk_getf hx hb hSX.2.2.1 va_S.rf hown (hts _ qf_J0_9) (fun _ h => h) dJ0_length_8abf5_1 ?_
  refine va_tlen (v := 124) hx hb hSX.2.2.2.1 va_S.rf (by decide +kernel) dJ0_length_8abf5_4 ?_
  refine lv_aload_n hx hb dJ0_length_8abf5_5 rfl (lv_at hl 0 rfl) ?_
  refine W.callR (rzV (As := []) (rest := [.int 124]) hx hb hml hown hts hSX (j_coder l sa sv sf) ci_J0_coder_7d493 rfl qm_J0_335 ⟨Nat.le_of_ble_eq_true rfl, Nat.le_of_ble_eq_true rfl⟩ ⟨Nat.le_of_ble_eq_true rfl, Nat.le_of_ble_eq_true rfl⟩ rfl hl.1 rfl (Nat.le_of_ble_eq_true rfl) dJ0_length_8abf5_6) ?_
  refine W.eq (g2 := F0 m 9 ls [.int 0, .int 124]) rfl ?_
  refine lv_ishr hx hb dJ0_length_8abf5_9 ?_
  exact ERi hx hb hr hlocks (by decide +kernel) dJ0_length_8abf5_10
set_option maxHeartbeats 4000000 in
set_option maxRecDepth 100000 in
theorem j_check3n (l : Launch) (sa sv : Nat) (sf : Nat → Int32) (i : Nat) (hi : i < 124) : Met l yJ3_checkIndex_8e157 (Cond.code yJ3_checkIndex_8e157 cJ3_checkIndex_8e157 3 (some .int) :: gw) (rj 0 0 0) (PZ sa sv sf [.int (nI i), .int 124, .null]) (QcRead (nI i)) 0 0 (fun _ => False) := by
  refine MZ (by decide) (Nat.le_of_ble_eq_true rfl) (fun p e s m below meth c ls hx hb hml hr hlocks hts hown hSX hl => ?_)
  have hl : lv_has ls 3 [(0, .int (nI i)), (1, .int 124), (2, .null)] := hl
  refine lv_iload_n hx hb dJ3_checkIndex_8e157_0 rfl (lv_at hl 0 rfl) ?_
  refine lv_if_lt (tgt := 9) hx hb dJ3_checkIndex_8e157_1 rfl (fun c => absurd c (nI_pos (by omega))) (fun _ => ?_)
  refine lv_iload_n hx hb dJ3_checkIndex_8e157_4 rfl (lv_at hl 0 rfl) ?_
  refine lv_iload_n hx hb dJ3_checkIndex_8e157_5 rfl (lv_at hl 1 rfl) ?_
  refine lv_icmp_lt (tgt := 16) hx hb dJ3_checkIndex_8e157_6 rfl (fun _ => ?_) (fun c => absurd (nI_lt (a := i) (b := 124) hi (by decide)) c)
  refine lv_iload_n hx hb dJ3_checkIndex_8e157_16 rfl (lv_at hl 0 rfl) ?_
  exact ERi hx hb hr hlocks rfl dJ3_checkIndex_8e157_17
set_option maxHeartbeats 4000000 in
set_option maxRecDepth 100000 in
theorem j_check3r (l : Launch) (sa sv : Nat) (sf : Nat → Int32) (i : Nat) (hi : i < 124) (t : Nat) : Met l yJ3_checkIndex_8e157 (Cond.code yJ3_checkIndex_8e157 cJ3_checkIndex_8e157 3 (some .int) :: gw) (rj 0 0 0) (PZ sa sv sf [.int (nI i), .int 124, .ref t]) (QcRead (nI i)) 0 0 (fun _ => False) := by
  refine MZ (by decide) (Nat.le_of_ble_eq_true rfl) (fun p e s m below meth c ls hx hb hml hr hlocks hts hown hSX hl => ?_)
  have hl : lv_has ls 3 [(0, .int (nI i)), (1, .int 124), (2, .ref t)] := hl
  refine lv_iload_n hx hb dJ3_checkIndex_8e157_0 rfl (lv_at hl 0 rfl) ?_
  refine lv_if_lt (tgt := 9) hx hb dJ3_checkIndex_8e157_1 rfl (fun c => absurd c (nI_pos (by omega))) (fun _ => ?_)
  refine lv_iload_n hx hb dJ3_checkIndex_8e157_4 rfl (lv_at hl 0 rfl) ?_
  refine lv_iload_n hx hb dJ3_checkIndex_8e157_5 rfl (lv_at hl 1 rfl) ?_
  refine lv_icmp_lt (tgt := 16) hx hb dJ3_checkIndex_8e157_6 rfl (fun _ => ?_) (fun c => absurd (nI_lt (a := i) (b := 124) hi (by decide)) c)
  refine lv_iload_n hx hb dJ3_checkIndex_8e157_16 rfl (lv_at hl 0 rfl) ?_
  exact ERi hx hb hr hlocks rfl dJ3_checkIndex_8e157_17
set_option maxHeartbeats 4000000 in
set_option maxRecDepth 100000 in
theorem j_check (l : Launch) (sa sv : Nat) (sf : Nat → Int32) (i : Nat) (hi : i < 124) : Met l yJ0_checkIndex_df160 (Cond.code yJ0_checkIndex_df160 cJ0_checkIndex_df160 2 none :: gw) (rj 1 0 0) (PZ sa sv sf [.int (nI i), .int 124]) (QcNone) 0 0 (fun _ => False) := by
  refine MZ (by decide) (Nat.le_of_ble_eq_true rfl) (fun p e s m below meth c ls hx hb hml hr hlocks hts hown hSX hl => ?_)
  have hl : lv_has ls 2 [(0, .int (nI i)), (1, .int 124)] := hl
  refine lv_iload_n hx hb dJ0_checkIndex_df160_0 rfl (lv_at hl 0 rfl) ?_
  refine lv_iload_n hx hb dJ0_checkIndex_df160_1 rfl (lv_at hl 1 rfl) ?_
  rcases hSX.2.2.2.2.2 with hz | ⟨t, hz⟩
  ·
    refine va_gets hx hb hz va_S.rf hown (hts _ qf_J0_1053) (fun _ h => h) dJ0_checkIndex_df160_2 ?_
    refine W.callR (rzS (As := [.int (nI i), .int 124, .null]) (rest := []) hx hb hml hown hts hSX (j_check3n l sa sv sf i hi) ci_J3_checkIndex_8e157 qm_J0_1059 ⟨Nat.le_of_ble_eq_true rfl, Nat.le_of_ble_eq_true rfl⟩ ⟨Nat.le_of_ble_eq_true rfl, Nat.le_of_ble_eq_true rfl⟩ rfl hl.1 rfl (Nat.le_of_ble_eq_true rfl) dJ0_checkIndex_df160_5) ?_
    refine W.eq (g2 := F0 m 8 ls [.int (nI i)]) rfl ?_
    refine lv_pop hx hb dJ0_checkIndex_df160_8 rfl ?_
    exact W.vret hx hb hr (fun t ht _ => ⟨rfl, ht⟩) (fun q h => by cases h) dJ0_checkIndex_df160_9
  ·
    refine va_gets hx hb hz va_S.rf hown (hts _ qf_J0_1053) (fun _ h => h) dJ0_checkIndex_df160_2 ?_
    refine W.callR (rzS (As := [.int (nI i), .int 124, .ref t]) (rest := []) hx hb hml hown hts hSX (j_check3r l sa sv sf i hi t) ci_J3_checkIndex_8e157 qm_J0_1059 ⟨Nat.le_of_ble_eq_true rfl, Nat.le_of_ble_eq_true rfl⟩ ⟨Nat.le_of_ble_eq_true rfl, Nat.le_of_ble_eq_true rfl⟩ rfl hl.1 rfl (Nat.le_of_ble_eq_true rfl) dJ0_checkIndex_df160_5) ?_
    refine W.eq (g2 := F0 m 8 ls [.int (nI i)]) rfl ?_
    refine lv_pop hx hb dJ0_checkIndex_df160_8 rfl ?_
    exact W.vret hx hb hr (fun t ht _ => ⟨rfl, ht⟩) (fun q h => by cases h) dJ0_checkIndex_df160_9
/-- a byte as a char -/
def ch1 (b : Int32) : Int32 := ((b &&& 255).toUInt32 % 65536).toInt32
def SY (sa sv : Nat) (sf : Nat → Int32) (A : Nat → Prop) (U : State) (H : Heap) : Prop := va_O "java/lang/String" sa A U H ∧ va_OF "java/lang/String" "coder" "B" (.int 0) sa A U H ∧ va_OF "java/lang/String" "value" "[B" (.ref sv) sa A U H ∧ va_T .byte sv 125 (fun j => .int (sf j)) A U H ∧ va_Z "java/lang/String" "COMPACT_STRINGS" "Z" (.int 1) A U H ∧ va_Zq "jdk/internal/util/Preconditions" "SIOOBE_FORMATTER" "Ljava/util/function/BiFunction;" A U H
theorem SY.moved {sa sv : Nat} {sf : Nat → Int32} {A : Nat → Prop} {u U : State} {H : Heap} (hvm : u.vm.Alike U.vm) (h : SY sa sv sf A u H) : SY sa sv sf A U H := ⟨h.1.moved hvm, h.2.1.moved hvm, h.2.2.1.moved hvm, h.2.2.2.1.moved hvm, h.2.2.2.2.1.moved hvm, h.2.2.2.2.2.moved hvm⟩
theorem SY.kept {sa sv : Nat} {sf : Nat → Int32} {A : Nat → Prop} {U : State} {H H1 : Heap} (h : SY sa sv sf A U H) (hq : ∀ a : Nat, a < H.size → ¬ A a → H1[a]? = H[a]?) : SY sa sv sf A U H1 := ⟨h.1.kept hq, h.2.1.kept hq, h.2.2.1.kept hq, h.2.2.2.1.kept hq, h.2.2.2.2.1.kept hq, h.2.2.2.2.2.kept hq⟩
theorem SY.narrow {sa sv : Nat} {sf : Nat → Int32} {A B : Nat → Prop} {U : State} {H : Heap} (h : SY sa sv sf A U H) (hq : ∀ q, B q → A q) : SY sa sv sf B U H := ⟨h.1.narrow hq, h.2.1.narrow hq, h.2.2.1.narrow hq, h.2.2.2.1.narrow hq, h.2.2.2.2.1.narrow hq, h.2.2.2.2.2.narrow hq⟩
def PY (sa sv : Nat) (sf : Nat → Int32) (av : List Value) : Array Value → State → Prop := va_Pc av (fun U => SY sa sv sf (fun _ => False) U U.heap)
theorem PY.blind {sa sv : Nat} {sf : Nat → Int32} {av : List Value} : FrameBlind (PY sa sv sf av) := fun _ U g mk q => ⟨q.1, SY.moved (u := U) (U := U.calling g mk _) (Vm.Alike.refl U.vm) q.2⟩
theorem MYZ {l : Launch} {y : MethodName} {cc : ByteArray} {maxL : Nat} {ret : Option FieldType} {j : Nat} {sa sv : Nat} {sf : Nat → Int32} {av : List Value} {Qc : Array Value → State → Outcome → State → Prop} (hy : plainName y.cls = true) (hlen : (lg_sl av).length ≤ maxL)
    (body : ∀ (p : Program) (e : Env) (s : State) (m : MethodId) (below : List Frame) (meth : Method) (c : Code) (ls : Array Slot), p.tables.exec = Jvm.exec → c.code = cc → c.maxLocals = maxL → meth.sig.returnType = ret → meth.locks = false → (∀ w ∈ gw, w.before av.toArray s = true) → s.vm.findClass y.cls = some m.cls → SY sa sv sf (fun _ => False) s s.heap → lv_has ls maxL (lv_args 0 av) → W p l e (rj j 0 0) s m av.toArray below meth c s.heap [] 0 0 (MQ below Qc av.toArray s 0 0 (fun _ => False)) (F0 m 0 ls [])) : Met l y (Cond.code y cc maxL ret :: gw) (rj j 0 0) (PY sa sv sf av) Qc 0 0 (fun _ => False) := by
  refine Met.ofW (cc := cc) (maxL := maxL) (ret := ret) hy rfl ?_
  intro p e s m args below meth c s₁ B hml hv
  obtain ⟨rfl, hK⟩ := hv
  have hl := lv_entry av (n := maxL) hlen
  rw [lg_entry_eq]
  generalize (lg_sl av ++ List.replicate (maxL - (lg_sl av).length) Slot.unset).toArray = ls at hl ⊢
  have hts := atoms_spec (ws := Cond.code y cc maxL ret :: gw) B.pre
  exact body p e s m below meth c ls B.exec B.bytes hml B.returns B.notSynchronized (fun w hw => hts w (List.mem_cons_of_mem _ hw)) (findClass_of_methodNamed B.named) hK hl
section CY
variable {p : Program} {l : Launch} {e : Env} {R : Room} {s : State} {m : MethodId} {args : Array Value} {below : List Frame} {meth : Method} {c : Code} {H : Heap} {locs : List Loc} {cells slots : Nat} {Q : State → Prop} {sa sv : Nat} {sf : Nat → Int32}
variable {y : MethodName} {bytes cc : ByteArray} {maxL nL n index j pc : Nat} {ret : Option FieldType} {own : String} {As rest st : List Value} {ls : Array Slot} {r : Int32} {Qc : Array Value → State → Outcome → State → Prop}
theorem rwV (hx : p.tables.exec = Jvm.exec) (hb : c.code = cc) (hml : c.maxLocals = nL) (hown : s.vm.findClass own = some m.cls) (hts : ∀ w ∈ gw, w.before args s = true) (hSX : SY sa sv sf (fun _ => False) s H) (hM : Met l y (Cond.code y bytes maxL ret :: gw) (rj j 0 0) (PY sa sv sf (.ref sa :: As)) Qc 0 0 (fun _ => False)) (cI : CIv y bytes maxL ret n) (hyc : y.cls = "java/lang/String") (hlink : Cond.methodLink own index y ∈ gw) (hR : j + 1 ≤ R.frames ∧ 8 + (maxL + 11) + 40 * j ≤ R.locals) (hce : cells ≤ R.cells ∧ slots ≤ R.slots)
    (hn : As.length = n) (hsz : ls.size = nL) (hst : st = As.reverse ++ .ref sa :: rest) (hW : (rest.map fun v => v.category).sum ≤ 8) (hdg : decode cc pc = .ok (.invokevirtual index, 3)) : CallRun p l e R s m args below meth c H locs cells slots 0 0 (F0 m pc ls st) rest (Qc (Value.ref sa :: As).toArray) (fun _ => False) :=
  W.runV (As := As) (rest := rest) (b := sa) ⟨hx, hb, hml, hown, hts⟩ hM (cwVx hts cI hlink hR) ⟨PY.blind, (by obtain ⟨cell, h1, h2, h3, -⟩ := hSX.1; rw [hyc]; exact ⟨cell, h1, h2, h3⟩), fun U hU hW => ⟨rfl, by show SY _ _ _ _ U U.heap; rw [hU]; exact hSX.moved hW.alike⟩⟩ rfl hn hsz hst (lv_room hW) hdg hce
theorem rwS (hx : p.tables.exec = Jvm.exec) (hb : c.code = cc) (hml : c.maxLocals = nL) (hown : s.vm.findClass own = some m.cls) (hts : ∀ w ∈ gw, w.before args s = true) (hSX : SY sa sv sf (fun _ => False) s H) (hM : Met l y (Cond.code y bytes maxL ret :: gw) (rj j 0 0) (PY sa sv sf As) Qc 0 0 (fun _ => False)) (cI : CIs y bytes maxL ret n) (hlink : Cond.methodLink own index y ∈ gw) (hR : j + 1 ≤ R.frames ∧ 8 + (maxL + 11) + 40 * j ≤ R.locals) (hce : cells ≤ R.cells ∧ slots ≤ R.slots)
    (hn : As.length = n) (hsz : ls.size = nL) (hst : st = As.reverse ++ rest) (hW : (rest.map fun v => v.category).sum ≤ 8) (hdg : decode cc pc = .ok (.invokestatic index, 3)) : CallRun p l e R s m args below meth c H locs cells slots 0 0 (F0 m pc ls st) rest (Qc As.toArray) (fun _ => False) :=
  W.runS (As := As) (rest := rest) ⟨hx, hb, hml, hown, hts⟩ hM (cwSx hts cI hlink hR) ⟨PY.blind, fun U hU hW => ⟨rfl, by show SY _ _ _ _ U U.heap; rw [hU]; exact hSX.moved hW.alike⟩⟩ rfl hn hsz hst (lv_room hW) hdg hce
end CY
set_option maxHeartbeats 4000000 in
set_option maxRecDepth 100000 in
theorem jm_coder (l : Launch) (sa sv : Nat) (sf : Nat → Int32)  : Met l yJ0_coder_7d493 (Cond.code yJ0_coder_7d493 cJ0_coder_7d493 1 (some .byte) :: gw) (rj 0 0 0) (PY sa sv sf [.ref sa]) (QcRead 0) 0 0 (fun _ => False) := by
  refine MYZ (by decide) (Nat.le_of_ble_eq_true rfl) (fun p e s m below meth c ls hx hb hml hr hlocks hts hown hSY hl => ?_)
  have hl : lv_has ls 1 [(0, .ref sa)] := hl
  refine va_gets hx hb hSY.2.2.2.2.1 va_S.rf hown (hts _ qf_J0_38) (fun _ h => h) dJ0_coder_7d493_0 ?_
  refine lv_if_eq (tgt := 13) hx hb dJ0_coder_7d493_3 rfl (fun c => absurd c (by decide)) (fun _ => ?_)
  refine lv_aload_n hx hb dJ0_coder_7d493_6 rfl (lv_at hl 0 rfl) ?_
  refine vk_getf hx hb hSY.2.1 va_S.rf hown (hts _ qf_J0_15) (fun _ h => h) dJ0_coder_7d493_7 ?_
  refine lv_goto (tgt := 14) hx hb dJ0_coder_7d493_10 rfl ?_
  exact W.zret hx hb hr rfl (fun t ht _ => ⟨rfl, ht⟩) (fun q h => by cases h) dJ0_coder_7d493_14
set_option maxHeartbeats 4000000 in
set_option maxRecDepth 100000 in
theorem jm_isLatin1 (l : Launch) (sa sv : Nat) (sf : Nat → Int32)  : Met l yJ0_isLatin1_aae02 (Cond.code yJ0_isLatin1_aae02 cJ0_isLatin1_aae02 1 (some .boolean) :: gw) (rj 0 0 0) (PY sa sv sf [.ref sa]) (QcRead 1) 0 0 (fun _ => False) := by
  refine MYZ (by decide) (Nat.le_of_ble_eq_true rfl) (fun p e s m below meth c ls hx hb hml hr hlocks hts hown hSY hl => ?_)
  have hl : lv_has ls 1 [(0, .ref sa)] := hl
  refine va_gets hx hb hSY.2.2.2.2.1 va_S.rf hown (hts _ qf_J0_38) (fun _ h => h) dJ0_isLatin1_aae02_0 ?_
  refine lv_if_eq (tgt := 17) hx hb dJ0_isLatin1_aae02_3 rfl (fun c => absurd c (by decide)) (fun _ => ?_)
  refine lv_aload_n hx hb dJ0_isLatin1_aae02_6 rfl (lv_at hl 0 rfl) ?_
  refine vk_getf hx hb hSY.2.1 va_S.rf hown (hts _ qf_J0_15) (fun _ h => h) dJ0_isLatin1_aae02_7 ?_
  refine lv_if_ne (tgt := 17) hx hb dJ0_isLatin1_aae02_10 rfl (fun c => absurd rfl c) (fun _ => ?_)
  refine lv_iconst (v := 1) hx hb dJ0_isLatin1_aae02_13 (by decide) ?_
  refine lv_goto (tgt := 18) hx hb dJ0_isLatin1_aae02_14 rfl ?_
  exact ERz hx hb hr hlocks rfl rfl dJ0_isLatin1_aae02_18
set_option maxHeartbeats 4000000 in
set_option maxRecDepth 100000 in
theorem jm_length (l : Launch) (sa sv : Nat) (sf : Nat → Int32)  : Met l yJ0_length_8abf5 (Cond.code yJ0_length_8abf5 cJ0_length_8abf5 1 (some .int) :: gw) (rj 1 0 0) (PY sa sv sf [.ref sa]) (QcRead 125) 0 0 (fun _ => False) := by
  refine MYZ (by decide) (Nat.le_of_ble_eq_true rfl) (fun p e s m below meth c ls hx hb hml hr hlocks hts hown hSY hl => ?_)
  have hl : lv_has ls 1 [(0, .ref sa)] := hl
  refine lv_aload_n hx hb dJ0_length_8abf5_0 rfl (lv_at hl 0 rfl) ?_
  refine vk_getf hx hb hSY.2.2.1 va_S.rf hown (hts _ qf_J0_9) (fun _ h => h) dJ0_length_8abf5_1 ?_
  refine va_tlen (v := 125) hx hb hSY.2.2.2.1 va_S.rf (by decide +kernel) dJ0_length_8abf5_4 ?_
  refine lv_aload_n hx hb dJ0_length_8abf5_5 rfl (lv_at hl 0 rfl) ?_
  refine W.callR (rwV (As := []) (rest := [.int 125]) hx hb hml hown hts hSY (jm_coder l sa sv sf) ci_J0_coder_7d493 rfl qm_J0_335 ⟨Nat.le_of_ble_eq_true rfl, Nat.le_of_ble_eq_true rfl⟩ ⟨Nat.le_of_ble_eq_true rfl, Nat.le_of_ble_eq_true rfl⟩ rfl hl.1 rfl (Nat.le_of_ble_eq_true rfl) dJ0_length_8abf5_6) ?_
  refine W.eq (g2 := F0 m 9 ls [.int 0, .int 125]) rfl ?_
  refine lv_ishr hx hb dJ0_length_8abf5_9 ?_
  exact ERi hx hb hr hlocks (by decide +kernel) dJ0_length_8abf5_10
set_option maxHeartbeats 4000000 in
set_option maxRecDepth 100000 in
theorem jm_check3n (l : Launch) (sa sv : Nat) (sf : Nat → Int32) (i : Nat) (hi : i < 125) : Met l yJ3_checkIndex_8e157 (Cond.code yJ3_checkIndex_8e157 cJ3_checkIndex_8e157 3 (some .int) :: gw) (rj 0 0 0) (PY sa sv sf [.int (nI i), .int 125, .null]) (QcRead (nI i)) 0 0 (fun _ => False) := by
  refine MYZ (by decide) (Nat.le_of_ble_eq_true rfl) (fun p e s m below meth c ls hx hb hml hr hlocks hts hown hSY hl => ?_)
  have hl : lv_has ls 3 [(0, .int (nI i)), (1, .int 125), (2, .null)] := hl
  refine lv_iload_n hx hb dJ3_checkIndex_8e157_0 rfl (lv_at hl 0 rfl) ?_
  refine lv_if_lt (tgt := 9) hx hb dJ3_checkIndex_8e157_1 rfl (fun c => absurd c (nI_pos (by omega))) (fun _ => ?_)
  refine lv_iload_n hx hb dJ3_checkIndex_8e157_4 rfl (lv_at hl 0 rfl) ?_
  refine lv_iload_n hx hb dJ3_checkIndex_8e157_5 rfl (lv_at hl 1 rfl) ?_
  refine lv_icmp_lt (tgt := 16) hx hb dJ3_checkIndex_8e157_6 rfl (fun _ => ?_) (fun c => absurd (nI_lt (a := i) (b := 125) hi (by decide)) c)
  refine lv_iload_n hx hb dJ3_checkIndex_8e157_16 rfl (lv_at hl 0 rfl) ?_
  exact ERi hx hb hr hlocks rfl dJ3_checkIndex_8e157_17
set_option maxHeartbeats 4000000 in
set_option maxRecDepth 100000 in
theorem jm_check3r (l : Launch) (sa sv : Nat) (sf : Nat → Int32) (i : Nat) (hi : i < 125) (t : Nat) : Met l yJ3_checkIndex_8e157 (Cond.code yJ3_checkIndex_8e157 cJ3_checkIndex_8e157 3 (some .int) :: gw) (rj 0 0 0) (PY sa sv sf [.int (nI i), .int 125, .ref t]) (QcRead (nI i)) 0 0 (fun _ => False) := by
  refine MYZ (by decide) (Nat.le_of_ble_eq_true rfl) (fun p e s m below meth c ls hx hb hml hr hlocks hts hown hSY hl => ?_)
  have hl : lv_has ls 3 [(0, .int (nI i)), (1, .int 125), (2, .ref t)] := hl
  refine lv_iload_n hx hb dJ3_checkIndex_8e157_0 rfl (lv_at hl 0 rfl) ?_
  refine lv_if_lt (tgt := 9) hx hb dJ3_checkIndex_8e157_1 rfl (fun c => absurd c (nI_pos (by omega))) (fun _ => ?_)
  refine lv_iload_n hx hb dJ3_checkIndex_8e157_4 rfl (lv_at hl 0 rfl) ?_
  refine lv_iload_n hx hb dJ3_checkIndex_8e157_5 rfl (lv_at hl 1 rfl) ?_
  refine lv_icmp_lt (tgt := 16) hx hb dJ3_checkIndex_8e157_6 rfl (fun _ => ?_) (fun c => absurd (nI_lt (a := i) (b := 125) hi (by decide)) c)
  refine lv_iload_n hx hb dJ3_checkIndex_8e157_16 rfl (lv_at hl 0 rfl) ?_
  exact ERi hx hb hr hlocks rfl dJ3_checkIndex_8e157_17
set_option maxHeartbeats 4000000 in
set_option maxRecDepth 100000 in
theorem jm_check (l : Launch) (sa sv : Nat) (sf : Nat → Int32) (i : Nat) (hi : i < 125) : Met l yJ0_checkIndex_df160 (Cond.code yJ0_checkIndex_df160 cJ0_checkIndex_df160 2 none :: gw) (rj 1 0 0) (PY sa sv sf [.int (nI i), .int 125]) (QcNone) 0 0 (fun _ => False) := by
  refine MYZ (by decide) (Nat.le_of_ble_eq_true rfl) (fun p e s m below meth c ls hx hb hml hr hlocks hts hown hSY hl => ?_)
  have hl : lv_has ls 2 [(0, .int (nI i)), (1, .int 125)] := hl
  refine lv_iload_n hx hb dJ0_checkIndex_df160_0 rfl (lv_at hl 0 rfl) ?_
  refine lv_iload_n hx hb dJ0_checkIndex_df160_1 rfl (lv_at hl 1 rfl) ?_
  rcases hSY.2.2.2.2.2 with hz | ⟨t, hz⟩
  ·
    refine va_gets hx hb hz va_S.rf hown (hts _ qf_J0_1053) (fun _ h => h) dJ0_checkIndex_df160_2 ?_
    refine W.callR (rwS (As := [.int (nI i), .int 125, .null]) (rest := []) hx hb hml hown hts hSY (jm_check3n l sa sv sf i hi) ci_J3_checkIndex_8e157 qm_J0_1059 ⟨Nat.le_of_ble_eq_true rfl, Nat.le_of_ble_eq_true rfl⟩ ⟨Nat.le_of_ble_eq_true rfl, Nat.le_of_ble_eq_true rfl⟩ rfl hl.1 rfl (Nat.le_of_ble_eq_true rfl) dJ0_checkIndex_df160_5) ?_
    refine W.eq (g2 := F0 m 8 ls [.int (nI i)]) rfl ?_
    refine lv_pop hx hb dJ0_checkIndex_df160_8 rfl ?_
    exact W.vret hx hb hr (fun t ht _ => ⟨rfl, ht⟩) (fun q h => by cases h) dJ0_checkIndex_df160_9
  ·
    refine va_gets hx hb hz va_S.rf hown (hts _ qf_J0_1053) (fun _ h => h) dJ0_checkIndex_df160_2 ?_
    refine W.callR (rwS (As := [.int (nI i), .int 125, .ref t]) (rest := []) hx hb hml hown hts hSY (jm_check3r l sa sv sf i hi t) ci_J3_checkIndex_8e157 qm_J0_1059 ⟨Nat.le_of_ble_eq_true rfl, Nat.le_of_ble_eq_true rfl⟩ ⟨Nat.le_of_ble_eq_true rfl, Nat.le_of_ble_eq_true rfl⟩ rfl hl.1 rfl (Nat.le_of_ble_eq_true rfl) dJ0_checkIndex_df160_5) ?_
    refine W.eq (g2 := F0 m 8 ls [.int (nI i)]) rfl ?_
    refine lv_pop hx hb dJ0_checkIndex_df160_8 rfl ?_
    exact W.vret hx hb hr (fun t ht _ => ⟨rfl, ht⟩) (fun q h => by cases h) dJ0_checkIndex_df160_9
set_option maxHeartbeats 4000000 in
set_option maxRecDepth 100000 in
theorem jm_charAt1 (l : Launch) (sa sv : Nat) (sf : Nat → Int32) (i : Nat) (hi : i < 125) : Met l yJ1_charAt_3b067 (Cond.code yJ1_charAt_3b067 cJ1_charAt_3b067 2 (some .char) :: gw) (rj 2 0 0) (PY sa sv sf [.ref sv, .int (nI i)]) (QcRead (ch1 (sf i))) 0 0 (fun _ => False) := by
  refine MYZ (by decide) (Nat.le_of_ble_eq_true rfl) (fun p e s m below meth c ls hx hb hml hr hlocks hts hown hSY hl => ?_)
  have hl : lv_has ls 2 [(0, .ref sv), (1, .int (nI i))] := hl
  refine lv_iload_n hx hb dJ1_charAt_3b067_0 rfl (lv_at hl 1 rfl) ?_
  refine lv_aload_n hx hb dJ1_charAt_3b067_1 rfl (lv_at hl 0 rfl) ?_
  refine va_tlen (v := 125) hx hb hSY.2.2.2.1 va_S.rf (by decide +kernel) dJ1_charAt_3b067_2 ?_
  refine callN (rwS (As := [.int (nI i), .int 125]) (rest := []) hx hb hml hown hts hSY (jm_check l sa sv sf i hi) ci_J0_checkIndex_df160 qm_J1_9 ⟨Nat.le_of_ble_eq_true rfl, Nat.le_of_ble_eq_true rfl⟩ ⟨Nat.le_of_ble_eq_true rfl, Nat.le_of_ble_eq_true rfl⟩ rfl hl.1 rfl (Nat.le_of_ble_eq_true rfl) dJ1_charAt_3b067_3) ?_
  refine W.eq (g2 := F0 m 6 ls []) rfl ?_
  refine lv_aload_n hx hb dJ1_charAt_3b067_6 rfl (lv_at hl 0 rfl) ?_
  refine lv_iload_n hx hb dJ1_charAt_3b067_7 rfl (lv_at hl 1 rfl) ?_
  refine va_tb hx hb hSY.2.2.2.1 va_S.rf (vp_in_nI hi (by decide)) rfl dJ1_charAt_3b067_8 ?_
  refine lv_sipush (v := 255) hx hb dJ1_charAt_3b067_9 (by decide) ?_
  refine lv_iand hx hb dJ1_charAt_3b067_12 ?_
  refine lv_topi (fun x ex => ?_)
  refine lv_i2c (v := (x.toUInt32 % 65536).toInt32) hx hb dJ1_charAt_3b067_13 rfl ?_
  exact W.zret hx hb hr (pk_nc x) (fun t ht _ => ⟨by rw [ex, nI_clamp (show i < 2 ^ 31 by omega)]; rfl, ht⟩) (fun q h => by cases h) dJ1_charAt_3b067_14
set_option maxHeartbeats 4000000 in
set_option maxRecDepth 100000 in
theorem jm_charAt (l : Launch) (sa sv : Nat) (sf : Nat → Int32) (i : Nat) (hi : i < 125) : Met l yJ0_charAt_5068e (Cond.code yJ0_charAt_5068e cJ0_charAt_5068e 2 (some .char) :: gw) (rj 3 0 0) (PY sa sv sf [.ref sa, .int (nI i)]) (QcRead (ch1 (sf i))) 0 0 (fun _ => False) := by
  refine MYZ (by decide) (Nat.le_of_ble_eq_true rfl) (fun p e s m below meth c ls hx hb hml hr hlocks hts hown hSY hl => ?_)
  have hl : lv_has ls 2 [(0, .ref sa), (1, .int (nI i))] := hl
  refine lv_aload_n hx hb dJ0_charAt_5068e_0 rfl (lv_at hl 0 rfl) ?_
  refine W.callR (rwV (As := []) (rest := []) hx hb hml hown hts hSY (jm_isLatin1 l sa sv sf) ci_J0_isLatin1_aae02 rfl qm_J0_492 ⟨Nat.le_of_ble_eq_true rfl, Nat.le_of_ble_eq_true rfl⟩ ⟨Nat.le_of_ble_eq_true rfl, Nat.le_of_ble_eq_true rfl⟩ rfl hl.1 rfl (Nat.le_of_ble_eq_true rfl) dJ0_charAt_5068e_1) ?_
  refine W.eq (g2 := F0 m 4 ls [.int 1]) rfl ?_
  refine lv_if_eq (tgt := 16) hx hb dJ0_charAt_5068e_4 rfl (fun c => absurd c (by decide)) (fun _ => ?_)
  refine lv_aload_n hx hb dJ0_charAt_5068e_7 rfl (lv_at hl 0 rfl) ?_
  refine vk_getf hx hb hSY.2.2.1 va_S.rf hown (hts _ qf_J0_9) (fun _ h => h) dJ0_charAt_5068e_8 ?_
  refine lv_iload_n hx hb dJ0_charAt_5068e_11 rfl (lv_at hl 1 rfl) ?_
  refine W.callR (rwS (As := [.ref sv, .int (nI i)]) (rest := []) hx hb hml hown hts hSY (jm_charAt1 l sa sv sf i hi) ci_J1_charAt_3b067 qm_J0_495 ⟨Nat.le_of_ble_eq_true rfl, Nat.le_of_ble_eq_true rfl⟩ ⟨Nat.le_of_ble_eq_true rfl, Nat.le_of_ble_eq_true rfl⟩ rfl hl.1 rfl (Nat.le_of_ble_eq_true rfl) dJ0_charAt_5068e_12) ?_
  refine W.eq (g2 := F0 m 15 ls [.int (ch1 (sf i))]) rfl ?_
  exact W.zret hx hb hr (pk_nc _) (fun t ht _ => ⟨rfl, ht⟩) (fun q h => by cases h) dJ0_charAt_5068e_15
def keyT : String := " rock ice law far round at rank price swing wears from to first last sent week wear order chance when loop end stop rules in "
def keyB : List Int32 := [32, 114, 111, 99, 107, 32, 105, 99, 101, 32, 108, 97, 119, 32, 102, 97, 114, 32, 114, 111, 117, 110, 100, 32, 97, 116, 32, 114, 97, 110, 107, 32, 112, 114, 105, 99, 101, 32, 115, 119, 105, 110, 103, 32, 119, 101, 97, 114, 115, 32, 102, 114, 111, 109, 32, 116, 111, 32, 102, 105, 114, 115, 116, 32, 108, 97, 115, 116, 32, 115, 101, 110, 116, 32, 119, 101, 101, 107, 32, 119, 101, 97, 114, 32, 111, 114, 100, 101, 114, 32, 99, 104, 97, 110, 99, 101, 32, 119, 104, 101, 110, 32, 108, 111, 111, 112, 32, 101, 110, 100, 32, 115, 116, 111, 112, 32, 114, 117, 108, 101, 115, 32, 105, 110, 32]
def keyF : Nat → Int32 := fun j => keyB.getD j 0
theorem key_ch : ∀ j : Fin 125, ch1 (keyF j.val) = keyF j.val := by decide +kernel
theorem key_rg0 : ∀ j : Fin 125, 32 ≤ (keyF j.val).toInt ∧ (keyF j.val).toInt ≤ 122 := by decide +kernel
theorem key_rg (z : Int) (h : 0 ≤ z ∧ z < 125) : 32 ≤ gz keyF z ∧ gz keyF z ≤ 122 := key_rg0 ⟨z.toNat, by omega⟩
theorem jm_charZ (l : Launch) (sa sv : Nat) (z : Int) (h : 0 ≤ z ∧ z < 125) : Met l yJ0_charAt_5068e (Cond.code yJ0_charAt_5068e cJ0_charAt_5068e 2 (some .char) :: gw) (rj 3 0 0) (PY sa sv keyF [.ref sa, .int (iZ z)]) (QcRead (iZ (gz keyF z))) 0 0 (fun _ => False) := by
  obtain ⟨n, rfl⟩ := Int.eq_ofNat_of_zero_le h.1
  have hn : n < 125 := by omega
  have e : iZ (gz keyF (n : Int)) = ch1 (keyF n) := by
    rw [key_ch ⟨n, hn⟩]
    exact Int32.ofInt_toInt _
  rw [e, iZ_nat]
  exact jm_charAt l sa sv keyF n hn
def PSm (sa sv : Nat) (D : va_G) (k : Nat → ClassId) (av : List Value) (pre : va_W) (sz : Nat) : Array Value → State → Prop := va_Pc av (fun U => U.heap.size = sz ∧ va_P D vwCl pre U.heap ∧ KK D k U ∧ va_D (fun _ => True) pre ∧ SY sa sv keyF (va_A pre sz) U U.heap ∧ vk_R RX12 175 keyT sa U)
theorem PSm.blind {sa sv : Nat} {D : va_G} {k : Nat → ClassId} {av : List Value} {pre : va_W} {sz : Nat} : FrameBlind (PSm sa sv D k av pre sz) := fun _ U g mk q => ⟨q.1, q.2.1, q.2.2.1, q.2.2.2.1.call, q.2.2.2.2.1, SY.moved (u := U) (U := U.calling g mk _) (Vm.Alike.refl U.vm) q.2.2.2.2.2.1, vk_R.same (u := U) rfl q.2.2.2.2.2.2⟩
/-- a method that may look at the text of the WORDS -/
def SD {σ : Type} (sa sv : Nat) (l : Launch) (y : MethodName) (cc : ByteArray) (maxL : Nat) (ret : Option FieldType) (j : Nat) (D : va_G) (k : Nat → ClassId) (av : List Value) (pre : va_W) (val : σ → Option Value) (φ : σ → Prop) (post : σ → va_W) : Prop := ∀ sz : Nat, Met l y (Cond.code y cc maxL ret :: gw) (rj j 0 0) (PSm sa sv D k av pre sz) (QW val φ post D (va_A pre sz)) 0 0 (va_A pre sz)
theorem MSS {σ : Type} {sa sv : Nat} {l : Launch} {y : MethodName} {cc : ByteArray} {maxL : Nat} {ret : Option FieldType} {j : Nat} {D : va_G} {k : Nat → ClassId} {av : List Value} {pre : va_W} {val : σ → Option Value} {φ : σ → Prop} {post : σ → va_W} (hy : plainName y.cls = true) (hlen : (lg_sl av).length ≤ maxL)
    (body : ∀ (p : Program) (e : Env) (s : State) (m : MethodId) (below : List Frame) (meth : Method) (c : Code) (ls : Array Slot) (A : Nat → Prop), p.tables.exec = Jvm.exec → c.code = cc → c.maxLocals = maxL → meth.sig.returnType = ret → meth.locks = false → meth.name = y.name → (∀ w ∈ gw, w.before av.toArray s = true) → s.vm.findClass y.cls = some m.cls → KK D k s → va_P D vwCl pre s.heap → va_D A pre → va_S A s.heap s.heap [] → (∀ q : Nat, s.heap.size ≤ q → A q) → SY sa sv keyF A s s.heap → vk_R RX12 175 keyT sa s → lv_has ls maxL (lv_args 0 av) → W p l e (rj j 0 0) s m av.toArray below meth c s.heap [] 0 0 (MQ below (QW val φ post D A) av.toArray s 0 0 A) (F0 m 0 ls [])) : SD sa sv l y cc maxL ret j D k av pre val φ post := by
  intro sz
  refine Met.ofW (cc := cc) (maxL := maxL) (ret := ret) hy rfl ?_
  intro p e s m args below meth c s₁ B hml hv
  obtain ⟨rfl, hsz, hP, hK, hD0, hSY, hRR⟩ := hv
  subst hsz
  have hl := lv_entry av (n := maxL) hlen
  rw [lg_entry_eq]
  generalize (lg_sl av ++ List.replicate (maxL - (lg_sl av).length) Slot.unset).toArray = ls at hl ⊢
  have hts := atoms_spec (ws := Cond.code y cc maxL ret :: gw) B.pre
  exact body p e s m below meth c ls (va_A pre s.heap.size) B.exec B.bytes hml B.returns B.notSynchronized (name_of_methodNamed B.named B.method).1 (fun w hw => hts w (List.mem_cons_of_mem _ hw)) (findClass_of_methodNamed B.named) hK hP (hD0.self (sz := s.heap.size)) va_S.rf (fun q h => Or.inr h) hSY hRR hl
section CS
variable {p : Program} {l : Launch} {e : Env} {R : Room} {s : State} {m : MethodId} {args : Array Value} {below : List Frame} {meth : Method} {c : Code} {H : Heap} {locs : List Loc} {cells slots : Nat} {Q : State → Prop} {D : va_G} {k : Nat → ClassId} {A : Nat → Prop}
variable {y : MethodName} {bytes cc : ByteArray} {maxL nL n index j pc b ci N : Nat} {ret : Option FieldType} {own : String} {As rest st : List Value} {ls : Array Slot} {wc wr ws : va_W} {sa sv : Nat} {T : u_T} {fs : List Value}
theorem CSV {σ : Type} {val : σ → Option Value} {φ : σ → Prop} {post : σ → va_W} (hx : p.tables.exec = Jvm.exec) (hb : c.code = cc) (hml : c.maxLocals = nL) (hown : s.vm.findClass own = some m.cls) (hts : ∀ w ∈ gw, w.before args s = true) (hK : KK D k s) (hP : va_P D vwCl ws H) (hD : va_D A ws) (hS : va_S A s.heap H locs) (hA : ∀ q : Nat, s.heap.size ≤ q → A q) (hSY : SY sa sv keyF A s s.heap) (hRR : vk_R RX12 175 keyT sa s) (hM : SD sa sv l y bytes maxL ret j D k (.ref b :: As) wc val φ post) (cI : CIv y bytes maxL ret n) (hlink : Cond.methodLink own index y ∈ gw) (hR : j + 1 ≤ R.frames ∧ 8 + (maxL + 11) + 40 * j ≤ R.locals) (hce : cells + 0 ≤ R.cells ∧ slots + 0 ≤ R.slots)
    (isC isR : List Nat) (hC : isC.map (fun i => ws[i]?) = wc.map some) (hC2 : isC.filterMap (fun i => ws[i]?) = wc) (hRr : isR.map (fun i => ws[i]?) = wr.map some) (hnC : va_nd isC = true) (hnR : va_nd isR = true) (hdis : ∀ i ∈ isR, i ∉ isC)
    (q0 : Nat) (he : wc[q0]? = some (b, .inr (ci, fs))) (hc : vwCl[ci]? = some (y.cls, T, N)) (hn : As.length = n) (hsz : ls.size = nL) (hst : st = As.reverse ++ .ref b :: rest) (hW : (rest.map fun v => v.category).sum ≤ 8) (hdg : decode cc pc = .ok (.invokevirtual index, 3))
    (kk : ∀ (u : σ) (H1 : Heap) (locs1 : List Loc), φ u → va_P D vwCl (wr ++ post u) H1 → va_D A (wr ++ post u) → va_S A s.heap H1 locs1 → W p l e R s m args below meth c H1 locs1 (cells + 0) (slots + 0) Q (F0 m (pc + 3) ls ((val u).toList ++ rest))) : W p l e R s m args below meth c H locs cells slots Q (F0 m pc ls st) := by
  have hPc := hP.sub isC hC2
  have hDc := hD.sub isC hnC hC
  have hFc := va_free hD hS hA isC hC
  have hSc : SY sa sv keyF (va_A wc H.size) s H := (hSY.kept hS.2.1).narrow hFc
  refine callW (va_runV (As := As) (rest := rest) (b := b) ⟨hx, hb, hml, hown, hts⟩ (hM H.size) (cwVx hts cI hlink hR) ⟨PSm.blind, va_recv hK.1 hPc hc he, fun U hU hW => ⟨rfl, by rw [hU], by rw [hU]; exact hPc, hK.warm hW, hDc.weaken (fun _ _ _ _ => trivial), by rw [hU]; exact hSc.moved hW.alike, vk_R.warm hW hRR⟩⟩ rfl hn hsz hst (lv_room hW) hdg hce) hS (fun q _ h => hFc q h) hFc (fun u H1 locs1 hφ hP1 hD1 hk1 hS1 => ?_)
  obtain ⟨g1, g2⟩ := va_join hP hD isC isR hC hRr hnR hdis hk1 hFc hP1 hD1
  exact kk u H1 locs1 hφ g1 g2 hS1
end CS
end

section
theorem qf_X12_112 : Cond.fieldLink RX12 112 "SlowWorldsModel" "size" "I" ∈ gw := tbt (tb6 (List.mem_of_getElem? (i := 55) rfl)) rfl
theorem qf_X12_34 : Cond.fieldLink RX12 34 "SlowWorldsModel" "text" "[B" ∈ gw := tbt (tb6 (List.mem_of_getElem? (i := 53) rfl)) rfl
theorem qf_X12_115 : Cond.fieldLink RX12 115 "SlowWorldsModel" "end" "I" ∈ gw := tbt (tb6 (List.mem_of_getElem? (i := 58) rfl)) rfl
theorem qc_X12_byteAt : Cond.code yX12_byteAt cX12_byteAt 2 (some .int) ∈ gw := tbt (tb6 (List.mem_of_getElem? (i := 223) rfl)) rfl
theorem qi_yX12_byteAt : Cond.instanceMethod yX12_byteAt ∈ gw := tbt (tb6 (List.mem_of_getElem? (i := 222) rfl)) rfl
theorem qs_X12_byteAt : Cond.selects (yX12_byteAt).cls yX12_byteAt yX12_byteAt ∈ gw := tb0 (List.mem_of_getElem? (i := 42) rfl) rfl
theorem ci_X12_byteAt : CIv yX12_byteAt cX12_byteAt 2 (some .int) 1 := ⟨qc_X12_byteAt, qi_yX12_byteAt, qs_X12_byteAt, qz_X12, by decide +kernel⟩
theorem qm_X12_118 : Cond.methodLink RX12 118 yX12_byteAt ∈ gw := tbt (tb6 (List.mem_of_getElem? (i := 220) rfl)) rfl
theorem qf_X12_121 : Cond.fieldLink RX12 121 "SlowWorldsModel" "from" "I" ∈ gw := tbt (tb6 (List.mem_of_getElem? (i := 57) rfl)) rfl
theorem qf_X12_124 : Cond.fieldLink RX12 124 "SlowWorldsModel" "value" "I" ∈ gw := tbt (tb6 (List.mem_of_getElem? (i := 59) rfl)) rfl
theorem qc_X12_isSmall : Cond.code yX12_isSmall cX12_isSmall 1 (some .boolean) ∈ gw := tbt (tb6 (List.mem_of_getElem? (i := 226) rfl)) rfl
theorem qt_yX12_isSmall : Cond.static yX12_isSmall ∈ gw := tbt (tb6 (List.mem_of_getElem? (i := 225) rfl)) rfl
theorem ci_X12_isSmall : CIs yX12_isSmall cX12_isSmall 1 (some .boolean) 1 := ⟨qc_X12_isSmall, qt_yX12_isSmall, qz_X12, by decide +kernel⟩
theorem qm_X12_130 : Cond.methodLink RX12 130 yX12_isSmall ∈ gw := tbt (tb6 (List.mem_of_getElem? (i := 224) rfl)) rfl
theorem qf_X12_127 : Cond.fieldLink RX12 127 "SlowWorldsModel" "token" "I" ∈ gw := tbt (tb6 (List.mem_of_getElem? (i := 56) rfl)) rfl
theorem qc_X12_isDigit : Cond.code yX12_isDigit cX12_isDigit 1 (some .boolean) ∈ gw := tbt (tb6 (List.mem_of_getElem? (i := 229) rfl)) rfl
theorem qt_yX12_isDigit : Cond.static yX12_isDigit ∈ gw := tbt (tb6 (List.mem_of_getElem? (i := 228) rfl)) rfl
theorem ci_X12_isDigit : CIs yX12_isDigit cX12_isDigit 1 (some .boolean) 1 := ⟨qc_X12_isDigit, qt_yX12_isDigit, qz_X12, by decide +kernel⟩
theorem qm_X12_133 : Cond.methodLink RX12 133 yX12_isDigit ∈ gw := tbt (tb6 (List.mem_of_getElem? (i := 227) rfl)) rfl
theorem qf_X12_152 : Cond.fieldLink RX12 152 "SlowWorldsModel" "faults" "I" ∈ gw := tbt (tb6 (List.mem_of_getElem? (i := 62) rfl)) rfl
theorem qf_X12_41 : Cond.fieldLink RX12 41 "SlowWorldsModel" "faultPlace" "I" ∈ gw := tbt (tb6 (List.mem_of_getElem? (i := 61) rfl)) rfl
theorem qc_X12_isSign : Cond.code yX12_isSign cX12_isSign 2 (some .boolean) ∈ gw := tbt (tb7 (List.mem_of_getElem? (i := 58) rfl)) rfl
theorem qi_yX12_isSign : Cond.instanceMethod yX12_isSign ∈ gw := tbt (tb7 (List.mem_of_getElem? (i := 57) rfl)) rfl
theorem qs_X12_isSign : Cond.selects (yX12_isSign).cls yX12_isSign yX12_isSign ∈ gw := tb0 (List.mem_of_getElem? (i := 58) rfl) rfl
theorem ci_X12_isSign : CIv yX12_isSign cX12_isSign 2 (some .boolean) 1 := ⟨qc_X12_isSign, qi_yX12_isSign, qs_X12_isSign, qz_X12, by decide +kernel⟩
theorem qm_X12_161 : Cond.methodLink RX12 161 yX12_isSign ∈ gw := tbt (tb7 (List.mem_of_getElem? (i := 55) rfl)) rfl
theorem qc_X12_onward : Cond.code yX12_onward cX12_onward 2 none ∈ gw := tbt (tb6 (List.mem_of_getElem? (i := 219) rfl)) rfl
theorem qi_yX12_onward : Cond.instanceMethod yX12_onward ∈ gw := tbt (tb6 (List.mem_of_getElem? (i := 218) rfl)) rfl
theorem qs_X12_onward : Cond.selects (yX12_onward).cls yX12_onward yX12_onward ∈ gw := tb0 (List.mem_of_getElem? (i := 41) rfl) rfl
theorem ci_X12_onward : CIv yX12_onward cX12_onward 2 none 0 := ⟨qc_X12_onward, qi_yX12_onward, qs_X12_onward, qz_X12, by decide +kernel⟩
theorem qm_X12_158 : Cond.methodLink RX12 158 yX12_onward ∈ gw := tbt (tb6 (List.mem_of_getElem? (i := 216) rfl)) rfl
theorem qc_X12_fails : Cond.code yX12_fails cX12_fails 2 (some .boolean) ∈ gw := tbt (tb7 (List.mem_of_getElem? (i := 14) rfl)) rfl
theorem qi_yX12_fails : Cond.instanceMethod yX12_fails ∈ gw := tbt (tb7 (List.mem_of_getElem? (i := 13) rfl)) rfl
theorem qs_X12_fails : Cond.selects (yX12_fails).cls yX12_fails yX12_fails ∈ gw := tb0 (List.mem_of_getElem? (i := 47) rfl) rfl
theorem ci_X12_fails : CIv yX12_fails cX12_fails 2 (some .boolean) 1 := ⟨qc_X12_fails, qi_yX12_fails, qs_X12_fails, qz_X12, by decide +kernel⟩
theorem qm_X12_164 : Cond.methodLink RX12 164 yX12_fails ∈ gw := tbt (tb7 (List.mem_of_getElem? (i := 11) rfl)) rfl
theorem qc_X12_nameHere : Cond.code yX12_nameHere cX12_nameHere 4 (some .long) ∈ gw := tbt (tb7 (List.mem_of_getElem? (i := 26) rfl)) rfl
theorem qi_yX12_nameHere : Cond.instanceMethod yX12_nameHere ∈ gw := tbt (tb7 (List.mem_of_getElem? (i := 25) rfl)) rfl
theorem qs_X12_nameHere : Cond.selects (yX12_nameHere).cls yX12_nameHere yX12_nameHere ∈ gw := tb0 (List.mem_of_getElem? (i := 50) rfl) rfl
theorem ci_X12_nameHere : CIv yX12_nameHere cX12_nameHere 4 (some .long) 0 := ⟨qc_X12_nameHere, qi_yX12_nameHere, qs_X12_nameHere, qz_X12, by decide +kernel⟩
theorem qm_X12_171 : Cond.methodLink RX12 171 yX12_nameHere ∈ gw := tbt (tb7 (List.mem_of_getElem? (i := 23) rfl)) rfl
def fb_X12_byteAt_0 : List UInt8 := [0x1b, 0x2a, 0xb4, 0x00, 0x70, 0xa2, 0x00, 0x10, 0x2a, 0xb4, 0x00, 0x22, 0x1b, 0x33, 0x11, 0x00, 0xff, 0x7e, 0xa7, 0x00, 0x04, 0x02, 0xac]
theorem fl_X12_byteAt_0 {p j : Nat} {b : UInt8} (e : p = 0 + j) (h : fb_X12_byteAt_0[j]? = some b) : cX12_byteAt.data.toList[p]? = some b := fq_l (n := 64) (show (cX12_byteAt.data.toList.drop 0).take 64 = fb_X12_byteAt_0 by decide +kernel) e h
theorem dX12_byteAt_0 : decode cX12_byteAt 0 = .ok (.iload_n 1, 1) := fq1_27 (fl_X12_byteAt_0 (j := 0) rfl rfl)
theorem dX12_byteAt_1 : decode cX12_byteAt 1 = .ok (.aload_n 0, 1) := fq1_42 (fl_X12_byteAt_0 (j := 1) rfl rfl)
theorem dX12_byteAt_2 : decode cX12_byteAt 2 = .ok (.getfield 112, 3) := fq3_180 (fl_X12_byteAt_0 (j := 2) rfl rfl) (fl_X12_byteAt_0 (j := 3) rfl rfl) (fl_X12_byteAt_0 (j := 4) rfl rfl) rfl
theorem dX12_byteAt_5 : decode cX12_byteAt 5 = .ok (.if_icmp .ge 16, 3) := fq3_162 (fl_X12_byteAt_0 (j := 5) rfl rfl) (fl_X12_byteAt_0 (j := 6) rfl rfl) (fl_X12_byteAt_0 (j := 7) rfl rfl) (s2p rfl (bl rfl))
theorem dX12_byteAt_8 : decode cX12_byteAt 8 = .ok (.aload_n 0, 1) := fq1_42 (fl_X12_byteAt_0 (j := 8) rfl rfl)
theorem dX12_byteAt_9 : decode cX12_byteAt 9 = .ok (.getfield 34, 3) := fq3_180 (fl_X12_byteAt_0 (j := 9) rfl rfl) (fl_X12_byteAt_0 (j := 10) rfl rfl) (fl_X12_byteAt_0 (j := 11) rfl rfl) rfl
theorem dX12_byteAt_12 : decode cX12_byteAt 12 = .ok (.iload_n 1, 1) := fq1_27 (fl_X12_byteAt_0 (j := 12) rfl rfl)
theorem dX12_byteAt_13 : decode cX12_byteAt 13 = .ok (.baload, 1) := fq1_51 (fl_X12_byteAt_0 (j := 13) rfl rfl)
theorem dX12_byteAt_14 : decode cX12_byteAt 14 = .ok (.sipush 255, 3) := fq3_17 (fl_X12_byteAt_0 (j := 14) rfl rfl) (fl_X12_byteAt_0 (j := 15) rfl rfl) (fl_X12_byteAt_0 (j := 16) rfl rfl) (s2p rfl (bl rfl))
theorem dX12_byteAt_17 : decode cX12_byteAt 17 = .ok (.iand, 1) := fq1_126 (fl_X12_byteAt_0 (j := 17) rfl rfl)
theorem dX12_byteAt_18 : decode cX12_byteAt 18 = .ok (.goto 4, 3) := fq3_167 (fl_X12_byteAt_0 (j := 18) rfl rfl) (fl_X12_byteAt_0 (j := 19) rfl rfl) (fl_X12_byteAt_0 (j := 20) rfl rfl) (s2p rfl (bl rfl))
theorem dX12_byteAt_21 : decode cX12_byteAt 21 = .ok (.iconst (-1), 1) := fq1_2 (fl_X12_byteAt_0 (j := 21) rfl rfl)
theorem dX12_byteAt_22 : decode cX12_byteAt 22 = .ok (.ireturn, 1) := fq1_172 (fl_X12_byteAt_0 (j := 22) rfl rfl)
def fb_X12_fails_0 : List UInt8 := [0x2a, 0xb4, 0x00, 0x98, 0x9a, 0x00, 0x1c, 0x2a, 0x2a, 0xb4, 0x00, 0x7f, 0x04, 0xa0, 0x00, 0x07, 0x04, 0xa7, 0x00, 0x04, 0x1b, 0xb5, 0x00, 0x98, 0x2a, 0x2a, 0xb4, 0x00, 0x79, 0xb5, 0x00, 0x29, 0x03, 0xac]
theorem fl_X12_fails_0 {p j : Nat} {b : UInt8} (e : p = 0 + j) (h : fb_X12_fails_0[j]? = some b) : cX12_fails.data.toList[p]? = some b := fq_l (n := 64) (show (cX12_fails.data.toList.drop 0).take 64 = fb_X12_fails_0 by decide +kernel) e h
theorem dX12_fails_0 : decode cX12_fails 0 = .ok (.aload_n 0, 1) := fq1_42 (fl_X12_fails_0 (j := 0) rfl rfl)
theorem dX12_fails_1 : decode cX12_fails 1 = .ok (.getfield 152, 3) := fq3_180 (fl_X12_fails_0 (j := 1) rfl rfl) (fl_X12_fails_0 (j := 2) rfl rfl) (fl_X12_fails_0 (j := 3) rfl rfl) rfl
theorem dX12_fails_4 : decode cX12_fails 4 = .ok (.ifCond .ne 28, 3) := fq3_154 (fl_X12_fails_0 (j := 4) rfl rfl) (fl_X12_fails_0 (j := 5) rfl rfl) (fl_X12_fails_0 (j := 6) rfl rfl) (s2p rfl (bl rfl))
theorem dX12_fails_7 : decode cX12_fails 7 = .ok (.aload_n 0, 1) := fq1_42 (fl_X12_fails_0 (j := 7) rfl rfl)
theorem dX12_fails_8 : decode cX12_fails 8 = .ok (.aload_n 0, 1) := fq1_42 (fl_X12_fails_0 (j := 8) rfl rfl)
theorem dX12_fails_9 : decode cX12_fails 9 = .ok (.getfield 127, 3) := fq3_180 (fl_X12_fails_0 (j := 9) rfl rfl) (fl_X12_fails_0 (j := 10) rfl rfl) (fl_X12_fails_0 (j := 11) rfl rfl) rfl
theorem dX12_fails_12 : decode cX12_fails 12 = .ok (.iconst 1, 1) := fq1_4 (fl_X12_fails_0 (j := 12) rfl rfl)
theorem dX12_fails_13 : decode cX12_fails 13 = .ok (.if_icmp .ne 7, 3) := fq3_160 (fl_X12_fails_0 (j := 13) rfl rfl) (fl_X12_fails_0 (j := 14) rfl rfl) (fl_X12_fails_0 (j := 15) rfl rfl) (s2p rfl (bl rfl))
theorem dX12_fails_16 : decode cX12_fails 16 = .ok (.iconst 1, 1) := fq1_4 (fl_X12_fails_0 (j := 16) rfl rfl)
theorem dX12_fails_17 : decode cX12_fails 17 = .ok (.goto 4, 3) := fq3_167 (fl_X12_fails_0 (j := 17) rfl rfl) (fl_X12_fails_0 (j := 18) rfl rfl) (fl_X12_fails_0 (j := 19) rfl rfl) (s2p rfl (bl rfl))
theorem dX12_fails_20 : decode cX12_fails 20 = .ok (.iload_n 1, 1) := fq1_27 (fl_X12_fails_0 (j := 20) rfl rfl)
theorem dX12_fails_21 : decode cX12_fails 21 = .ok (.putfield 152, 3) := fq3_181 (fl_X12_fails_0 (j := 21) rfl rfl) (fl_X12_fails_0 (j := 22) rfl rfl) (fl_X12_fails_0 (j := 23) rfl rfl) rfl
theorem dX12_fails_24 : decode cX12_fails 24 = .ok (.aload_n 0, 1) := fq1_42 (fl_X12_fails_0 (j := 24) rfl rfl)
theorem dX12_fails_25 : decode cX12_fails 25 = .ok (.aload_n 0, 1) := fq1_42 (fl_X12_fails_0 (j := 25) rfl rfl)
theorem dX12_fails_26 : decode cX12_fails 26 = .ok (.getfield 121, 3) := fq3_180 (fl_X12_fails_0 (j := 26) rfl rfl) (fl_X12_fails_0 (j := 27) rfl rfl) (fl_X12_fails_0 (j := 28) rfl rfl) rfl
theorem dX12_fails_29 : decode cX12_fails 29 = .ok (.putfield 41, 3) := fq3_181 (fl_X12_fails_0 (j := 29) rfl rfl) (fl_X12_fails_0 (j := 30) rfl rfl) (fl_X12_fails_0 (j := 31) rfl rfl) rfl
theorem dX12_fails_32 : decode cX12_fails 32 = .ok (.iconst 0, 1) := fq1_3 (fl_X12_fails_0 (j := 32) rfl rfl)
theorem dX12_fails_33 : decode cX12_fails 33 = .ok (.ireturn, 1) := fq1_172 (fl_X12_fails_0 (j := 33) rfl rfl)
def fb_X12_findHere_0 : List UInt8 := [0x03, 0x3e, 0x1d, 0x1c, 0xa2, 0x00, 0x1b, 0x2a, 0xb4, 0x00, 0x0d, 0x1b, 0x1d, 0x60, 0x2f, 0x2a, 0xb6, 0x00, 0xab, 0x94, 0x9a, 0x00, 0x05, 0x1d, 0xac, 0x84, 0x03, 0x01, 0xa7, 0xff, 0xe6, 0x02, 0xac]
theorem fl_X12_findHere_0 {p j : Nat} {b : UInt8} (e : p = 0 + j) (h : fb_X12_findHere_0[j]? = some b) : cX12_findHere.data.toList[p]? = some b := fq_l (n := 64) (show (cX12_findHere.data.toList.drop 0).take 64 = fb_X12_findHere_0 by decide +kernel) e h
theorem dX12_findHere_0 : decode cX12_findHere 0 = .ok (.iconst 0, 1) := fq1_3 (fl_X12_findHere_0 (j := 0) rfl rfl)
theorem dX12_findHere_1 : decode cX12_findHere 1 = .ok (.istore_n 3, 1) := fq1_62 (fl_X12_findHere_0 (j := 1) rfl rfl)
theorem dX12_findHere_2 : decode cX12_findHere 2 = .ok (.iload_n 3, 1) := fq1_29 (fl_X12_findHere_0 (j := 2) rfl rfl)
theorem dX12_findHere_3 : decode cX12_findHere 3 = .ok (.iload_n 2, 1) := fq1_28 (fl_X12_findHere_0 (j := 3) rfl rfl)
theorem dX12_findHere_4 : decode cX12_findHere 4 = .ok (.if_icmp .ge 27, 3) := fq3_162 (fl_X12_findHere_0 (j := 4) rfl rfl) (fl_X12_findHere_0 (j := 5) rfl rfl) (fl_X12_findHere_0 (j := 6) rfl rfl) (s2p rfl (bl rfl))
theorem dX12_findHere_7 : decode cX12_findHere 7 = .ok (.aload_n 0, 1) := fq1_42 (fl_X12_findHere_0 (j := 7) rfl rfl)
theorem dX12_findHere_8 : decode cX12_findHere 8 = .ok (.getfield 13, 3) := fq3_180 (fl_X12_findHere_0 (j := 8) rfl rfl) (fl_X12_findHere_0 (j := 9) rfl rfl) (fl_X12_findHere_0 (j := 10) rfl rfl) rfl
theorem dX12_findHere_11 : decode cX12_findHere 11 = .ok (.iload_n 1, 1) := fq1_27 (fl_X12_findHere_0 (j := 11) rfl rfl)
theorem dX12_findHere_12 : decode cX12_findHere 12 = .ok (.iload_n 3, 1) := fq1_29 (fl_X12_findHere_0 (j := 12) rfl rfl)
theorem dX12_findHere_13 : decode cX12_findHere 13 = .ok (.iadd, 1) := fq1_96 (fl_X12_findHere_0 (j := 13) rfl rfl)
theorem dX12_findHere_14 : decode cX12_findHere 14 = .ok (.laload, 1) := fq1_47 (fl_X12_findHere_0 (j := 14) rfl rfl)
theorem dX12_findHere_15 : decode cX12_findHere 15 = .ok (.aload_n 0, 1) := fq1_42 (fl_X12_findHere_0 (j := 15) rfl rfl)
theorem dX12_findHere_16 : decode cX12_findHere 16 = .ok (.invokevirtual 171, 3) := fq3_182 (fl_X12_findHere_0 (j := 16) rfl rfl) (fl_X12_findHere_0 (j := 17) rfl rfl) (fl_X12_findHere_0 (j := 18) rfl rfl) rfl
theorem dX12_findHere_19 : decode cX12_findHere 19 = .ok (.lcmp, 1) := fq1_148 (fl_X12_findHere_0 (j := 19) rfl rfl)
theorem dX12_findHere_20 : decode cX12_findHere 20 = .ok (.ifCond .ne 5, 3) := fq3_154 (fl_X12_findHere_0 (j := 20) rfl rfl) (fl_X12_findHere_0 (j := 21) rfl rfl) (fl_X12_findHere_0 (j := 22) rfl rfl) (s2p rfl (bl rfl))
theorem dX12_findHere_23 : decode cX12_findHere 23 = .ok (.iload_n 3, 1) := fq1_29 (fl_X12_findHere_0 (j := 23) rfl rfl)
theorem dX12_findHere_24 : decode cX12_findHere 24 = .ok (.ireturn, 1) := fq1_172 (fl_X12_findHere_0 (j := 24) rfl rfl)
theorem dX12_findHere_25 : decode cX12_findHere 25 = .ok (.iinc 3 1, 3) := fq3_132 (fl_X12_findHere_0 (j := 25) rfl rfl) (fl_X12_findHere_0 (j := 26) rfl rfl) (fl_X12_findHere_0 (j := 27) rfl rfl) rfl (s1p rfl (bl rfl))
theorem dX12_findHere_28 : decode cX12_findHere 28 = .ok (.goto (-26), 3) := fq3_167 (fl_X12_findHere_0 (j := 28) rfl rfl) (fl_X12_findHere_0 (j := 29) rfl rfl) (fl_X12_findHere_0 (j := 30) rfl rfl) (by decide)
theorem dX12_findHere_31 : decode cX12_findHere 31 = .ok (.iconst (-1), 1) := fq1_2 (fl_X12_findHere_0 (j := 31) rfl rfl)
theorem dX12_findHere_32 : decode cX12_findHere 32 = .ok (.ireturn, 1) := fq1_172 (fl_X12_findHere_0 (j := 32) rfl rfl)
def fb_X12_isDigit_0 : List UInt8 := [0x1a, 0x10, 0x30, 0xa1, 0x00, 0x0d, 0x1a, 0x10, 0x39, 0xa3, 0x00, 0x07, 0x04, 0xa7, 0x00, 0x04, 0x03, 0xac]
theorem fl_X12_isDigit_0 {p j : Nat} {b : UInt8} (e : p = 0 + j) (h : fb_X12_isDigit_0[j]? = some b) : cX12_isDigit.data.toList[p]? = some b := fq_l (n := 64) (show (cX12_isDigit.data.toList.drop 0).take 64 = fb_X12_isDigit_0 by decide +kernel) e h
theorem dX12_isDigit_0 : decode cX12_isDigit 0 = .ok (.iload_n 0, 1) := fq1_26 (fl_X12_isDigit_0 (j := 0) rfl rfl)
theorem dX12_isDigit_1 : decode cX12_isDigit 1 = .ok (.bipush 48, 2) := fq2_16 (fl_X12_isDigit_0 (j := 1) rfl rfl) (fl_X12_isDigit_0 (j := 2) rfl rfl) (s1p rfl (bl rfl))
theorem dX12_isDigit_3 : decode cX12_isDigit 3 = .ok (.if_icmp .lt 13, 3) := fq3_161 (fl_X12_isDigit_0 (j := 3) rfl rfl) (fl_X12_isDigit_0 (j := 4) rfl rfl) (fl_X12_isDigit_0 (j := 5) rfl rfl) (s2p rfl (bl rfl))
theorem dX12_isDigit_6 : decode cX12_isDigit 6 = .ok (.iload_n 0, 1) := fq1_26 (fl_X12_isDigit_0 (j := 6) rfl rfl)
theorem dX12_isDigit_7 : decode cX12_isDigit 7 = .ok (.bipush 57, 2) := fq2_16 (fl_X12_isDigit_0 (j := 7) rfl rfl) (fl_X12_isDigit_0 (j := 8) rfl rfl) (s1p rfl (bl rfl))
theorem dX12_isDigit_9 : decode cX12_isDigit 9 = .ok (.if_icmp .gt 7, 3) := fq3_163 (fl_X12_isDigit_0 (j := 9) rfl rfl) (fl_X12_isDigit_0 (j := 10) rfl rfl) (fl_X12_isDigit_0 (j := 11) rfl rfl) (s2p rfl (bl rfl))
theorem dX12_isDigit_12 : decode cX12_isDigit 12 = .ok (.iconst 1, 1) := fq1_4 (fl_X12_isDigit_0 (j := 12) rfl rfl)
theorem dX12_isDigit_13 : decode cX12_isDigit 13 = .ok (.goto 4, 3) := fq3_167 (fl_X12_isDigit_0 (j := 13) rfl rfl) (fl_X12_isDigit_0 (j := 14) rfl rfl) (fl_X12_isDigit_0 (j := 15) rfl rfl) (s2p rfl (bl rfl))
theorem dX12_isDigit_16 : decode cX12_isDigit 16 = .ok (.iconst 0, 1) := fq1_3 (fl_X12_isDigit_0 (j := 16) rfl rfl)
theorem dX12_isDigit_17 : decode cX12_isDigit 17 = .ok (.ireturn, 1) := fq1_172 (fl_X12_isDigit_0 (j := 17) rfl rfl)
def fb_X12_isSign_0 : List UInt8 := [0x2a, 0xb4, 0x00, 0x7f, 0x07, 0xa0, 0x00, 0x0f, 0x2a, 0xb4, 0x00, 0x7c, 0x1b, 0xa0, 0x00, 0x07, 0x04, 0xa7, 0x00, 0x04, 0x03, 0xac]
theorem fl_X12_isSign_0 {p j : Nat} {b : UInt8} (e : p = 0 + j) (h : fb_X12_isSign_0[j]? = some b) : cX12_isSign.data.toList[p]? = some b := fq_l (n := 64) (show (cX12_isSign.data.toList.drop 0).take 64 = fb_X12_isSign_0 by decide +kernel) e h
theorem dX12_isSign_0 : decode cX12_isSign 0 = .ok (.aload_n 0, 1) := fq1_42 (fl_X12_isSign_0 (j := 0) rfl rfl)
theorem dX12_isSign_1 : decode cX12_isSign 1 = .ok (.getfield 127, 3) := fq3_180 (fl_X12_isSign_0 (j := 1) rfl rfl) (fl_X12_isSign_0 (j := 2) rfl rfl) (fl_X12_isSign_0 (j := 3) rfl rfl) rfl
theorem dX12_isSign_4 : decode cX12_isSign 4 = .ok (.iconst 4, 1) := fq1_7 (fl_X12_isSign_0 (j := 4) rfl rfl)
theorem dX12_isSign_5 : decode cX12_isSign 5 = .ok (.if_icmp .ne 15, 3) := fq3_160 (fl_X12_isSign_0 (j := 5) rfl rfl) (fl_X12_isSign_0 (j := 6) rfl rfl) (fl_X12_isSign_0 (j := 7) rfl rfl) (s2p rfl (bl rfl))
theorem dX12_isSign_8 : decode cX12_isSign 8 = .ok (.aload_n 0, 1) := fq1_42 (fl_X12_isSign_0 (j := 8) rfl rfl)
theorem dX12_isSign_9 : decode cX12_isSign 9 = .ok (.getfield 124, 3) := fq3_180 (fl_X12_isSign_0 (j := 9) rfl rfl) (fl_X12_isSign_0 (j := 10) rfl rfl) (fl_X12_isSign_0 (j := 11) rfl rfl) rfl
theorem dX12_isSign_12 : decode cX12_isSign 12 = .ok (.iload_n 1, 1) := fq1_27 (fl_X12_isSign_0 (j := 12) rfl rfl)
theorem dX12_isSign_13 : decode cX12_isSign 13 = .ok (.if_icmp .ne 7, 3) := fq3_160 (fl_X12_isSign_0 (j := 13) rfl rfl) (fl_X12_isSign_0 (j := 14) rfl rfl) (fl_X12_isSign_0 (j := 15) rfl rfl) (s2p rfl (bl rfl))
theorem dX12_isSign_16 : decode cX12_isSign 16 = .ok (.iconst 1, 1) := fq1_4 (fl_X12_isSign_0 (j := 16) rfl rfl)
theorem dX12_isSign_17 : decode cX12_isSign 17 = .ok (.goto 4, 3) := fq3_167 (fl_X12_isSign_0 (j := 17) rfl rfl) (fl_X12_isSign_0 (j := 18) rfl rfl) (fl_X12_isSign_0 (j := 19) rfl rfl) (s2p rfl (bl rfl))
theorem dX12_isSign_20 : decode cX12_isSign 20 = .ok (.iconst 0, 1) := fq1_3 (fl_X12_isSign_0 (j := 20) rfl rfl)
theorem dX12_isSign_21 : decode cX12_isSign 21 = .ok (.ireturn, 1) := fq1_172 (fl_X12_isSign_0 (j := 21) rfl rfl)
def fb_X12_isSmall_0 : List UInt8 := [0x1a, 0x10, 0x61, 0xa1, 0x00, 0x0d, 0x1a, 0x10, 0x7a, 0xa3, 0x00, 0x07, 0x04, 0xa7, 0x00, 0x04, 0x03, 0xac]
theorem fl_X12_isSmall_0 {p j : Nat} {b : UInt8} (e : p = 0 + j) (h : fb_X12_isSmall_0[j]? = some b) : cX12_isSmall.data.toList[p]? = some b := fq_l (n := 64) (show (cX12_isSmall.data.toList.drop 0).take 64 = fb_X12_isSmall_0 by decide +kernel) e h
theorem dX12_isSmall_0 : decode cX12_isSmall 0 = .ok (.iload_n 0, 1) := fq1_26 (fl_X12_isSmall_0 (j := 0) rfl rfl)
theorem dX12_isSmall_1 : decode cX12_isSmall 1 = .ok (.bipush 97, 2) := fq2_16 (fl_X12_isSmall_0 (j := 1) rfl rfl) (fl_X12_isSmall_0 (j := 2) rfl rfl) (s1p rfl (bl rfl))
theorem dX12_isSmall_3 : decode cX12_isSmall 3 = .ok (.if_icmp .lt 13, 3) := fq3_161 (fl_X12_isSmall_0 (j := 3) rfl rfl) (fl_X12_isSmall_0 (j := 4) rfl rfl) (fl_X12_isSmall_0 (j := 5) rfl rfl) (s2p rfl (bl rfl))
theorem dX12_isSmall_6 : decode cX12_isSmall 6 = .ok (.iload_n 0, 1) := fq1_26 (fl_X12_isSmall_0 (j := 6) rfl rfl)
theorem dX12_isSmall_7 : decode cX12_isSmall 7 = .ok (.bipush 122, 2) := fq2_16 (fl_X12_isSmall_0 (j := 7) rfl rfl) (fl_X12_isSmall_0 (j := 8) rfl rfl) (s1p rfl (bl rfl))
theorem dX12_isSmall_9 : decode cX12_isSmall 9 = .ok (.if_icmp .gt 7, 3) := fq3_163 (fl_X12_isSmall_0 (j := 9) rfl rfl) (fl_X12_isSmall_0 (j := 10) rfl rfl) (fl_X12_isSmall_0 (j := 11) rfl rfl) (s2p rfl (bl rfl))
theorem dX12_isSmall_12 : decode cX12_isSmall 12 = .ok (.iconst 1, 1) := fq1_4 (fl_X12_isSmall_0 (j := 12) rfl rfl)
theorem dX12_isSmall_13 : decode cX12_isSmall 13 = .ok (.goto 4, 3) := fq3_167 (fl_X12_isSmall_0 (j := 13) rfl rfl) (fl_X12_isSmall_0 (j := 14) rfl rfl) (fl_X12_isSmall_0 (j := 15) rfl rfl) (s2p rfl (bl rfl))
theorem dX12_isSmall_16 : decode cX12_isSmall 16 = .ok (.iconst 0, 1) := fq1_3 (fl_X12_isSmall_0 (j := 16) rfl rfl)
theorem dX12_isSmall_17 : decode cX12_isSmall 17 = .ok (.ireturn, 1) := fq1_172 (fl_X12_isSmall_0 (j := 17) rfl rfl)
def fb_X12_nameHere_0 : List UInt8 := [0x09, 0x40, 0x2a, 0xb4, 0x00, 0x79, 0x3e, 0x1d, 0x2a, 0xb4, 0x00, 0x73, 0xa2, 0x00, 0x15, 0x1f, 0x10, 0x08, 0x79, 0x2a, 0x1d, 0xb6, 0x00, 0x76, 0x85, 0x81, 0x40, 0x84, 0x03, 0x01, 0xa7, 0xff, 0xe9, 0x1f, 0xad]
theorem fl_X12_nameHere_0 {p j : Nat} {b : UInt8} (e : p = 0 + j) (h : fb_X12_nameHere_0[j]? = some b) : cX12_nameHere.data.toList[p]? = some b := fq_l (n := 64) (show (cX12_nameHere.data.toList.drop 0).take 64 = fb_X12_nameHere_0 by decide +kernel) e h
theorem dX12_nameHere_0 : decode cX12_nameHere 0 = .ok (.lconst 0, 1) := fq1_9 (fl_X12_nameHere_0 (j := 0) rfl rfl)
theorem dX12_nameHere_1 : decode cX12_nameHere 1 = .ok (.lstore_n 1, 1) := fq1_64 (fl_X12_nameHere_0 (j := 1) rfl rfl)
theorem dX12_nameHere_2 : decode cX12_nameHere 2 = .ok (.aload_n 0, 1) := fq1_42 (fl_X12_nameHere_0 (j := 2) rfl rfl)
theorem dX12_nameHere_3 : decode cX12_nameHere 3 = .ok (.getfield 121, 3) := fq3_180 (fl_X12_nameHere_0 (j := 3) rfl rfl) (fl_X12_nameHere_0 (j := 4) rfl rfl) (fl_X12_nameHere_0 (j := 5) rfl rfl) rfl
theorem dX12_nameHere_6 : decode cX12_nameHere 6 = .ok (.istore_n 3, 1) := fq1_62 (fl_X12_nameHere_0 (j := 6) rfl rfl)
theorem dX12_nameHere_7 : decode cX12_nameHere 7 = .ok (.iload_n 3, 1) := fq1_29 (fl_X12_nameHere_0 (j := 7) rfl rfl)
theorem dX12_nameHere_8 : decode cX12_nameHere 8 = .ok (.aload_n 0, 1) := fq1_42 (fl_X12_nameHere_0 (j := 8) rfl rfl)
theorem dX12_nameHere_9 : decode cX12_nameHere 9 = .ok (.getfield 115, 3) := fq3_180 (fl_X12_nameHere_0 (j := 9) rfl rfl) (fl_X12_nameHere_0 (j := 10) rfl rfl) (fl_X12_nameHere_0 (j := 11) rfl rfl) rfl
theorem dX12_nameHere_12 : decode cX12_nameHere 12 = .ok (.if_icmp .ge 21, 3) := fq3_162 (fl_X12_nameHere_0 (j := 12) rfl rfl) (fl_X12_nameHere_0 (j := 13) rfl rfl) (fl_X12_nameHere_0 (j := 14) rfl rfl) (s2p rfl (bl rfl))
theorem dX12_nameHere_15 : decode cX12_nameHere 15 = .ok (.lload_n 1, 1) := fq1_31 (fl_X12_nameHere_0 (j := 15) rfl rfl)
theorem dX12_nameHere_16 : decode cX12_nameHere 16 = .ok (.bipush 8, 2) := fq2_16 (fl_X12_nameHere_0 (j := 16) rfl rfl) (fl_X12_nameHere_0 (j := 17) rfl rfl) (s1p rfl (bl rfl))
theorem dX12_nameHere_18 : decode cX12_nameHere 18 = .ok (.lshl, 1) := fq1_121 (fl_X12_nameHere_0 (j := 18) rfl rfl)
theorem dX12_nameHere_19 : decode cX12_nameHere 19 = .ok (.aload_n 0, 1) := fq1_42 (fl_X12_nameHere_0 (j := 19) rfl rfl)
theorem dX12_nameHere_20 : decode cX12_nameHere 20 = .ok (.iload_n 3, 1) := fq1_29 (fl_X12_nameHere_0 (j := 20) rfl rfl)
theorem dX12_nameHere_21 : decode cX12_nameHere 21 = .ok (.invokevirtual 118, 3) := fq3_182 (fl_X12_nameHere_0 (j := 21) rfl rfl) (fl_X12_nameHere_0 (j := 22) rfl rfl) (fl_X12_nameHere_0 (j := 23) rfl rfl) rfl
theorem dX12_nameHere_24 : decode cX12_nameHere 24 = .ok (.i2l, 1) := fq1_133 (fl_X12_nameHere_0 (j := 24) rfl rfl)
theorem dX12_nameHere_25 : decode cX12_nameHere 25 = .ok (.lor, 1) := fq1_129 (fl_X12_nameHere_0 (j := 25) rfl rfl)
theorem dX12_nameHere_26 : decode cX12_nameHere 26 = .ok (.lstore_n 1, 1) := fq1_64 (fl_X12_nameHere_0 (j := 26) rfl rfl)
theorem dX12_nameHere_27 : decode cX12_nameHere 27 = .ok (.iinc 3 1, 3) := fq3_132 (fl_X12_nameHere_0 (j := 27) rfl rfl) (fl_X12_nameHere_0 (j := 28) rfl rfl) (fl_X12_nameHere_0 (j := 29) rfl rfl) rfl (s1p rfl (bl rfl))
theorem dX12_nameHere_30 : decode cX12_nameHere 30 = .ok (.goto (-23), 3) := fq3_167 (fl_X12_nameHere_0 (j := 30) rfl rfl) (fl_X12_nameHere_0 (j := 31) rfl rfl) (fl_X12_nameHere_0 (j := 32) rfl rfl) (by decide)
theorem dX12_nameHere_33 : decode cX12_nameHere 33 = .ok (.lload_n 1, 1) := fq1_31 (fl_X12_nameHere_0 (j := 33) rfl rfl)
theorem dX12_nameHere_34 : decode cX12_nameHere 34 = .ok (.lreturn, 1) := fq1_173 (fl_X12_nameHere_0 (j := 34) rfl rfl)
def fb_X12_number_0 : List UInt8 := [0x2a, 0xb4, 0x00, 0x7f, 0x06, 0x9f, 0x00, 0x09, 0x2a, 0x05, 0xb6, 0x00, 0xa4, 0xac, 0x2a, 0xb4, 0x00, 0x7c, 0x1c, 0xa1, 0x00, 0x0b, 0x2a, 0xb4, 0x00, 0x7c, 0x1d, 0xa4, 0x00, 0x09, 0x2a, 0x07, 0xb6, 0x00, 0xa4, 0xac, 0x2a, 0xb4, 0x00, 0x07, 0x1b, 0x2a, 0xb4, 0x00, 0x7c, 0x4f, 0x2a, 0xb6, 0x00, 0x9e, 0x04, 0xac]
theorem fl_X12_number_0 {p j : Nat} {b : UInt8} (e : p = 0 + j) (h : fb_X12_number_0[j]? = some b) : cX12_number.data.toList[p]? = some b := fq_l (n := 64) (show (cX12_number.data.toList.drop 0).take 64 = fb_X12_number_0 by decide +kernel) e h
theorem dX12_number_0 : decode cX12_number 0 = .ok (.aload_n 0, 1) := fq1_42 (fl_X12_number_0 (j := 0) rfl rfl)
theorem dX12_number_1 : decode cX12_number 1 = .ok (.getfield 127, 3) := fq3_180 (fl_X12_number_0 (j := 1) rfl rfl) (fl_X12_number_0 (j := 2) rfl rfl) (fl_X12_number_0 (j := 3) rfl rfl) rfl
theorem dX12_number_4 : decode cX12_number 4 = .ok (.iconst 3, 1) := fq1_6 (fl_X12_number_0 (j := 4) rfl rfl)
theorem dX12_number_5 : decode cX12_number 5 = .ok (.if_icmp .eq 9, 3) := fq3_159 (fl_X12_number_0 (j := 5) rfl rfl) (fl_X12_number_0 (j := 6) rfl rfl) (fl_X12_number_0 (j := 7) rfl rfl) (s2p rfl (bl rfl))
theorem dX12_number_8 : decode cX12_number 8 = .ok (.aload_n 0, 1) := fq1_42 (fl_X12_number_0 (j := 8) rfl rfl)
theorem dX12_number_9 : decode cX12_number 9 = .ok (.iconst 2, 1) := fq1_5 (fl_X12_number_0 (j := 9) rfl rfl)
theorem dX12_number_10 : decode cX12_number 10 = .ok (.invokevirtual 164, 3) := fq3_182 (fl_X12_number_0 (j := 10) rfl rfl) (fl_X12_number_0 (j := 11) rfl rfl) (fl_X12_number_0 (j := 12) rfl rfl) rfl
theorem dX12_number_13 : decode cX12_number 13 = .ok (.ireturn, 1) := fq1_172 (fl_X12_number_0 (j := 13) rfl rfl)
theorem dX12_number_14 : decode cX12_number 14 = .ok (.aload_n 0, 1) := fq1_42 (fl_X12_number_0 (j := 14) rfl rfl)
theorem dX12_number_15 : decode cX12_number 15 = .ok (.getfield 124, 3) := fq3_180 (fl_X12_number_0 (j := 15) rfl rfl) (fl_X12_number_0 (j := 16) rfl rfl) (fl_X12_number_0 (j := 17) rfl rfl) rfl
theorem dX12_number_18 : decode cX12_number 18 = .ok (.iload_n 2, 1) := fq1_28 (fl_X12_number_0 (j := 18) rfl rfl)
theorem dX12_number_19 : decode cX12_number 19 = .ok (.if_icmp .lt 11, 3) := fq3_161 (fl_X12_number_0 (j := 19) rfl rfl) (fl_X12_number_0 (j := 20) rfl rfl) (fl_X12_number_0 (j := 21) rfl rfl) (s2p rfl (bl rfl))
theorem dX12_number_22 : decode cX12_number 22 = .ok (.aload_n 0, 1) := fq1_42 (fl_X12_number_0 (j := 22) rfl rfl)
theorem dX12_number_23 : decode cX12_number 23 = .ok (.getfield 124, 3) := fq3_180 (fl_X12_number_0 (j := 23) rfl rfl) (fl_X12_number_0 (j := 24) rfl rfl) (fl_X12_number_0 (j := 25) rfl rfl) rfl
theorem dX12_number_26 : decode cX12_number 26 = .ok (.iload_n 3, 1) := fq1_29 (fl_X12_number_0 (j := 26) rfl rfl)
theorem dX12_number_27 : decode cX12_number 27 = .ok (.if_icmp .le 9, 3) := fq3_164 (fl_X12_number_0 (j := 27) rfl rfl) (fl_X12_number_0 (j := 28) rfl rfl) (fl_X12_number_0 (j := 29) rfl rfl) (s2p rfl (bl rfl))
theorem dX12_number_30 : decode cX12_number 30 = .ok (.aload_n 0, 1) := fq1_42 (fl_X12_number_0 (j := 30) rfl rfl)
theorem dX12_number_31 : decode cX12_number 31 = .ok (.iconst 4, 1) := fq1_7 (fl_X12_number_0 (j := 31) rfl rfl)
theorem dX12_number_32 : decode cX12_number 32 = .ok (.invokevirtual 164, 3) := fq3_182 (fl_X12_number_0 (j := 32) rfl rfl) (fl_X12_number_0 (j := 33) rfl rfl) (fl_X12_number_0 (j := 34) rfl rfl) rfl
theorem dX12_number_35 : decode cX12_number 35 = .ok (.ireturn, 1) := fq1_172 (fl_X12_number_0 (j := 35) rfl rfl)
theorem dX12_number_36 : decode cX12_number 36 = .ok (.aload_n 0, 1) := fq1_42 (fl_X12_number_0 (j := 36) rfl rfl)
theorem dX12_number_37 : decode cX12_number 37 = .ok (.getfield 7, 3) := fq3_180 (fl_X12_number_0 (j := 37) rfl rfl) (fl_X12_number_0 (j := 38) rfl rfl) (fl_X12_number_0 (j := 39) rfl rfl) rfl
theorem dX12_number_40 : decode cX12_number 40 = .ok (.iload_n 1, 1) := fq1_27 (fl_X12_number_0 (j := 40) rfl rfl)
theorem dX12_number_41 : decode cX12_number 41 = .ok (.aload_n 0, 1) := fq1_42 (fl_X12_number_0 (j := 41) rfl rfl)
theorem dX12_number_42 : decode cX12_number 42 = .ok (.getfield 124, 3) := fq3_180 (fl_X12_number_0 (j := 42) rfl rfl) (fl_X12_number_0 (j := 43) rfl rfl) (fl_X12_number_0 (j := 44) rfl rfl) rfl
theorem dX12_number_45 : decode cX12_number 45 = .ok (.iastore, 1) := fq1_79 (fl_X12_number_0 (j := 45) rfl rfl)
theorem dX12_number_46 : decode cX12_number 46 = .ok (.aload_n 0, 1) := fq1_42 (fl_X12_number_0 (j := 46) rfl rfl)
theorem dX12_number_47 : decode cX12_number 47 = .ok (.invokevirtual 158, 3) := fq3_182 (fl_X12_number_0 (j := 47) rfl rfl) (fl_X12_number_0 (j := 48) rfl rfl) (fl_X12_number_0 (j := 49) rfl rfl) rfl
theorem dX12_number_50 : decode cX12_number 50 = .ok (.iconst 1, 1) := fq1_4 (fl_X12_number_0 (j := 50) rfl rfl)
theorem dX12_number_51 : decode cX12_number 51 = .ok (.ireturn, 1) := fq1_172 (fl_X12_number_0 (j := 51) rfl rfl)
def fb_X12_onward_0 : List UInt8 := [0x2a, 0x2a, 0xb4, 0x00, 0x73, 0xb6, 0x00, 0x76, 0x10, 0x20, 0x9f, 0x00, 0x10, 0x2a, 0x2a, 0xb4, 0x00, 0x73, 0xb6, 0x00, 0x76, 0x10, 0x0a, 0xa0, 0x00, 0x10, 0x2a, 0x59, 0xb4, 0x00, 0x73, 0x04, 0x60, 0xb5, 0x00, 0x73, 0xa7, 0xff, 0xdc, 0x2a, 0x2a, 0xb4, 0x00, 0x73, 0xb5, 0x00, 0x79, 0x2a, 0x2a, 0xb4, 0x00, 0x73, 0xb6, 0x00, 0x76, 0x3c, 0x2a, 0x1b, 0xb5, 0x00, 0x7c, 0x1b, 0x02, 0xa0]
theorem fl_X12_onward_0 {p j : Nat} {b : UInt8} (e : p = 0 + j) (h : fb_X12_onward_0[j]? = some b) : cX12_onward.data.toList[p]? = some b := fq_l (n := 64) (show (cX12_onward.data.toList.drop 0).take 64 = fb_X12_onward_0 by decide +kernel) e h
theorem dX12_onward_0 : decode cX12_onward 0 = .ok (.aload_n 0, 1) := fq1_42 (fl_X12_onward_0 (j := 0) rfl rfl)
theorem dX12_onward_1 : decode cX12_onward 1 = .ok (.aload_n 0, 1) := fq1_42 (fl_X12_onward_0 (j := 1) rfl rfl)
theorem dX12_onward_2 : decode cX12_onward 2 = .ok (.getfield 115, 3) := fq3_180 (fl_X12_onward_0 (j := 2) rfl rfl) (fl_X12_onward_0 (j := 3) rfl rfl) (fl_X12_onward_0 (j := 4) rfl rfl) rfl
theorem dX12_onward_5 : decode cX12_onward 5 = .ok (.invokevirtual 118, 3) := fq3_182 (fl_X12_onward_0 (j := 5) rfl rfl) (fl_X12_onward_0 (j := 6) rfl rfl) (fl_X12_onward_0 (j := 7) rfl rfl) rfl
theorem dX12_onward_8 : decode cX12_onward 8 = .ok (.bipush 32, 2) := fq2_16 (fl_X12_onward_0 (j := 8) rfl rfl) (fl_X12_onward_0 (j := 9) rfl rfl) (s1p rfl (bl rfl))
theorem dX12_onward_10 : decode cX12_onward 10 = .ok (.if_icmp .eq 16, 3) := fq3_159 (fl_X12_onward_0 (j := 10) rfl rfl) (fl_X12_onward_0 (j := 11) rfl rfl) (fl_X12_onward_0 (j := 12) rfl rfl) (s2p rfl (bl rfl))
theorem dX12_onward_13 : decode cX12_onward 13 = .ok (.aload_n 0, 1) := fq1_42 (fl_X12_onward_0 (j := 13) rfl rfl)
theorem dX12_onward_14 : decode cX12_onward 14 = .ok (.aload_n 0, 1) := fq1_42 (fl_X12_onward_0 (j := 14) rfl rfl)
theorem dX12_onward_15 : decode cX12_onward 15 = .ok (.getfield 115, 3) := fq3_180 (fl_X12_onward_0 (j := 15) rfl rfl) (fl_X12_onward_0 (j := 16) rfl rfl) (fl_X12_onward_0 (j := 17) rfl rfl) rfl
theorem dX12_onward_18 : decode cX12_onward 18 = .ok (.invokevirtual 118, 3) := fq3_182 (fl_X12_onward_0 (j := 18) rfl rfl) (fl_X12_onward_0 (j := 19) rfl rfl) (fl_X12_onward_0 (j := 20) rfl rfl) rfl
theorem dX12_onward_21 : decode cX12_onward 21 = .ok (.bipush 10, 2) := fq2_16 (fl_X12_onward_0 (j := 21) rfl rfl) (fl_X12_onward_0 (j := 22) rfl rfl) (s1p rfl (bl rfl))
theorem dX12_onward_23 : decode cX12_onward 23 = .ok (.if_icmp .ne 16, 3) := fq3_160 (fl_X12_onward_0 (j := 23) rfl rfl) (fl_X12_onward_0 (j := 24) rfl rfl) (fl_X12_onward_0 (j := 25) rfl rfl) (s2p rfl (bl rfl))
theorem dX12_onward_26 : decode cX12_onward 26 = .ok (.aload_n 0, 1) := fq1_42 (fl_X12_onward_0 (j := 26) rfl rfl)
theorem dX12_onward_27 : decode cX12_onward 27 = .ok (.dup, 1) := fq1_89 (fl_X12_onward_0 (j := 27) rfl rfl)
theorem dX12_onward_28 : decode cX12_onward 28 = .ok (.getfield 115, 3) := fq3_180 (fl_X12_onward_0 (j := 28) rfl rfl) (fl_X12_onward_0 (j := 29) rfl rfl) (fl_X12_onward_0 (j := 30) rfl rfl) rfl
theorem dX12_onward_31 : decode cX12_onward 31 = .ok (.iconst 1, 1) := fq1_4 (fl_X12_onward_0 (j := 31) rfl rfl)
theorem dX12_onward_32 : decode cX12_onward 32 = .ok (.iadd, 1) := fq1_96 (fl_X12_onward_0 (j := 32) rfl rfl)
theorem dX12_onward_33 : decode cX12_onward 33 = .ok (.putfield 115, 3) := fq3_181 (fl_X12_onward_0 (j := 33) rfl rfl) (fl_X12_onward_0 (j := 34) rfl rfl) (fl_X12_onward_0 (j := 35) rfl rfl) rfl
theorem dX12_onward_36 : decode cX12_onward 36 = .ok (.goto (-36), 3) := fq3_167 (fl_X12_onward_0 (j := 36) rfl rfl) (fl_X12_onward_0 (j := 37) rfl rfl) (fl_X12_onward_0 (j := 38) rfl rfl) (by decide)
theorem dX12_onward_39 : decode cX12_onward 39 = .ok (.aload_n 0, 1) := fq1_42 (fl_X12_onward_0 (j := 39) rfl rfl)
theorem dX12_onward_40 : decode cX12_onward 40 = .ok (.aload_n 0, 1) := fq1_42 (fl_X12_onward_0 (j := 40) rfl rfl)
theorem dX12_onward_41 : decode cX12_onward 41 = .ok (.getfield 115, 3) := fq3_180 (fl_X12_onward_0 (j := 41) rfl rfl) (fl_X12_onward_0 (j := 42) rfl rfl) (fl_X12_onward_0 (j := 43) rfl rfl) rfl
theorem dX12_onward_44 : decode cX12_onward 44 = .ok (.putfield 121, 3) := fq3_181 (fl_X12_onward_0 (j := 44) rfl rfl) (fl_X12_onward_0 (j := 45) rfl rfl) (fl_X12_onward_0 (j := 46) rfl rfl) rfl
theorem dX12_onward_47 : decode cX12_onward 47 = .ok (.aload_n 0, 1) := fq1_42 (fl_X12_onward_0 (j := 47) rfl rfl)
theorem dX12_onward_48 : decode cX12_onward 48 = .ok (.aload_n 0, 1) := fq1_42 (fl_X12_onward_0 (j := 48) rfl rfl)
theorem dX12_onward_49 : decode cX12_onward 49 = .ok (.getfield 115, 3) := fq3_180 (fl_X12_onward_0 (j := 49) rfl rfl) (fl_X12_onward_0 (j := 50) rfl rfl) (fl_X12_onward_0 (j := 51) rfl rfl) rfl
theorem dX12_onward_52 : decode cX12_onward 52 = .ok (.invokevirtual 118, 3) := fq3_182 (fl_X12_onward_0 (j := 52) rfl rfl) (fl_X12_onward_0 (j := 53) rfl rfl) (fl_X12_onward_0 (j := 54) rfl rfl) rfl
theorem dX12_onward_55 : decode cX12_onward 55 = .ok (.istore_n 1, 1) := fq1_60 (fl_X12_onward_0 (j := 55) rfl rfl)
theorem dX12_onward_56 : decode cX12_onward 56 = .ok (.aload_n 0, 1) := fq1_42 (fl_X12_onward_0 (j := 56) rfl rfl)
theorem dX12_onward_57 : decode cX12_onward 57 = .ok (.iload_n 1, 1) := fq1_27 (fl_X12_onward_0 (j := 57) rfl rfl)
theorem dX12_onward_58 : decode cX12_onward 58 = .ok (.putfield 124, 3) := fq3_181 (fl_X12_onward_0 (j := 58) rfl rfl) (fl_X12_onward_0 (j := 59) rfl rfl) (fl_X12_onward_0 (j := 60) rfl rfl) rfl
theorem dX12_onward_61 : decode cX12_onward 61 = .ok (.iload_n 1, 1) := fq1_27 (fl_X12_onward_0 (j := 61) rfl rfl)
theorem dX12_onward_62 : decode cX12_onward 62 = .ok (.iconst (-1), 1) := fq1_2 (fl_X12_onward_0 (j := 62) rfl rfl)
def fb_X12_onward_1 : List UInt8 := [0x00, 0x0b, 0x2a, 0x03, 0xb5, 0x00, 0x7f, 0xa7, 0x00, 0xb4, 0x1b, 0xb8, 0x00, 0x82, 0x99, 0x00, 0x26, 0x2a, 0x2a, 0xb4, 0x00, 0x73, 0xb6, 0x00, 0x76, 0xb8, 0x00, 0x82, 0x99, 0x00, 0x10, 0x2a, 0x59, 0xb4, 0x00, 0x73, 0x04, 0x60, 0xb5, 0x00, 0x73, 0xa7, 0xff, 0xe8, 0x2a, 0x05, 0xb5, 0x00, 0x7f, 0xa7, 0x00, 0x8a, 0x1b, 0xb8, 0x00, 0x85, 0x99, 0x00, 0x58, 0x2a, 0x03, 0xb5, 0x00, 0x7c]
theorem fl_X12_onward_1 {p j : Nat} {b : UInt8} (e : p = 64 + j) (h : fb_X12_onward_1[j]? = some b) : cX12_onward.data.toList[p]? = some b := fq_l (n := 64) (show (cX12_onward.data.toList.drop 64).take 64 = fb_X12_onward_1 by decide +kernel) e h
theorem dX12_onward_63 : decode cX12_onward 63 = .ok (.if_icmp .ne 11, 3) := fq3_160 (fl_X12_onward_0 (j := 63) rfl rfl) (fl_X12_onward_1 (j := 0) rfl rfl) (fl_X12_onward_1 (j := 1) rfl rfl) (s2p rfl (bl rfl))
theorem dX12_onward_66 : decode cX12_onward 66 = .ok (.aload_n 0, 1) := fq1_42 (fl_X12_onward_1 (j := 2) rfl rfl)
theorem dX12_onward_67 : decode cX12_onward 67 = .ok (.iconst 0, 1) := fq1_3 (fl_X12_onward_1 (j := 3) rfl rfl)
theorem dX12_onward_68 : decode cX12_onward 68 = .ok (.putfield 127, 3) := fq3_181 (fl_X12_onward_1 (j := 4) rfl rfl) (fl_X12_onward_1 (j := 5) rfl rfl) (fl_X12_onward_1 (j := 6) rfl rfl) rfl
theorem dX12_onward_71 : decode cX12_onward 71 = .ok (.goto 180, 3) := fq3_167 (fl_X12_onward_1 (j := 7) rfl rfl) (fl_X12_onward_1 (j := 8) rfl rfl) (fl_X12_onward_1 (j := 9) rfl rfl) (s2p rfl (bl rfl))
theorem dX12_onward_74 : decode cX12_onward 74 = .ok (.iload_n 1, 1) := fq1_27 (fl_X12_onward_1 (j := 10) rfl rfl)
theorem dX12_onward_75 : decode cX12_onward 75 = .ok (.invokestatic 130, 3) := fq3_184 (fl_X12_onward_1 (j := 11) rfl rfl) (fl_X12_onward_1 (j := 12) rfl rfl) (fl_X12_onward_1 (j := 13) rfl rfl) rfl
theorem dX12_onward_78 : decode cX12_onward 78 = .ok (.ifCond .eq 38, 3) := fq3_153 (fl_X12_onward_1 (j := 14) rfl rfl) (fl_X12_onward_1 (j := 15) rfl rfl) (fl_X12_onward_1 (j := 16) rfl rfl) (s2p rfl (bl rfl))
theorem dX12_onward_81 : decode cX12_onward 81 = .ok (.aload_n 0, 1) := fq1_42 (fl_X12_onward_1 (j := 17) rfl rfl)
theorem dX12_onward_82 : decode cX12_onward 82 = .ok (.aload_n 0, 1) := fq1_42 (fl_X12_onward_1 (j := 18) rfl rfl)
theorem dX12_onward_83 : decode cX12_onward 83 = .ok (.getfield 115, 3) := fq3_180 (fl_X12_onward_1 (j := 19) rfl rfl) (fl_X12_onward_1 (j := 20) rfl rfl) (fl_X12_onward_1 (j := 21) rfl rfl) rfl
theorem dX12_onward_86 : decode cX12_onward 86 = .ok (.invokevirtual 118, 3) := fq3_182 (fl_X12_onward_1 (j := 22) rfl rfl) (fl_X12_onward_1 (j := 23) rfl rfl) (fl_X12_onward_1 (j := 24) rfl rfl) rfl
theorem dX12_onward_89 : decode cX12_onward 89 = .ok (.invokestatic 130, 3) := fq3_184 (fl_X12_onward_1 (j := 25) rfl rfl) (fl_X12_onward_1 (j := 26) rfl rfl) (fl_X12_onward_1 (j := 27) rfl rfl) rfl
theorem dX12_onward_92 : decode cX12_onward 92 = .ok (.ifCond .eq 16, 3) := fq3_153 (fl_X12_onward_1 (j := 28) rfl rfl) (fl_X12_onward_1 (j := 29) rfl rfl) (fl_X12_onward_1 (j := 30) rfl rfl) (s2p rfl (bl rfl))
theorem dX12_onward_95 : decode cX12_onward 95 = .ok (.aload_n 0, 1) := fq1_42 (fl_X12_onward_1 (j := 31) rfl rfl)
theorem dX12_onward_96 : decode cX12_onward 96 = .ok (.dup, 1) := fq1_89 (fl_X12_onward_1 (j := 32) rfl rfl)
theorem dX12_onward_97 : decode cX12_onward 97 = .ok (.getfield 115, 3) := fq3_180 (fl_X12_onward_1 (j := 33) rfl rfl) (fl_X12_onward_1 (j := 34) rfl rfl) (fl_X12_onward_1 (j := 35) rfl rfl) rfl
theorem dX12_onward_100 : decode cX12_onward 100 = .ok (.iconst 1, 1) := fq1_4 (fl_X12_onward_1 (j := 36) rfl rfl)
theorem dX12_onward_101 : decode cX12_onward 101 = .ok (.iadd, 1) := fq1_96 (fl_X12_onward_1 (j := 37) rfl rfl)
theorem dX12_onward_102 : decode cX12_onward 102 = .ok (.putfield 115, 3) := fq3_181 (fl_X12_onward_1 (j := 38) rfl rfl) (fl_X12_onward_1 (j := 39) rfl rfl) (fl_X12_onward_1 (j := 40) rfl rfl) rfl
theorem dX12_onward_105 : decode cX12_onward 105 = .ok (.goto (-24), 3) := fq3_167 (fl_X12_onward_1 (j := 41) rfl rfl) (fl_X12_onward_1 (j := 42) rfl rfl) (fl_X12_onward_1 (j := 43) rfl rfl) (by decide)
theorem dX12_onward_108 : decode cX12_onward 108 = .ok (.aload_n 0, 1) := fq1_42 (fl_X12_onward_1 (j := 44) rfl rfl)
theorem dX12_onward_109 : decode cX12_onward 109 = .ok (.iconst 2, 1) := fq1_5 (fl_X12_onward_1 (j := 45) rfl rfl)
theorem dX12_onward_110 : decode cX12_onward 110 = .ok (.putfield 127, 3) := fq3_181 (fl_X12_onward_1 (j := 46) rfl rfl) (fl_X12_onward_1 (j := 47) rfl rfl) (fl_X12_onward_1 (j := 48) rfl rfl) rfl
theorem dX12_onward_113 : decode cX12_onward 113 = .ok (.goto 138, 3) := fq3_167 (fl_X12_onward_1 (j := 49) rfl rfl) (fl_X12_onward_1 (j := 50) rfl rfl) (fl_X12_onward_1 (j := 51) rfl rfl) (s2p rfl (bl rfl))
theorem dX12_onward_116 : decode cX12_onward 116 = .ok (.iload_n 1, 1) := fq1_27 (fl_X12_onward_1 (j := 52) rfl rfl)
theorem dX12_onward_117 : decode cX12_onward 117 = .ok (.invokestatic 133, 3) := fq3_184 (fl_X12_onward_1 (j := 53) rfl rfl) (fl_X12_onward_1 (j := 54) rfl rfl) (fl_X12_onward_1 (j := 55) rfl rfl) rfl
theorem dX12_onward_120 : decode cX12_onward 120 = .ok (.ifCond .eq 88, 3) := fq3_153 (fl_X12_onward_1 (j := 56) rfl rfl) (fl_X12_onward_1 (j := 57) rfl rfl) (fl_X12_onward_1 (j := 58) rfl rfl) (s2p rfl (bl rfl))
theorem dX12_onward_123 : decode cX12_onward 123 = .ok (.aload_n 0, 1) := fq1_42 (fl_X12_onward_1 (j := 59) rfl rfl)
theorem dX12_onward_124 : decode cX12_onward 124 = .ok (.iconst 0, 1) := fq1_3 (fl_X12_onward_1 (j := 60) rfl rfl)
theorem dX12_onward_125 : decode cX12_onward 125 = .ok (.putfield 124, 3) := fq3_181 (fl_X12_onward_1 (j := 61) rfl rfl) (fl_X12_onward_1 (j := 62) rfl rfl) (fl_X12_onward_1 (j := 63) rfl rfl) rfl
def fb_X12_onward_2 : List UInt8 := [0x2a, 0x2a, 0xb4, 0x00, 0x73, 0xb6, 0x00, 0x76, 0xb8, 0x00, 0x85, 0x99, 0x00, 0x2c, 0x2a, 0x12, 0x88, 0x10, 0x0a, 0x2a, 0xb4, 0x00, 0x7c, 0x68, 0x2a, 0x2a, 0xb4, 0x00, 0x73, 0xb6, 0x00, 0x76, 0x60, 0x10, 0x30, 0x64, 0xb8, 0x00, 0x89, 0xb5, 0x00, 0x7c, 0x2a, 0x59, 0xb4, 0x00, 0x73, 0x04, 0x60, 0xb5, 0x00, 0x73, 0xa7, 0xff, 0xcc, 0x2a, 0x2a, 0xb4, 0x00, 0x73, 0x2a, 0xb4, 0x00, 0x79]
theorem fl_X12_onward_2 {p j : Nat} {b : UInt8} (e : p = 128 + j) (h : fb_X12_onward_2[j]? = some b) : cX12_onward.data.toList[p]? = some b := fq_l (n := 64) (show (cX12_onward.data.toList.drop 128).take 64 = fb_X12_onward_2 by decide +kernel) e h
theorem dX12_onward_128 : decode cX12_onward 128 = .ok (.aload_n 0, 1) := fq1_42 (fl_X12_onward_2 (j := 0) rfl rfl)
theorem dX12_onward_129 : decode cX12_onward 129 = .ok (.aload_n 0, 1) := fq1_42 (fl_X12_onward_2 (j := 1) rfl rfl)
theorem dX12_onward_130 : decode cX12_onward 130 = .ok (.getfield 115, 3) := fq3_180 (fl_X12_onward_2 (j := 2) rfl rfl) (fl_X12_onward_2 (j := 3) rfl rfl) (fl_X12_onward_2 (j := 4) rfl rfl) rfl
theorem dX12_onward_133 : decode cX12_onward 133 = .ok (.invokevirtual 118, 3) := fq3_182 (fl_X12_onward_2 (j := 5) rfl rfl) (fl_X12_onward_2 (j := 6) rfl rfl) (fl_X12_onward_2 (j := 7) rfl rfl) rfl
theorem dX12_onward_136 : decode cX12_onward 136 = .ok (.invokestatic 133, 3) := fq3_184 (fl_X12_onward_2 (j := 8) rfl rfl) (fl_X12_onward_2 (j := 9) rfl rfl) (fl_X12_onward_2 (j := 10) rfl rfl) rfl
theorem dX12_onward_139 : decode cX12_onward 139 = .ok (.ifCond .eq 44, 3) := fq3_153 (fl_X12_onward_2 (j := 11) rfl rfl) (fl_X12_onward_2 (j := 12) rfl rfl) (fl_X12_onward_2 (j := 13) rfl rfl) (s2p rfl (bl rfl))
theorem dX12_onward_142 : decode cX12_onward 142 = .ok (.aload_n 0, 1) := fq1_42 (fl_X12_onward_2 (j := 14) rfl rfl)
theorem dX12_onward_143 : decode cX12_onward 143 = .ok (.ldc 136, 2) := fq2_18 (fl_X12_onward_2 (j := 15) rfl rfl) (fl_X12_onward_2 (j := 16) rfl rfl) rfl
theorem dX12_onward_145 : decode cX12_onward 145 = .ok (.bipush 10, 2) := fq2_16 (fl_X12_onward_2 (j := 17) rfl rfl) (fl_X12_onward_2 (j := 18) rfl rfl) (s1p rfl (bl rfl))
theorem dX12_onward_147 : decode cX12_onward 147 = .ok (.aload_n 0, 1) := fq1_42 (fl_X12_onward_2 (j := 19) rfl rfl)
theorem dX12_onward_148 : decode cX12_onward 148 = .ok (.getfield 124, 3) := fq3_180 (fl_X12_onward_2 (j := 20) rfl rfl) (fl_X12_onward_2 (j := 21) rfl rfl) (fl_X12_onward_2 (j := 22) rfl rfl) rfl
theorem dX12_onward_151 : decode cX12_onward 151 = .ok (.imul, 1) := fq1_104 (fl_X12_onward_2 (j := 23) rfl rfl)
theorem dX12_onward_152 : decode cX12_onward 152 = .ok (.aload_n 0, 1) := fq1_42 (fl_X12_onward_2 (j := 24) rfl rfl)
theorem dX12_onward_153 : decode cX12_onward 153 = .ok (.aload_n 0, 1) := fq1_42 (fl_X12_onward_2 (j := 25) rfl rfl)
theorem dX12_onward_154 : decode cX12_onward 154 = .ok (.getfield 115, 3) := fq3_180 (fl_X12_onward_2 (j := 26) rfl rfl) (fl_X12_onward_2 (j := 27) rfl rfl) (fl_X12_onward_2 (j := 28) rfl rfl) rfl
theorem dX12_onward_157 : decode cX12_onward 157 = .ok (.invokevirtual 118, 3) := fq3_182 (fl_X12_onward_2 (j := 29) rfl rfl) (fl_X12_onward_2 (j := 30) rfl rfl) (fl_X12_onward_2 (j := 31) rfl rfl) rfl
theorem dX12_onward_160 : decode cX12_onward 160 = .ok (.iadd, 1) := fq1_96 (fl_X12_onward_2 (j := 32) rfl rfl)
theorem dX12_onward_161 : decode cX12_onward 161 = .ok (.bipush 48, 2) := fq2_16 (fl_X12_onward_2 (j := 33) rfl rfl) (fl_X12_onward_2 (j := 34) rfl rfl) (s1p rfl (bl rfl))
theorem dX12_onward_163 : decode cX12_onward 163 = .ok (.isub, 1) := fq1_100 (fl_X12_onward_2 (j := 35) rfl rfl)
theorem dX12_onward_164 : decode cX12_onward 164 = .ok (.invokestatic 137, 3) := fq3_184 (fl_X12_onward_2 (j := 36) rfl rfl) (fl_X12_onward_2 (j := 37) rfl rfl) (fl_X12_onward_2 (j := 38) rfl rfl) rfl
theorem dX12_onward_167 : decode cX12_onward 167 = .ok (.putfield 124, 3) := fq3_181 (fl_X12_onward_2 (j := 39) rfl rfl) (fl_X12_onward_2 (j := 40) rfl rfl) (fl_X12_onward_2 (j := 41) rfl rfl) rfl
theorem dX12_onward_170 : decode cX12_onward 170 = .ok (.aload_n 0, 1) := fq1_42 (fl_X12_onward_2 (j := 42) rfl rfl)
theorem dX12_onward_171 : decode cX12_onward 171 = .ok (.dup, 1) := fq1_89 (fl_X12_onward_2 (j := 43) rfl rfl)
theorem dX12_onward_172 : decode cX12_onward 172 = .ok (.getfield 115, 3) := fq3_180 (fl_X12_onward_2 (j := 44) rfl rfl) (fl_X12_onward_2 (j := 45) rfl rfl) (fl_X12_onward_2 (j := 46) rfl rfl) rfl
theorem dX12_onward_175 : decode cX12_onward 175 = .ok (.iconst 1, 1) := fq1_4 (fl_X12_onward_2 (j := 47) rfl rfl)
theorem dX12_onward_176 : decode cX12_onward 176 = .ok (.iadd, 1) := fq1_96 (fl_X12_onward_2 (j := 48) rfl rfl)
theorem dX12_onward_177 : decode cX12_onward 177 = .ok (.putfield 115, 3) := fq3_181 (fl_X12_onward_2 (j := 49) rfl rfl) (fl_X12_onward_2 (j := 50) rfl rfl) (fl_X12_onward_2 (j := 51) rfl rfl) rfl
theorem dX12_onward_180 : decode cX12_onward 180 = .ok (.goto (-52), 3) := fq3_167 (fl_X12_onward_2 (j := 52) rfl rfl) (fl_X12_onward_2 (j := 53) rfl rfl) (fl_X12_onward_2 (j := 54) rfl rfl) (by decide)
theorem dX12_onward_183 : decode cX12_onward 183 = .ok (.aload_n 0, 1) := fq1_42 (fl_X12_onward_2 (j := 55) rfl rfl)
theorem dX12_onward_184 : decode cX12_onward 184 = .ok (.aload_n 0, 1) := fq1_42 (fl_X12_onward_2 (j := 56) rfl rfl)
theorem dX12_onward_185 : decode cX12_onward 185 = .ok (.getfield 115, 3) := fq3_180 (fl_X12_onward_2 (j := 57) rfl rfl) (fl_X12_onward_2 (j := 58) rfl rfl) (fl_X12_onward_2 (j := 59) rfl rfl) rfl
theorem dX12_onward_188 : decode cX12_onward 188 = .ok (.aload_n 0, 1) := fq1_42 (fl_X12_onward_2 (j := 60) rfl rfl)
theorem dX12_onward_189 : decode cX12_onward 189 = .ok (.getfield 121, 3) := fq3_180 (fl_X12_onward_2 (j := 61) rfl rfl) (fl_X12_onward_2 (j := 62) rfl rfl) (fl_X12_onward_2 (j := 63) rfl rfl) rfl
def fb_X12_onward_3 : List UInt8 := [0x64, 0x07, 0xa4, 0x00, 0x07, 0x04, 0xa7, 0x00, 0x04, 0x06, 0xb5, 0x00, 0x7f, 0xa7, 0x00, 0x2e, 0x2a, 0x59, 0xb4, 0x00, 0x73, 0x04, 0x60, 0xb5, 0x00, 0x73, 0x2a, 0x1b, 0x10, 0x3b, 0x9f, 0x00, 0x15, 0x1b, 0x10, 0x3c, 0x9f, 0x00, 0x0f, 0x1b, 0x10, 0x3e, 0x9f, 0x00, 0x09, 0x1b, 0x10, 0x3d, 0xa0, 0x00, 0x07, 0x07, 0xa7, 0x00, 0x04, 0x04, 0xb5, 0x00, 0x7f, 0xb1]
theorem fl_X12_onward_3 {p j : Nat} {b : UInt8} (e : p = 192 + j) (h : fb_X12_onward_3[j]? = some b) : cX12_onward.data.toList[p]? = some b := fq_l (n := 64) (show (cX12_onward.data.toList.drop 192).take 64 = fb_X12_onward_3 by decide +kernel) e h
theorem dX12_onward_192 : decode cX12_onward 192 = .ok (.isub, 1) := fq1_100 (fl_X12_onward_3 (j := 0) rfl rfl)
theorem dX12_onward_193 : decode cX12_onward 193 = .ok (.iconst 4, 1) := fq1_7 (fl_X12_onward_3 (j := 1) rfl rfl)
theorem dX12_onward_194 : decode cX12_onward 194 = .ok (.if_icmp .le 7, 3) := fq3_164 (fl_X12_onward_3 (j := 2) rfl rfl) (fl_X12_onward_3 (j := 3) rfl rfl) (fl_X12_onward_3 (j := 4) rfl rfl) (s2p rfl (bl rfl))
theorem dX12_onward_197 : decode cX12_onward 197 = .ok (.iconst 1, 1) := fq1_4 (fl_X12_onward_3 (j := 5) rfl rfl)
theorem dX12_onward_198 : decode cX12_onward 198 = .ok (.goto 4, 3) := fq3_167 (fl_X12_onward_3 (j := 6) rfl rfl) (fl_X12_onward_3 (j := 7) rfl rfl) (fl_X12_onward_3 (j := 8) rfl rfl) (s2p rfl (bl rfl))
theorem dX12_onward_201 : decode cX12_onward 201 = .ok (.iconst 3, 1) := fq1_6 (fl_X12_onward_3 (j := 9) rfl rfl)
theorem dX12_onward_202 : decode cX12_onward 202 = .ok (.putfield 127, 3) := fq3_181 (fl_X12_onward_3 (j := 10) rfl rfl) (fl_X12_onward_3 (j := 11) rfl rfl) (fl_X12_onward_3 (j := 12) rfl rfl) rfl
theorem dX12_onward_205 : decode cX12_onward 205 = .ok (.goto 46, 3) := fq3_167 (fl_X12_onward_3 (j := 13) rfl rfl) (fl_X12_onward_3 (j := 14) rfl rfl) (fl_X12_onward_3 (j := 15) rfl rfl) (s2p rfl (bl rfl))
theorem dX12_onward_208 : decode cX12_onward 208 = .ok (.aload_n 0, 1) := fq1_42 (fl_X12_onward_3 (j := 16) rfl rfl)
theorem dX12_onward_209 : decode cX12_onward 209 = .ok (.dup, 1) := fq1_89 (fl_X12_onward_3 (j := 17) rfl rfl)
theorem dX12_onward_210 : decode cX12_onward 210 = .ok (.getfield 115, 3) := fq3_180 (fl_X12_onward_3 (j := 18) rfl rfl) (fl_X12_onward_3 (j := 19) rfl rfl) (fl_X12_onward_3 (j := 20) rfl rfl) rfl
theorem dX12_onward_213 : decode cX12_onward 213 = .ok (.iconst 1, 1) := fq1_4 (fl_X12_onward_3 (j := 21) rfl rfl)
theorem dX12_onward_214 : decode cX12_onward 214 = .ok (.iadd, 1) := fq1_96 (fl_X12_onward_3 (j := 22) rfl rfl)
theorem dX12_onward_215 : decode cX12_onward 215 = .ok (.putfield 115, 3) := fq3_181 (fl_X12_onward_3 (j := 23) rfl rfl) (fl_X12_onward_3 (j := 24) rfl rfl) (fl_X12_onward_3 (j := 25) rfl rfl) rfl
theorem dX12_onward_218 : decode cX12_onward 218 = .ok (.aload_n 0, 1) := fq1_42 (fl_X12_onward_3 (j := 26) rfl rfl)
theorem dX12_onward_219 : decode cX12_onward 219 = .ok (.iload_n 1, 1) := fq1_27 (fl_X12_onward_3 (j := 27) rfl rfl)
theorem dX12_onward_220 : decode cX12_onward 220 = .ok (.bipush 59, 2) := fq2_16 (fl_X12_onward_3 (j := 28) rfl rfl) (fl_X12_onward_3 (j := 29) rfl rfl) (s1p rfl (bl rfl))
theorem dX12_onward_222 : decode cX12_onward 222 = .ok (.if_icmp .eq 21, 3) := fq3_159 (fl_X12_onward_3 (j := 30) rfl rfl) (fl_X12_onward_3 (j := 31) rfl rfl) (fl_X12_onward_3 (j := 32) rfl rfl) (s2p rfl (bl rfl))
theorem dX12_onward_225 : decode cX12_onward 225 = .ok (.iload_n 1, 1) := fq1_27 (fl_X12_onward_3 (j := 33) rfl rfl)
theorem dX12_onward_226 : decode cX12_onward 226 = .ok (.bipush 60, 2) := fq2_16 (fl_X12_onward_3 (j := 34) rfl rfl) (fl_X12_onward_3 (j := 35) rfl rfl) (s1p rfl (bl rfl))
theorem dX12_onward_228 : decode cX12_onward 228 = .ok (.if_icmp .eq 15, 3) := fq3_159 (fl_X12_onward_3 (j := 36) rfl rfl) (fl_X12_onward_3 (j := 37) rfl rfl) (fl_X12_onward_3 (j := 38) rfl rfl) (s2p rfl (bl rfl))
theorem dX12_onward_231 : decode cX12_onward 231 = .ok (.iload_n 1, 1) := fq1_27 (fl_X12_onward_3 (j := 39) rfl rfl)
theorem dX12_onward_232 : decode cX12_onward 232 = .ok (.bipush 62, 2) := fq2_16 (fl_X12_onward_3 (j := 40) rfl rfl) (fl_X12_onward_3 (j := 41) rfl rfl) (s1p rfl (bl rfl))
theorem dX12_onward_234 : decode cX12_onward 234 = .ok (.if_icmp .eq 9, 3) := fq3_159 (fl_X12_onward_3 (j := 42) rfl rfl) (fl_X12_onward_3 (j := 43) rfl rfl) (fl_X12_onward_3 (j := 44) rfl rfl) (s2p rfl (bl rfl))
theorem dX12_onward_237 : decode cX12_onward 237 = .ok (.iload_n 1, 1) := fq1_27 (fl_X12_onward_3 (j := 45) rfl rfl)
theorem dX12_onward_238 : decode cX12_onward 238 = .ok (.bipush 61, 2) := fq2_16 (fl_X12_onward_3 (j := 46) rfl rfl) (fl_X12_onward_3 (j := 47) rfl rfl) (s1p rfl (bl rfl))
theorem dX12_onward_240 : decode cX12_onward 240 = .ok (.if_icmp .ne 7, 3) := fq3_160 (fl_X12_onward_3 (j := 48) rfl rfl) (fl_X12_onward_3 (j := 49) rfl rfl) (fl_X12_onward_3 (j := 50) rfl rfl) (s2p rfl (bl rfl))
theorem dX12_onward_243 : decode cX12_onward 243 = .ok (.iconst 4, 1) := fq1_7 (fl_X12_onward_3 (j := 51) rfl rfl)
theorem dX12_onward_244 : decode cX12_onward 244 = .ok (.goto 4, 3) := fq3_167 (fl_X12_onward_3 (j := 52) rfl rfl) (fl_X12_onward_3 (j := 53) rfl rfl) (fl_X12_onward_3 (j := 54) rfl rfl) (s2p rfl (bl rfl))
theorem dX12_onward_247 : decode cX12_onward 247 = .ok (.iconst 1, 1) := fq1_4 (fl_X12_onward_3 (j := 55) rfl rfl)
theorem dX12_onward_248 : decode cX12_onward 248 = .ok (.putfield 127, 3) := fq3_181 (fl_X12_onward_3 (j := 56) rfl rfl) (fl_X12_onward_3 (j := 57) rfl rfl) (fl_X12_onward_3 (j := 58) rfl rfl) rfl
theorem dX12_onward_251 : decode cX12_onward 251 = .ok (.return_, 1) := fq1_177 (fl_X12_onward_3 (j := 59) rfl rfl)
def fb_X12_wantSign_0 : List UInt8 := [0x2a, 0x1b, 0xb6, 0x00, 0xa1, 0x9a, 0x00, 0x09, 0x2a, 0x05, 0xb6, 0x00, 0xa4, 0xac, 0x2a, 0xb6, 0x00, 0x9e, 0x04, 0xac]
theorem fl_X12_wantSign_0 {p j : Nat} {b : UInt8} (e : p = 0 + j) (h : fb_X12_wantSign_0[j]? = some b) : cX12_wantSign.data.toList[p]? = some b := fq_l (n := 64) (show (cX12_wantSign.data.toList.drop 0).take 64 = fb_X12_wantSign_0 by decide +kernel) e h
theorem dX12_wantSign_0 : decode cX12_wantSign 0 = .ok (.aload_n 0, 1) := fq1_42 (fl_X12_wantSign_0 (j := 0) rfl rfl)
theorem dX12_wantSign_1 : decode cX12_wantSign 1 = .ok (.iload_n 1, 1) := fq1_27 (fl_X12_wantSign_0 (j := 1) rfl rfl)
theorem dX12_wantSign_2 : decode cX12_wantSign 2 = .ok (.invokevirtual 161, 3) := fq3_182 (fl_X12_wantSign_0 (j := 2) rfl rfl) (fl_X12_wantSign_0 (j := 3) rfl rfl) (fl_X12_wantSign_0 (j := 4) rfl rfl) rfl
theorem dX12_wantSign_5 : decode cX12_wantSign 5 = .ok (.ifCond .ne 9, 3) := fq3_154 (fl_X12_wantSign_0 (j := 5) rfl rfl) (fl_X12_wantSign_0 (j := 6) rfl rfl) (fl_X12_wantSign_0 (j := 7) rfl rfl) (s2p rfl (bl rfl))
theorem dX12_wantSign_8 : decode cX12_wantSign 8 = .ok (.aload_n 0, 1) := fq1_42 (fl_X12_wantSign_0 (j := 8) rfl rfl)
theorem dX12_wantSign_9 : decode cX12_wantSign 9 = .ok (.iconst 2, 1) := fq1_5 (fl_X12_wantSign_0 (j := 9) rfl rfl)
theorem dX12_wantSign_10 : decode cX12_wantSign 10 = .ok (.invokevirtual 164, 3) := fq3_182 (fl_X12_wantSign_0 (j := 10) rfl rfl) (fl_X12_wantSign_0 (j := 11) rfl rfl) (fl_X12_wantSign_0 (j := 12) rfl rfl) rfl
theorem dX12_wantSign_13 : decode cX12_wantSign 13 = .ok (.ireturn, 1) := fq1_172 (fl_X12_wantSign_0 (j := 13) rfl rfl)
theorem dX12_wantSign_14 : decode cX12_wantSign 14 = .ok (.aload_n 0, 1) := fq1_42 (fl_X12_wantSign_0 (j := 14) rfl rfl)
theorem dX12_wantSign_15 : decode cX12_wantSign 15 = .ok (.invokevirtual 158, 3) := fq3_182 (fl_X12_wantSign_0 (j := 15) rfl rfl) (fl_X12_wantSign_0 (j := 16) rfl rfl) (fl_X12_wantSign_0 (j := 17) rfl rfl) rfl
theorem dX12_wantSign_18 : decode cX12_wantSign 18 = .ok (.iconst 1, 1) := fq1_4 (fl_X12_wantSign_0 (j := 18) rfl rfl)
theorem dX12_wantSign_19 : decode cX12_wantSign 19 = .ok (.ireturn, 1) := fq1_172 (fl_X12_wantSign_0 (j := 19) rfl rfl)
end

section
/-- the byte of a text, -1 behind it -/
def bA (f : Nat → Int32) (sz x : Int) : Int := if x < sz then (f x.toNat &&& 255).toInt else -1
theorem bA_in {f : Nat → Int32} {sz x z : Int} (hx : x < sz) (h : iZ z = iZ (gz f x) &&& iZ 255) : iZ z = iZ (bA f sz x) := by
  unfold bA
  rw [if_pos hx, h]
  have e1 : iZ (gz f x) = f x.toNat := Int32.ofInt_toInt _
  rw [e1]
  exact (Int32.ofInt_toInt _).symm
/-- below the place of what is read nothing changes -/
def KP (g f : Nat → Int32) : Prop := ∀ e : Int, 0 ≤ e → e < 3560 → gz g e = gz f e
theorem KP.rf (f : Nat → Int32) : KP f f := fun _ _ _ => rfl
theorem KP.tr {h g f : Nat → Int32} (a : KP h g) (b : KP g f) : KP h f := fun e x y => (a e x y).trans (b e x y)
theorem KP.up {g f : Nat → Int32} {i v : Int} (hg : g = upd f (iZ i).toNatClampNeg (iZ v)) (hi : 3560 ≤ i ∧ i < 2147483648) (hv : -2147483648 ≤ v ∧ v < 2147483648) : KP g f := fun e x y => by
  have c := gz_upc (j := e) hg (by omega) hv x
  omega
set_option maxHeartbeats 4000000 in
set_option maxRecDepth 100000 in
theorem m_isSmall (l : Launch) (D : va_G) (k : Nat → ClassId) (x : Int) (h9x : -2147483648 ≤ x ∧ x < 2147483648) : RP l yX12_isSmall cX12_isSmall 1 (some .boolean) 0 D k [.int (iZ x)] [] (fun z => (z = 1 ∧ (97 ≤ x ∧ x ≤ 122)) ∨ (z = 0 ∧ ¬ (97 ≤ x ∧ x ≤ 122))) := by
  refine MRP (by decide) (Nat.le_of_ble_eq_true rfl) (fun p e s m below meth c ls hx hb hml hr hlocks hts hown hKK hP hl => ?_)
  have hK := hKK.1
  have hl : lv_has ls 1 [(0, .int (iZ x))] := hl
  refine lv_iload_n hx hb dX12_isSmall_0 rfl (lv_at hl 0 rfl) ?_
  refine lv_bipush (v := iZ 97) hx hb dX12_isSmall_1 bip_97 ?_
  refine lv_icmp_lt (tgt := 16) hx hb dX12_isSmall_3 rfl (fun c_1 => ?_) (fun c_1 => ?_)
  ·
    have c_1 := (zlt (x := iZ x) (y := iZ 97) rfl rfl ⟨by omega, by omega⟩ wn_97).mp c_1
    refine lv_iconst (v := iZ 0) hx hb dX12_isSmall_16 rfl ?_
    exact EPz hx hb hr hlocks (by omega) (by omega) dX12_isSmall_17
  ·
    have c_1 := mt (zlt (x := iZ x) (y := iZ 97) rfl rfl ⟨by omega, by omega⟩ wn_97).mpr c_1
    refine lv_iload_n hx hb dX12_isSmall_6 rfl (lv_at hl 0 rfl) ?_
    refine lv_bipush (v := iZ 122) hx hb dX12_isSmall_7 bip_122 ?_
    refine lv_icmp_gt (tgt := 16) hx hb dX12_isSmall_9 rfl (fun c_2 => ?_) (fun c_2 => ?_)
    ·
      have c_2 := (zlt (x := iZ 122) (y := iZ x) rfl rfl wn_122 ⟨by omega, by omega⟩).mp c_2
      refine lv_iconst (v := iZ 0) hx hb dX12_isSmall_16 rfl ?_
      exact EPz hx hb hr hlocks (by omega) (by omega) dX12_isSmall_17
    ·
      have c_2 := mt (zlt (x := iZ 122) (y := iZ x) rfl rfl wn_122 ⟨by omega, by omega⟩).mpr c_2
      refine lv_iconst (v := iZ 1) hx hb dX12_isSmall_12 rfl ?_
      refine lv_goto (tgt := 17) hx hb dX12_isSmall_13 rfl ?_
      exact EPz hx hb hr hlocks (by omega) (by omega) dX12_isSmall_17
set_option maxHeartbeats 4000000 in
set_option maxRecDepth 100000 in
theorem m_isDigit (l : Launch) (D : va_G) (k : Nat → ClassId) (x : Int) (h9x : -2147483648 ≤ x ∧ x < 2147483648) : RP l yX12_isDigit cX12_isDigit 1 (some .boolean) 0 D k [.int (iZ x)] [] (fun z => (z = 1 ∧ (48 ≤ x ∧ x ≤ 57)) ∨ (z = 0 ∧ ¬ (48 ≤ x ∧ x ≤ 57))) := by
  refine MRP (by decide) (Nat.le_of_ble_eq_true rfl) (fun p e s m below meth c ls hx hb hml hr hlocks hts hown hKK hP hl => ?_)
  have hK := hKK.1
  have hl : lv_has ls 1 [(0, .int (iZ x))] := hl
  refine lv_iload_n hx hb dX12_isDigit_0 rfl (lv_at hl 0 rfl) ?_
  refine lv_bipush (v := iZ 48) hx hb dX12_isDigit_1 bip_48 ?_
  refine lv_icmp_lt (tgt := 16) hx hb dX12_isDigit_3 rfl (fun c_1 => ?_) (fun c_1 => ?_)
  ·
    have c_1 := (zlt (x := iZ x) (y := iZ 48) rfl rfl ⟨by omega, by omega⟩ wn_48).mp c_1
    refine lv_iconst (v := iZ 0) hx hb dX12_isDigit_16 rfl ?_
    exact EPz hx hb hr hlocks (by omega) (by omega) dX12_isDigit_17
  ·
    have c_1 := mt (zlt (x := iZ x) (y := iZ 48) rfl rfl ⟨by omega, by omega⟩ wn_48).mpr c_1
    refine lv_iload_n hx hb dX12_isDigit_6 rfl (lv_at hl 0 rfl) ?_
    refine lv_bipush (v := iZ 57) hx hb dX12_isDigit_7 bip_57 ?_
    refine lv_icmp_gt (tgt := 16) hx hb dX12_isDigit_9 rfl (fun c_2 => ?_) (fun c_2 => ?_)
    ·
      have c_2 := (zlt (x := iZ 57) (y := iZ x) rfl rfl wn_57 ⟨by omega, by omega⟩).mp c_2
      refine lv_iconst (v := iZ 0) hx hb dX12_isDigit_16 rfl ?_
      exact EPz hx hb hr hlocks (by omega) (by omega) dX12_isDigit_17
    ·
      have c_2 := mt (zlt (x := iZ 57) (y := iZ x) rfl rfl wn_57 ⟨by omega, by omega⟩).mpr c_2
      refine lv_iconst (v := iZ 1) hx hb dX12_isDigit_12 rfl ?_
      refine lv_goto (tgt := 17) hx hb dX12_isDigit_13 rfl ?_
      exact EPz hx hb hr hlocks (by omega) (by omega) dX12_isDigit_17
end
