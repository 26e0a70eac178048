section
theorem qc_X12_oldOne : Cond.code yX12_oldOne cX12_oldOne 4 (some .boolean) ∈ gw := tbt (tb7 (List.mem_of_getElem? (i := 46) rfl)) rfl
theorem qi_yX12_oldOne : Cond.instanceMethod yX12_oldOne ∈ gw := tbt (tb7 (List.mem_of_getElem? (i := 45) rfl)) rfl
theorem qs_X12_oldOne : Cond.selects (yX12_oldOne).cls yX12_oldOne yX12_oldOne ∈ gw := tb0 (List.mem_of_getElem? (i := 55) rfl) rfl
theorem ci_X12_oldOne : CIv yX12_oldOne cX12_oldOne 4 (some .boolean) 3 := ⟨qc_X12_oldOne, qi_yX12_oldOne, qs_X12_oldOne, qz_X12, by decide +kernel⟩
theorem qm_X12_195 : Cond.methodLink RX12 195 yX12_oldOne ∈ gw := tbt (tb7 (List.mem_of_getElem? (i := 43) rfl)) rfl
theorem qf_X12_198 : Cond.fieldLink RX12 198 "SlowWorldsModel" "lawTold" "Z" ∈ gw := tbt (tb6 (List.mem_of_getElem? (i := 64) rfl)) rfl
theorem qc_X12_aRock : Cond.code yX12_aRock cX12_aRock 3 (some .boolean) ∈ gw := tbt (tb7 (List.mem_of_getElem? (i := 10) rfl)) rfl
theorem qi_yX12_aRock : Cond.instanceMethod yX12_aRock ∈ gw := tbt (tb7 (List.mem_of_getElem? (i := 9) rfl)) rfl
theorem qs_X12_aRock : Cond.selects (yX12_aRock).cls yX12_aRock yX12_aRock ∈ gw := tb0 (List.mem_of_getElem? (i := 46) rfl) rfl
theorem ci_X12_aRock : CIv yX12_aRock cX12_aRock 3 (some .boolean) 0 := ⟨qc_X12_aRock, qi_yX12_aRock, qs_X12_aRock, qz_X12, by decide +kernel⟩
theorem qm_X12_202 : Cond.methodLink RX12 202 yX12_aRock ∈ gw := tbt (tb7 (List.mem_of_getElem? (i := 7) rfl)) rfl
theorem qc_X12_wantSign : Cond.code yX12_wantSign cX12_wantSign 2 (some .boolean) ∈ gw := tbt (tb7 (List.mem_of_getElem? (i := 54) rfl)) rfl
theorem qi_yX12_wantSign : Cond.instanceMethod yX12_wantSign ∈ gw := tbt (tb7 (List.mem_of_getElem? (i := 53) rfl)) rfl
theorem qs_X12_wantSign : Cond.selects (yX12_wantSign).cls yX12_wantSign yX12_wantSign ∈ gw := tb0 (List.mem_of_getElem? (i := 57) rfl) rfl
theorem ci_X12_wantSign : CIv yX12_wantSign cX12_wantSign 2 (some .boolean) 1 := ⟨qc_X12_wantSign, qi_yX12_wantSign, qs_X12_wantSign, qz_X12, by decide +kernel⟩
theorem qm_X12_212 : Cond.methodLink RX12 212 yX12_wantSign ∈ gw := tbt (tb7 (List.mem_of_getElem? (i := 51) rfl)) rfl
theorem qc_X12_anIce : Cond.code yX12_anIce cX12_anIce 3 (some .boolean) ∈ gw := tbt (tb7 (List.mem_of_getElem? (i := 42) rfl)) rfl
theorem qi_yX12_anIce : Cond.instanceMethod yX12_anIce ∈ gw := tbt (tb7 (List.mem_of_getElem? (i := 41) rfl)) rfl
theorem qs_X12_anIce : Cond.selects (yX12_anIce).cls yX12_anIce yX12_anIce ∈ gw := tb0 (List.mem_of_getElem? (i := 54) rfl) rfl
theorem ci_X12_anIce : CIv yX12_anIce cX12_anIce 3 (some .boolean) 0 := ⟨qc_X12_anIce, qi_yX12_anIce, qs_X12_anIce, qz_X12, by decide +kernel⟩
theorem qm_X12_206 : Cond.methodLink RX12 206 yX12_anIce ∈ gw := tbt (tb7 (List.mem_of_getElem? (i := 39) rfl)) rfl
theorem qc_X12_aLaw : Cond.code yX12_aLaw cX12_aLaw 2 (some .boolean) ∈ gw := tbt (tb7 (List.mem_of_getElem? (i := 50) rfl)) rfl
theorem qi_yX12_aLaw : Cond.instanceMethod yX12_aLaw ∈ gw := tbt (tb7 (List.mem_of_getElem? (i := 49) rfl)) rfl
theorem qs_X12_aLaw : Cond.selects (yX12_aLaw).cls yX12_aLaw yX12_aLaw ∈ gw := tb0 (List.mem_of_getElem? (i := 56) rfl) rfl
theorem ci_X12_aLaw : CIv yX12_aLaw cX12_aLaw 2 (some .boolean) 0 := ⟨qc_X12_aLaw, qi_yX12_aLaw, qs_X12_aLaw, qz_X12, by decide +kernel⟩
theorem qm_X12_209 : Cond.methodLink RX12 209 yX12_aLaw ∈ gw := tbt (tb7 (List.mem_of_getElem? (i := 47) rfl)) rfl
def fb_X12_aLaw_0 : List UInt8 := [0x2a, 0xb4, 0x00, 0xc6, 0x99, 0x00, 0x09, 0x2a, 0x08, 0xb6, 0x00, 0xa4, 0xac, 0x2a, 0x04, 0xb5, 0x00, 0xc6, 0x2a, 0xb6, 0x00, 0x9e, 0x2a, 0x12, 0xaf, 0xb6, 0x00, 0xa7, 0x3c, 0x1b, 0x10, 0x0c, 0x9f, 0x00, 0x1b, 0x1b, 0x10, 0x0d, 0x9f, 0x00, 0x15, 0x1b, 0x10, 0x06, 0x9f, 0x00, 0x0f, 0x1b, 0x10, 0x0e, 0x9f, 0x00, 0x09, 0x2a, 0x05, 0xb6, 0x00, 0xa4, 0xac, 0x2a, 0xb4, 0x00, 0x07, 0x11]
theorem fl_X12_aLaw_0 {p j : Nat} {b : UInt8} (e : p = 0 + j) (h : fb_X12_aLaw_0[j]? = some b) : cX12_aLaw.data.toList[p]? = some b := fq_l (n := 64) (show (cX12_aLaw.data.toList.drop 0).take 64 = fb_X12_aLaw_0 by decide +kernel) e h
theorem dX12_aLaw_0 : decode cX12_aLaw 0 = .ok (.aload_n 0, 1) := fq1_42 (fl_X12_aLaw_0 (j := 0) rfl rfl)
theorem dX12_aLaw_1 : decode cX12_aLaw 1 = .ok (.getfield 198, 3) := fq3_180 (fl_X12_aLaw_0 (j := 1) rfl rfl) (fl_X12_aLaw_0 (j := 2) rfl rfl) (fl_X12_aLaw_0 (j := 3) rfl rfl) rfl
theorem dX12_aLaw_4 : decode cX12_aLaw 4 = .ok (.ifCond .eq 9, 3) := fq3_153 (fl_X12_aLaw_0 (j := 4) rfl rfl) (fl_X12_aLaw_0 (j := 5) rfl rfl) (fl_X12_aLaw_0 (j := 6) rfl rfl) (s2p rfl (bl rfl))
theorem dX12_aLaw_7 : decode cX12_aLaw 7 = .ok (.aload_n 0, 1) := fq1_42 (fl_X12_aLaw_0 (j := 7) rfl rfl)
theorem dX12_aLaw_8 : decode cX12_aLaw 8 = .ok (.iconst 5, 1) := fq1_8 (fl_X12_aLaw_0 (j := 8) rfl rfl)
theorem dX12_aLaw_9 : decode cX12_aLaw 9 = .ok (.invokevirtual 164, 3) := fq3_182 (fl_X12_aLaw_0 (j := 9) rfl rfl) (fl_X12_aLaw_0 (j := 10) rfl rfl) (fl_X12_aLaw_0 (j := 11) rfl rfl) rfl
theorem dX12_aLaw_12 : decode cX12_aLaw 12 = .ok (.ireturn, 1) := fq1_172 (fl_X12_aLaw_0 (j := 12) rfl rfl)
theorem dX12_aLaw_13 : decode cX12_aLaw 13 = .ok (.aload_n 0, 1) := fq1_42 (fl_X12_aLaw_0 (j := 13) rfl rfl)
theorem dX12_aLaw_14 : decode cX12_aLaw 14 = .ok (.iconst 1, 1) := fq1_4 (fl_X12_aLaw_0 (j := 14) rfl rfl)
theorem dX12_aLaw_15 : decode cX12_aLaw 15 = .ok (.putfield 198, 3) := fq3_181 (fl_X12_aLaw_0 (j := 15) rfl rfl) (fl_X12_aLaw_0 (j := 16) rfl rfl) (fl_X12_aLaw_0 (j := 17) rfl rfl) rfl
theorem dX12_aLaw_18 : decode cX12_aLaw 18 = .ok (.aload_n 0, 1) := fq1_42 (fl_X12_aLaw_0 (j := 18) rfl rfl)
theorem dX12_aLaw_19 : decode cX12_aLaw 19 = .ok (.invokevirtual 158, 3) := fq3_182 (fl_X12_aLaw_0 (j := 19) rfl rfl) (fl_X12_aLaw_0 (j := 20) rfl rfl) (fl_X12_aLaw_0 (j := 21) rfl rfl) rfl
theorem dX12_aLaw_22 : decode cX12_aLaw 22 = .ok (.aload_n 0, 1) := fq1_42 (fl_X12_aLaw_0 (j := 22) rfl rfl)
theorem dX12_aLaw_23 : decode cX12_aLaw 23 = .ok (.ldc 175, 2) := fq2_18 (fl_X12_aLaw_0 (j := 23) rfl rfl) (fl_X12_aLaw_0 (j := 24) rfl rfl) rfl
theorem dX12_aLaw_25 : decode cX12_aLaw 25 = .ok (.invokevirtual 167, 3) := fq3_182 (fl_X12_aLaw_0 (j := 25) rfl rfl) (fl_X12_aLaw_0 (j := 26) rfl rfl) (fl_X12_aLaw_0 (j := 27) rfl rfl) rfl
theorem dX12_aLaw_28 : decode cX12_aLaw 28 = .ok (.istore_n 1, 1) := fq1_60 (fl_X12_aLaw_0 (j := 28) rfl rfl)
theorem dX12_aLaw_29 : decode cX12_aLaw 29 = .ok (.iload_n 1, 1) := fq1_27 (fl_X12_aLaw_0 (j := 29) rfl rfl)
theorem dX12_aLaw_30 : decode cX12_aLaw 30 = .ok (.bipush 12, 2) := fq2_16 (fl_X12_aLaw_0 (j := 30) rfl rfl) (fl_X12_aLaw_0 (j := 31) rfl rfl) (s1p rfl (bl rfl))
theorem dX12_aLaw_32 : decode cX12_aLaw 32 = .ok (.if_icmp .eq 27, 3) := fq3_159 (fl_X12_aLaw_0 (j := 32) rfl rfl) (fl_X12_aLaw_0 (j := 33) rfl rfl) (fl_X12_aLaw_0 (j := 34) rfl rfl) (s2p rfl (bl rfl))
theorem dX12_aLaw_35 : decode cX12_aLaw 35 = .ok (.iload_n 1, 1) := fq1_27 (fl_X12_aLaw_0 (j := 35) rfl rfl)
theorem dX12_aLaw_36 : decode cX12_aLaw 36 = .ok (.bipush 13, 2) := fq2_16 (fl_X12_aLaw_0 (j := 36) rfl rfl) (fl_X12_aLaw_0 (j := 37) rfl rfl) (s1p rfl (bl rfl))
theorem dX12_aLaw_38 : decode cX12_aLaw 38 = .ok (.if_icmp .eq 21, 3) := fq3_159 (fl_X12_aLaw_0 (j := 38) rfl rfl) (fl_X12_aLaw_0 (j := 39) rfl rfl) (fl_X12_aLaw_0 (j := 40) rfl rfl) (s2p rfl (bl rfl))
theorem dX12_aLaw_41 : decode cX12_aLaw 41 = .ok (.iload_n 1, 1) := fq1_27 (fl_X12_aLaw_0 (j := 41) rfl rfl)
theorem dX12_aLaw_42 : decode cX12_aLaw 42 = .ok (.bipush 6, 2) := fq2_16 (fl_X12_aLaw_0 (j := 42) rfl rfl) (fl_X12_aLaw_0 (j := 43) rfl rfl) (s1p rfl (bl rfl))
theorem dX12_aLaw_44 : decode cX12_aLaw 44 = .ok (.if_icmp .eq 15, 3) := fq3_159 (fl_X12_aLaw_0 (j := 44) rfl rfl) (fl_X12_aLaw_0 (j := 45) rfl rfl) (fl_X12_aLaw_0 (j := 46) rfl rfl) (s2p rfl (bl rfl))
theorem dX12_aLaw_47 : decode cX12_aLaw 47 = .ok (.iload_n 1, 1) := fq1_27 (fl_X12_aLaw_0 (j := 47) rfl rfl)
theorem dX12_aLaw_48 : decode cX12_aLaw 48 = .ok (.bipush 14, 2) := fq2_16 (fl_X12_aLaw_0 (j := 48) rfl rfl) (fl_X12_aLaw_0 (j := 49) rfl rfl) (s1p rfl (bl rfl))
theorem dX12_aLaw_50 : decode cX12_aLaw 50 = .ok (.if_icmp .eq 9, 3) := fq3_159 (fl_X12_aLaw_0 (j := 50) rfl rfl) (fl_X12_aLaw_0 (j := 51) rfl rfl) (fl_X12_aLaw_0 (j := 52) rfl rfl) (s2p rfl (bl rfl))
theorem dX12_aLaw_53 : decode cX12_aLaw 53 = .ok (.aload_n 0, 1) := fq1_42 (fl_X12_aLaw_0 (j := 53) rfl rfl)
theorem dX12_aLaw_54 : decode cX12_aLaw 54 = .ok (.iconst 2, 1) := fq1_5 (fl_X12_aLaw_0 (j := 54) rfl rfl)
theorem dX12_aLaw_55 : decode cX12_aLaw 55 = .ok (.invokevirtual 164, 3) := fq3_182 (fl_X12_aLaw_0 (j := 55) rfl rfl) (fl_X12_aLaw_0 (j := 56) rfl rfl) (fl_X12_aLaw_0 (j := 57) rfl rfl) rfl
theorem dX12_aLaw_58 : decode cX12_aLaw 58 = .ok (.ireturn, 1) := fq1_172 (fl_X12_aLaw_0 (j := 58) rfl rfl)
theorem dX12_aLaw_59 : decode cX12_aLaw 59 = .ok (.aload_n 0, 1) := fq1_42 (fl_X12_aLaw_0 (j := 59) rfl rfl)
theorem dX12_aLaw_60 : decode cX12_aLaw 60 = .ok (.getfield 7, 3) := fq3_180 (fl_X12_aLaw_0 (j := 60) rfl rfl) (fl_X12_aLaw_0 (j := 61) rfl rfl) (fl_X12_aLaw_0 (j := 62) rfl rfl) rfl
def fb_X12_aLaw_1 : List UInt8 := [0x0d, 0xea, 0x1b, 0x10, 0x0c, 0xa0, 0x00, 0x07, 0x03, 0xa7, 0x00, 0x18, 0x1b, 0x10, 0x0d, 0xa0, 0x00, 0x07, 0x04, 0xa7, 0x00, 0x0e, 0x1b, 0x10, 0x06, 0xa0, 0x00, 0x07, 0x05, 0xa7, 0x00, 0x04, 0x06, 0x4f, 0x2a, 0xb6, 0x00, 0x9e, 0x04, 0xac]
theorem fl_X12_aLaw_1 {p j : Nat} {b : UInt8} (e : p = 64 + j) (h : fb_X12_aLaw_1[j]? = some b) : cX12_aLaw.data.toList[p]? = some b := fq_l (n := 64) (show (cX12_aLaw.data.toList.drop 64).take 64 = fb_X12_aLaw_1 by decide +kernel) e h
theorem dX12_aLaw_63 : decode cX12_aLaw 63 = .ok (.sipush 3562, 3) := fq3_17 (fl_X12_aLaw_0 (j := 63) rfl rfl) (fl_X12_aLaw_1 (j := 0) rfl rfl) (fl_X12_aLaw_1 (j := 1) rfl rfl) (s2p rfl (bl rfl))
theorem dX12_aLaw_66 : decode cX12_aLaw 66 = .ok (.iload_n 1, 1) := fq1_27 (fl_X12_aLaw_1 (j := 2) rfl rfl)
theorem dX12_aLaw_67 : decode cX12_aLaw 67 = .ok (.bipush 12, 2) := fq2_16 (fl_X12_aLaw_1 (j := 3) rfl rfl) (fl_X12_aLaw_1 (j := 4) rfl rfl) (s1p rfl (bl rfl))
theorem dX12_aLaw_69 : decode cX12_aLaw 69 = .ok (.if_icmp .ne 7, 3) := fq3_160 (fl_X12_aLaw_1 (j := 5) rfl rfl) (fl_X12_aLaw_1 (j := 6) rfl rfl) (fl_X12_aLaw_1 (j := 7) rfl rfl) (s2p rfl (bl rfl))
theorem dX12_aLaw_72 : decode cX12_aLaw 72 = .ok (.iconst 0, 1) := fq1_3 (fl_X12_aLaw_1 (j := 8) rfl rfl)
theorem dX12_aLaw_73 : decode cX12_aLaw 73 = .ok (.goto 24, 3) := fq3_167 (fl_X12_aLaw_1 (j := 9) rfl rfl) (fl_X12_aLaw_1 (j := 10) rfl rfl) (fl_X12_aLaw_1 (j := 11) rfl rfl) (s2p rfl (bl rfl))
theorem dX12_aLaw_76 : decode cX12_aLaw 76 = .ok (.iload_n 1, 1) := fq1_27 (fl_X12_aLaw_1 (j := 12) rfl rfl)
theorem dX12_aLaw_77 : decode cX12_aLaw 77 = .ok (.bipush 13, 2) := fq2_16 (fl_X12_aLaw_1 (j := 13) rfl rfl) (fl_X12_aLaw_1 (j := 14) rfl rfl) (s1p rfl (bl rfl))
theorem dX12_aLaw_79 : decode cX12_aLaw 79 = .ok (.if_icmp .ne 7, 3) := fq3_160 (fl_X12_aLaw_1 (j := 15) rfl rfl) (fl_X12_aLaw_1 (j := 16) rfl rfl) (fl_X12_aLaw_1 (j := 17) rfl rfl) (s2p rfl (bl rfl))
theorem dX12_aLaw_82 : decode cX12_aLaw 82 = .ok (.iconst 1, 1) := fq1_4 (fl_X12_aLaw_1 (j := 18) rfl rfl)
theorem dX12_aLaw_83 : decode cX12_aLaw 83 = .ok (.goto 14, 3) := fq3_167 (fl_X12_aLaw_1 (j := 19) rfl rfl) (fl_X12_aLaw_1 (j := 20) rfl rfl) (fl_X12_aLaw_1 (j := 21) rfl rfl) (s2p rfl (bl rfl))
theorem dX12_aLaw_86 : decode cX12_aLaw 86 = .ok (.iload_n 1, 1) := fq1_27 (fl_X12_aLaw_1 (j := 22) rfl rfl)
theorem dX12_aLaw_87 : decode cX12_aLaw 87 = .ok (.bipush 6, 2) := fq2_16 (fl_X12_aLaw_1 (j := 23) rfl rfl) (fl_X12_aLaw_1 (j := 24) rfl rfl) (s1p rfl (bl rfl))
theorem dX12_aLaw_89 : decode cX12_aLaw 89 = .ok (.if_icmp .ne 7, 3) := fq3_160 (fl_X12_aLaw_1 (j := 25) rfl rfl) (fl_X12_aLaw_1 (j := 26) rfl rfl) (fl_X12_aLaw_1 (j := 27) rfl rfl) (s2p rfl (bl rfl))
theorem dX12_aLaw_92 : decode cX12_aLaw 92 = .ok (.iconst 2, 1) := fq1_5 (fl_X12_aLaw_1 (j := 28) rfl rfl)
theorem dX12_aLaw_93 : decode cX12_aLaw 93 = .ok (.goto 4, 3) := fq3_167 (fl_X12_aLaw_1 (j := 29) rfl rfl) (fl_X12_aLaw_1 (j := 30) rfl rfl) (fl_X12_aLaw_1 (j := 31) rfl rfl) (s2p rfl (bl rfl))
theorem dX12_aLaw_96 : decode cX12_aLaw 96 = .ok (.iconst 3, 1) := fq1_6 (fl_X12_aLaw_1 (j := 32) rfl rfl)
theorem dX12_aLaw_97 : decode cX12_aLaw 97 = .ok (.iastore, 1) := fq1_79 (fl_X12_aLaw_1 (j := 33) rfl rfl)
theorem dX12_aLaw_98 : decode cX12_aLaw 98 = .ok (.aload_n 0, 1) := fq1_42 (fl_X12_aLaw_1 (j := 34) rfl rfl)
theorem dX12_aLaw_99 : decode cX12_aLaw 99 = .ok (.invokevirtual 158, 3) := fq3_182 (fl_X12_aLaw_1 (j := 35) rfl rfl) (fl_X12_aLaw_1 (j := 36) rfl rfl) (fl_X12_aLaw_1 (j := 37) rfl rfl) rfl
theorem dX12_aLaw_102 : decode cX12_aLaw 102 = .ok (.iconst 1, 1) := fq1_4 (fl_X12_aLaw_1 (j := 38) rfl rfl)
theorem dX12_aLaw_103 : decode cX12_aLaw 103 = .ok (.ireturn, 1) := fq1_172 (fl_X12_aLaw_1 (j := 39) rfl rfl)
def fb_X12_anIce_0 : List UInt8 := [0x11, 0x0e, 0x16, 0x07, 0x2a, 0xb4, 0x00, 0x07, 0x11, 0x0d, 0xe9, 0x2e, 0x68, 0x60, 0x3c, 0x2a, 0xb4, 0x00, 0x07, 0x11, 0x0d, 0xe8, 0x2e, 0x3d, 0x2a, 0xb4, 0x00, 0x07, 0x11, 0x0d, 0xe9, 0x2e, 0x10, 0x08, 0xa0, 0x00, 0x0a, 0x2a, 0x10, 0x06, 0xb6, 0x00, 0xa4, 0xac, 0x2a, 0xb6, 0x00, 0x9e, 0x2a, 0x10, 0x18, 0x1c, 0x1b, 0xb6, 0x00, 0xc3, 0x9a, 0x00, 0x05, 0x03, 0xac, 0x2a, 0x12, 0xaf]
theorem fl_X12_anIce_0 {p j : Nat} {b : UInt8} (e : p = 0 + j) (h : fb_X12_anIce_0[j]? = some b) : cX12_anIce.data.toList[p]? = some b := fq_l (n := 64) (show (cX12_anIce.data.toList.drop 0).take 64 = fb_X12_anIce_0 by decide +kernel) e h
theorem dX12_anIce_0 : decode cX12_anIce 0 = .ok (.sipush 3606, 3) := fq3_17 (fl_X12_anIce_0 (j := 0) rfl rfl) (fl_X12_anIce_0 (j := 1) rfl rfl) (fl_X12_anIce_0 (j := 2) rfl rfl) (s2p rfl (bl rfl))
theorem dX12_anIce_3 : decode cX12_anIce 3 = .ok (.iconst 4, 1) := fq1_7 (fl_X12_anIce_0 (j := 3) rfl rfl)
theorem dX12_anIce_4 : decode cX12_anIce 4 = .ok (.aload_n 0, 1) := fq1_42 (fl_X12_anIce_0 (j := 4) rfl rfl)
theorem dX12_anIce_5 : decode cX12_anIce 5 = .ok (.getfield 7, 3) := fq3_180 (fl_X12_anIce_0 (j := 5) rfl rfl) (fl_X12_anIce_0 (j := 6) rfl rfl) (fl_X12_anIce_0 (j := 7) rfl rfl) rfl
theorem dX12_anIce_8 : decode cX12_anIce 8 = .ok (.sipush 3561, 3) := fq3_17 (fl_X12_anIce_0 (j := 8) rfl rfl) (fl_X12_anIce_0 (j := 9) rfl rfl) (fl_X12_anIce_0 (j := 10) rfl rfl) (s2p rfl (bl rfl))
theorem dX12_anIce_11 : decode cX12_anIce 11 = .ok (.iaload, 1) := fq1_46 (fl_X12_anIce_0 (j := 11) rfl rfl)
theorem dX12_anIce_12 : decode cX12_anIce 12 = .ok (.imul, 1) := fq1_104 (fl_X12_anIce_0 (j := 12) rfl rfl)
theorem dX12_anIce_13 : decode cX12_anIce 13 = .ok (.iadd, 1) := fq1_96 (fl_X12_anIce_0 (j := 13) rfl rfl)
theorem dX12_anIce_14 : decode cX12_anIce 14 = .ok (.istore_n 1, 1) := fq1_60 (fl_X12_anIce_0 (j := 14) rfl rfl)
theorem dX12_anIce_15 : decode cX12_anIce 15 = .ok (.aload_n 0, 1) := fq1_42 (fl_X12_anIce_0 (j := 15) rfl rfl)
theorem dX12_anIce_16 : decode cX12_anIce 16 = .ok (.getfield 7, 3) := fq3_180 (fl_X12_anIce_0 (j := 16) rfl rfl) (fl_X12_anIce_0 (j := 17) rfl rfl) (fl_X12_anIce_0 (j := 18) rfl rfl) rfl
theorem dX12_anIce_19 : decode cX12_anIce 19 = .ok (.sipush 3560, 3) := fq3_17 (fl_X12_anIce_0 (j := 19) rfl rfl) (fl_X12_anIce_0 (j := 20) rfl rfl) (fl_X12_anIce_0 (j := 21) rfl rfl) (s2p rfl (bl rfl))
theorem dX12_anIce_22 : decode cX12_anIce 22 = .ok (.iaload, 1) := fq1_46 (fl_X12_anIce_0 (j := 22) rfl rfl)
theorem dX12_anIce_23 : decode cX12_anIce 23 = .ok (.istore_n 2, 1) := fq1_61 (fl_X12_anIce_0 (j := 23) rfl rfl)
theorem dX12_anIce_24 : decode cX12_anIce 24 = .ok (.aload_n 0, 1) := fq1_42 (fl_X12_anIce_0 (j := 24) rfl rfl)
theorem dX12_anIce_25 : decode cX12_anIce 25 = .ok (.getfield 7, 3) := fq3_180 (fl_X12_anIce_0 (j := 25) rfl rfl) (fl_X12_anIce_0 (j := 26) rfl rfl) (fl_X12_anIce_0 (j := 27) rfl rfl) rfl
theorem dX12_anIce_28 : decode cX12_anIce 28 = .ok (.sipush 3561, 3) := fq3_17 (fl_X12_anIce_0 (j := 28) rfl rfl) (fl_X12_anIce_0 (j := 29) rfl rfl) (fl_X12_anIce_0 (j := 30) rfl rfl) (s2p rfl (bl rfl))
theorem dX12_anIce_31 : decode cX12_anIce 31 = .ok (.iaload, 1) := fq1_46 (fl_X12_anIce_0 (j := 31) rfl rfl)
theorem dX12_anIce_32 : decode cX12_anIce 32 = .ok (.bipush 8, 2) := fq2_16 (fl_X12_anIce_0 (j := 32) rfl rfl) (fl_X12_anIce_0 (j := 33) rfl rfl) (s1p rfl (bl rfl))
theorem dX12_anIce_34 : decode cX12_anIce 34 = .ok (.if_icmp .ne 10, 3) := fq3_160 (fl_X12_anIce_0 (j := 34) rfl rfl) (fl_X12_anIce_0 (j := 35) rfl rfl) (fl_X12_anIce_0 (j := 36) rfl rfl) (s2p rfl (bl rfl))
theorem dX12_anIce_37 : decode cX12_anIce 37 = .ok (.aload_n 0, 1) := fq1_42 (fl_X12_anIce_0 (j := 37) rfl rfl)
theorem dX12_anIce_38 : decode cX12_anIce 38 = .ok (.bipush 6, 2) := fq2_16 (fl_X12_anIce_0 (j := 38) rfl rfl) (fl_X12_anIce_0 (j := 39) rfl rfl) (s1p rfl (bl rfl))
theorem dX12_anIce_40 : decode cX12_anIce 40 = .ok (.invokevirtual 164, 3) := fq3_182 (fl_X12_anIce_0 (j := 40) rfl rfl) (fl_X12_anIce_0 (j := 41) rfl rfl) (fl_X12_anIce_0 (j := 42) rfl rfl) rfl
theorem dX12_anIce_43 : decode cX12_anIce 43 = .ok (.ireturn, 1) := fq1_172 (fl_X12_anIce_0 (j := 43) rfl rfl)
theorem dX12_anIce_44 : decode cX12_anIce 44 = .ok (.aload_n 0, 1) := fq1_42 (fl_X12_anIce_0 (j := 44) rfl rfl)
theorem dX12_anIce_45 : decode cX12_anIce 45 = .ok (.invokevirtual 158, 3) := fq3_182 (fl_X12_anIce_0 (j := 45) rfl rfl) (fl_X12_anIce_0 (j := 46) rfl rfl) (fl_X12_anIce_0 (j := 47) rfl rfl) rfl
theorem dX12_anIce_48 : decode cX12_anIce 48 = .ok (.aload_n 0, 1) := fq1_42 (fl_X12_anIce_0 (j := 48) rfl rfl)
theorem dX12_anIce_49 : decode cX12_anIce 49 = .ok (.bipush 24, 2) := fq2_16 (fl_X12_anIce_0 (j := 49) rfl rfl) (fl_X12_anIce_0 (j := 50) rfl rfl) (s1p rfl (bl rfl))
theorem dX12_anIce_51 : decode cX12_anIce 51 = .ok (.iload_n 2, 1) := fq1_28 (fl_X12_anIce_0 (j := 51) rfl rfl)
theorem dX12_anIce_52 : decode cX12_anIce 52 = .ok (.iload_n 1, 1) := fq1_27 (fl_X12_anIce_0 (j := 52) rfl rfl)
theorem dX12_anIce_53 : decode cX12_anIce 53 = .ok (.invokevirtual 195, 3) := fq3_182 (fl_X12_anIce_0 (j := 53) rfl rfl) (fl_X12_anIce_0 (j := 54) rfl rfl) (fl_X12_anIce_0 (j := 55) rfl rfl) rfl
theorem dX12_anIce_56 : decode cX12_anIce 56 = .ok (.ifCond .ne 5, 3) := fq3_154 (fl_X12_anIce_0 (j := 56) rfl rfl) (fl_X12_anIce_0 (j := 57) rfl rfl) (fl_X12_anIce_0 (j := 58) rfl rfl) (s2p rfl (bl rfl))
theorem dX12_anIce_59 : decode cX12_anIce 59 = .ok (.iconst 0, 1) := fq1_3 (fl_X12_anIce_0 (j := 59) rfl rfl)
theorem dX12_anIce_60 : decode cX12_anIce 60 = .ok (.ireturn, 1) := fq1_172 (fl_X12_anIce_0 (j := 60) rfl rfl)
theorem dX12_anIce_61 : decode cX12_anIce 61 = .ok (.aload_n 0, 1) := fq1_42 (fl_X12_anIce_0 (j := 61) rfl rfl)
theorem dX12_anIce_62 : decode cX12_anIce 62 = .ok (.ldc 175, 2) := fq2_18 (fl_X12_anIce_0 (j := 62) rfl rfl) (fl_X12_anIce_0 (j := 63) rfl rfl) rfl
def fb_X12_anIce_1 : List UInt8 := [0xb6, 0x00, 0xb1, 0x99, 0x00, 0x19, 0x2a, 0x10, 0x18, 0x1c, 0xb6, 0x00, 0xb5, 0x2a, 0xb4, 0x00, 0x07, 0x1b, 0x2e, 0xa0, 0x00, 0x09, 0x2a, 0x08, 0xb6, 0x00, 0xa4, 0xac, 0x2a, 0x10, 0x18, 0x1c, 0x1b, 0x04, 0x60, 0xb6, 0x00, 0xc3, 0x9a, 0x00, 0x05, 0x03, 0xac, 0x2a, 0x12, 0xaf, 0x10, 0x0a, 0xb6, 0x00, 0xb8, 0x99, 0x00, 0x31, 0x2a, 0x1b, 0x05, 0x60, 0x03, 0x11, 0x01, 0x90, 0xb6, 0x00]
theorem fl_X12_anIce_1 {p j : Nat} {b : UInt8} (e : p = 64 + j) (h : fb_X12_anIce_1[j]? = some b) : cX12_anIce.data.toList[p]? = some b := fq_l (n := 64) (show (cX12_anIce.data.toList.drop 64).take 64 = fb_X12_anIce_1 by decide +kernel) e h
theorem dX12_anIce_64 : decode cX12_anIce 64 = .ok (.invokevirtual 177, 3) := fq3_182 (fl_X12_anIce_1 (j := 0) rfl rfl) (fl_X12_anIce_1 (j := 1) rfl rfl) (fl_X12_anIce_1 (j := 2) rfl rfl) rfl
theorem dX12_anIce_67 : decode cX12_anIce 67 = .ok (.ifCond .eq 25, 3) := fq3_153 (fl_X12_anIce_1 (j := 3) rfl rfl) (fl_X12_anIce_1 (j := 4) rfl rfl) (fl_X12_anIce_1 (j := 5) rfl rfl) (s2p rfl (bl rfl))
theorem dX12_anIce_70 : decode cX12_anIce 70 = .ok (.aload_n 0, 1) := fq1_42 (fl_X12_anIce_1 (j := 6) rfl rfl)
theorem dX12_anIce_71 : decode cX12_anIce 71 = .ok (.bipush 24, 2) := fq2_16 (fl_X12_anIce_1 (j := 7) rfl rfl) (fl_X12_anIce_1 (j := 8) rfl rfl) (s1p rfl (bl rfl))
theorem dX12_anIce_73 : decode cX12_anIce 73 = .ok (.iload_n 2, 1) := fq1_28 (fl_X12_anIce_1 (j := 9) rfl rfl)
theorem dX12_anIce_74 : decode cX12_anIce 74 = .ok (.invokevirtual 181, 3) := fq3_182 (fl_X12_anIce_1 (j := 10) rfl rfl) (fl_X12_anIce_1 (j := 11) rfl rfl) (fl_X12_anIce_1 (j := 12) rfl rfl) rfl
theorem dX12_anIce_77 : decode cX12_anIce 77 = .ok (.aload_n 0, 1) := fq1_42 (fl_X12_anIce_1 (j := 13) rfl rfl)
theorem dX12_anIce_78 : decode cX12_anIce 78 = .ok (.getfield 7, 3) := fq3_180 (fl_X12_anIce_1 (j := 14) rfl rfl) (fl_X12_anIce_1 (j := 15) rfl rfl) (fl_X12_anIce_1 (j := 16) rfl rfl) rfl
theorem dX12_anIce_81 : decode cX12_anIce 81 = .ok (.iload_n 1, 1) := fq1_27 (fl_X12_anIce_1 (j := 17) rfl rfl)
theorem dX12_anIce_82 : decode cX12_anIce 82 = .ok (.iaload, 1) := fq1_46 (fl_X12_anIce_1 (j := 18) rfl rfl)
theorem dX12_anIce_83 : decode cX12_anIce 83 = .ok (.if_icmp .ne 9, 3) := fq3_160 (fl_X12_anIce_1 (j := 19) rfl rfl) (fl_X12_anIce_1 (j := 20) rfl rfl) (fl_X12_anIce_1 (j := 21) rfl rfl) (s2p rfl (bl rfl))
theorem dX12_anIce_86 : decode cX12_anIce 86 = .ok (.aload_n 0, 1) := fq1_42 (fl_X12_anIce_1 (j := 22) rfl rfl)
theorem dX12_anIce_87 : decode cX12_anIce 87 = .ok (.iconst 5, 1) := fq1_8 (fl_X12_anIce_1 (j := 23) rfl rfl)
theorem dX12_anIce_88 : decode cX12_anIce 88 = .ok (.invokevirtual 164, 3) := fq3_182 (fl_X12_anIce_1 (j := 24) rfl rfl) (fl_X12_anIce_1 (j := 25) rfl rfl) (fl_X12_anIce_1 (j := 26) rfl rfl) rfl
theorem dX12_anIce_91 : decode cX12_anIce 91 = .ok (.ireturn, 1) := fq1_172 (fl_X12_anIce_1 (j := 27) rfl rfl)
theorem dX12_anIce_92 : decode cX12_anIce 92 = .ok (.aload_n 0, 1) := fq1_42 (fl_X12_anIce_1 (j := 28) rfl rfl)
theorem dX12_anIce_93 : decode cX12_anIce 93 = .ok (.bipush 24, 2) := fq2_16 (fl_X12_anIce_1 (j := 29) rfl rfl) (fl_X12_anIce_1 (j := 30) rfl rfl) (s1p rfl (bl rfl))
theorem dX12_anIce_95 : decode cX12_anIce 95 = .ok (.iload_n 2, 1) := fq1_28 (fl_X12_anIce_1 (j := 31) rfl rfl)
theorem dX12_anIce_96 : decode cX12_anIce 96 = .ok (.iload_n 1, 1) := fq1_27 (fl_X12_anIce_1 (j := 32) rfl rfl)
theorem dX12_anIce_97 : decode cX12_anIce 97 = .ok (.iconst 1, 1) := fq1_4 (fl_X12_anIce_1 (j := 33) rfl rfl)
theorem dX12_anIce_98 : decode cX12_anIce 98 = .ok (.iadd, 1) := fq1_96 (fl_X12_anIce_1 (j := 34) rfl rfl)
theorem dX12_anIce_99 : decode cX12_anIce 99 = .ok (.invokevirtual 195, 3) := fq3_182 (fl_X12_anIce_1 (j := 35) rfl rfl) (fl_X12_anIce_1 (j := 36) rfl rfl) (fl_X12_anIce_1 (j := 37) rfl rfl) rfl
theorem dX12_anIce_102 : decode cX12_anIce 102 = .ok (.ifCond .ne 5, 3) := fq3_154 (fl_X12_anIce_1 (j := 38) rfl rfl) (fl_X12_anIce_1 (j := 39) rfl rfl) (fl_X12_anIce_1 (j := 40) rfl rfl) (s2p rfl (bl rfl))
theorem dX12_anIce_105 : decode cX12_anIce 105 = .ok (.iconst 0, 1) := fq1_3 (fl_X12_anIce_1 (j := 41) rfl rfl)
theorem dX12_anIce_106 : decode cX12_anIce 106 = .ok (.ireturn, 1) := fq1_172 (fl_X12_anIce_1 (j := 42) rfl rfl)
theorem dX12_anIce_107 : decode cX12_anIce 107 = .ok (.aload_n 0, 1) := fq1_42 (fl_X12_anIce_1 (j := 43) rfl rfl)
theorem dX12_anIce_108 : decode cX12_anIce 108 = .ok (.ldc 175, 2) := fq2_18 (fl_X12_anIce_1 (j := 44) rfl rfl) (fl_X12_anIce_1 (j := 45) rfl rfl) rfl
theorem dX12_anIce_110 : decode cX12_anIce 110 = .ok (.bipush 10, 2) := fq2_16 (fl_X12_anIce_1 (j := 46) rfl rfl) (fl_X12_anIce_1 (j := 47) rfl rfl) (s1p rfl (bl rfl))
theorem dX12_anIce_112 : decode cX12_anIce 112 = .ok (.invokevirtual 184, 3) := fq3_182 (fl_X12_anIce_1 (j := 48) rfl rfl) (fl_X12_anIce_1 (j := 49) rfl rfl) (fl_X12_anIce_1 (j := 50) rfl rfl) rfl
theorem dX12_anIce_115 : decode cX12_anIce 115 = .ok (.ifCond .eq 49, 3) := fq3_153 (fl_X12_anIce_1 (j := 51) rfl rfl) (fl_X12_anIce_1 (j := 52) rfl rfl) (fl_X12_anIce_1 (j := 53) rfl rfl) (s2p rfl (bl rfl))
theorem dX12_anIce_118 : decode cX12_anIce 118 = .ok (.aload_n 0, 1) := fq1_42 (fl_X12_anIce_1 (j := 54) rfl rfl)
theorem dX12_anIce_119 : decode cX12_anIce 119 = .ok (.iload_n 1, 1) := fq1_27 (fl_X12_anIce_1 (j := 55) rfl rfl)
theorem dX12_anIce_120 : decode cX12_anIce 120 = .ok (.iconst 2, 1) := fq1_5 (fl_X12_anIce_1 (j := 56) rfl rfl)
theorem dX12_anIce_121 : decode cX12_anIce 121 = .ok (.iadd, 1) := fq1_96 (fl_X12_anIce_1 (j := 57) rfl rfl)
theorem dX12_anIce_122 : decode cX12_anIce 122 = .ok (.iconst 0, 1) := fq1_3 (fl_X12_anIce_1 (j := 58) rfl rfl)
theorem dX12_anIce_123 : decode cX12_anIce 123 = .ok (.sipush 400, 3) := fq3_17 (fl_X12_anIce_1 (j := 59) rfl rfl) (fl_X12_anIce_1 (j := 60) rfl rfl) (fl_X12_anIce_1 (j := 61) rfl rfl) (s2p rfl (bl rfl))
def fb_X12_anIce_2 : List UInt8 := [0xbc, 0x99, 0x00, 0x23, 0x2a, 0x12, 0xaf, 0x10, 0x0b, 0xb6, 0x00, 0xb8, 0x99, 0x00, 0x18, 0x2a, 0x1b, 0x06, 0x60, 0x2a, 0xb4, 0x00, 0x07, 0x1b, 0x05, 0x60, 0x2e, 0x11, 0x01, 0x90, 0xb6, 0x00, 0xbc, 0x9a, 0x00, 0x05, 0x03, 0xac, 0x2a, 0xb4, 0x00, 0x07, 0x11, 0x0d, 0xe9, 0x5c, 0x2e, 0x04, 0x60, 0x4f, 0x04, 0xac]
theorem fl_X12_anIce_2 {p j : Nat} {b : UInt8} (e : p = 128 + j) (h : fb_X12_anIce_2[j]? = some b) : cX12_anIce.data.toList[p]? = some b := fq_l (n := 64) (show (cX12_anIce.data.toList.drop 128).take 64 = fb_X12_anIce_2 by decide +kernel) e h
theorem dX12_anIce_126 : decode cX12_anIce 126 = .ok (.invokevirtual 188, 3) := fq3_182 (fl_X12_anIce_1 (j := 62) rfl rfl) (fl_X12_anIce_1 (j := 63) rfl rfl) (fl_X12_anIce_2 (j := 0) rfl rfl) rfl
theorem dX12_anIce_129 : decode cX12_anIce 129 = .ok (.ifCond .eq 35, 3) := fq3_153 (fl_X12_anIce_2 (j := 1) rfl rfl) (fl_X12_anIce_2 (j := 2) rfl rfl) (fl_X12_anIce_2 (j := 3) rfl rfl) (s2p rfl (bl rfl))
theorem dX12_anIce_132 : decode cX12_anIce 132 = .ok (.aload_n 0, 1) := fq1_42 (fl_X12_anIce_2 (j := 4) rfl rfl)
theorem dX12_anIce_133 : decode cX12_anIce 133 = .ok (.ldc 175, 2) := fq2_18 (fl_X12_anIce_2 (j := 5) rfl rfl) (fl_X12_anIce_2 (j := 6) rfl rfl) rfl
theorem dX12_anIce_135 : decode cX12_anIce 135 = .ok (.bipush 11, 2) := fq2_16 (fl_X12_anIce_2 (j := 7) rfl rfl) (fl_X12_anIce_2 (j := 8) rfl rfl) (s1p rfl (bl rfl))
theorem dX12_anIce_137 : decode cX12_anIce 137 = .ok (.invokevirtual 184, 3) := fq3_182 (fl_X12_anIce_2 (j := 9) rfl rfl) (fl_X12_anIce_2 (j := 10) rfl rfl) (fl_X12_anIce_2 (j := 11) rfl rfl) rfl
theorem dX12_anIce_140 : decode cX12_anIce 140 = .ok (.ifCond .eq 24, 3) := fq3_153 (fl_X12_anIce_2 (j := 12) rfl rfl) (fl_X12_anIce_2 (j := 13) rfl rfl) (fl_X12_anIce_2 (j := 14) rfl rfl) (s2p rfl (bl rfl))
theorem dX12_anIce_143 : decode cX12_anIce 143 = .ok (.aload_n 0, 1) := fq1_42 (fl_X12_anIce_2 (j := 15) rfl rfl)
theorem dX12_anIce_144 : decode cX12_anIce 144 = .ok (.iload_n 1, 1) := fq1_27 (fl_X12_anIce_2 (j := 16) rfl rfl)
theorem dX12_anIce_145 : decode cX12_anIce 145 = .ok (.iconst 3, 1) := fq1_6 (fl_X12_anIce_2 (j := 17) rfl rfl)
theorem dX12_anIce_146 : decode cX12_anIce 146 = .ok (.iadd, 1) := fq1_96 (fl_X12_anIce_2 (j := 18) rfl rfl)
theorem dX12_anIce_147 : decode cX12_anIce 147 = .ok (.aload_n 0, 1) := fq1_42 (fl_X12_anIce_2 (j := 19) rfl rfl)
theorem dX12_anIce_148 : decode cX12_anIce 148 = .ok (.getfield 7, 3) := fq3_180 (fl_X12_anIce_2 (j := 20) rfl rfl) (fl_X12_anIce_2 (j := 21) rfl rfl) (fl_X12_anIce_2 (j := 22) rfl rfl) rfl
theorem dX12_anIce_151 : decode cX12_anIce 151 = .ok (.iload_n 1, 1) := fq1_27 (fl_X12_anIce_2 (j := 23) rfl rfl)
theorem dX12_anIce_152 : decode cX12_anIce 152 = .ok (.iconst 2, 1) := fq1_5 (fl_X12_anIce_2 (j := 24) rfl rfl)
theorem dX12_anIce_153 : decode cX12_anIce 153 = .ok (.iadd, 1) := fq1_96 (fl_X12_anIce_2 (j := 25) rfl rfl)
theorem dX12_anIce_154 : decode cX12_anIce 154 = .ok (.iaload, 1) := fq1_46 (fl_X12_anIce_2 (j := 26) rfl rfl)
theorem dX12_anIce_155 : decode cX12_anIce 155 = .ok (.sipush 400, 3) := fq3_17 (fl_X12_anIce_2 (j := 27) rfl rfl) (fl_X12_anIce_2 (j := 28) rfl rfl) (fl_X12_anIce_2 (j := 29) rfl rfl) (s2p rfl (bl rfl))
theorem dX12_anIce_158 : decode cX12_anIce 158 = .ok (.invokevirtual 188, 3) := fq3_182 (fl_X12_anIce_2 (j := 30) rfl rfl) (fl_X12_anIce_2 (j := 31) rfl rfl) (fl_X12_anIce_2 (j := 32) rfl rfl) rfl
theorem dX12_anIce_161 : decode cX12_anIce 161 = .ok (.ifCond .ne 5, 3) := fq3_154 (fl_X12_anIce_2 (j := 33) rfl rfl) (fl_X12_anIce_2 (j := 34) rfl rfl) (fl_X12_anIce_2 (j := 35) rfl rfl) (s2p rfl (bl rfl))
theorem dX12_anIce_164 : decode cX12_anIce 164 = .ok (.iconst 0, 1) := fq1_3 (fl_X12_anIce_2 (j := 36) rfl rfl)
theorem dX12_anIce_165 : decode cX12_anIce 165 = .ok (.ireturn, 1) := fq1_172 (fl_X12_anIce_2 (j := 37) rfl rfl)
theorem dX12_anIce_166 : decode cX12_anIce 166 = .ok (.aload_n 0, 1) := fq1_42 (fl_X12_anIce_2 (j := 38) rfl rfl)
theorem dX12_anIce_167 : decode cX12_anIce 167 = .ok (.getfield 7, 3) := fq3_180 (fl_X12_anIce_2 (j := 39) rfl rfl) (fl_X12_anIce_2 (j := 40) rfl rfl) (fl_X12_anIce_2 (j := 41) rfl rfl) rfl
theorem dX12_anIce_170 : decode cX12_anIce 170 = .ok (.sipush 3561, 3) := fq3_17 (fl_X12_anIce_2 (j := 42) rfl rfl) (fl_X12_anIce_2 (j := 43) rfl rfl) (fl_X12_anIce_2 (j := 44) rfl rfl) (s2p rfl (bl rfl))
theorem dX12_anIce_173 : decode cX12_anIce 173 = .ok (.dup2, 1) := fq1_92 (fl_X12_anIce_2 (j := 45) rfl rfl)
theorem dX12_anIce_174 : decode cX12_anIce 174 = .ok (.iaload, 1) := fq1_46 (fl_X12_anIce_2 (j := 46) rfl rfl)
theorem dX12_anIce_175 : decode cX12_anIce 175 = .ok (.iconst 1, 1) := fq1_4 (fl_X12_anIce_2 (j := 47) rfl rfl)
theorem dX12_anIce_176 : decode cX12_anIce 176 = .ok (.iadd, 1) := fq1_96 (fl_X12_anIce_2 (j := 48) rfl rfl)
theorem dX12_anIce_177 : decode cX12_anIce 177 = .ok (.iastore, 1) := fq1_79 (fl_X12_anIce_2 (j := 49) rfl rfl)
theorem dX12_anIce_178 : decode cX12_anIce 178 = .ok (.iconst 1, 1) := fq1_4 (fl_X12_anIce_2 (j := 50) rfl rfl)
theorem dX12_anIce_179 : decode cX12_anIce 179 = .ok (.ireturn, 1) := fq1_172 (fl_X12_anIce_2 (j := 51) rfl rfl)
def fb_X12_skyPart_0 : List UInt8 := [0x2a, 0x12, 0xaf, 0xb6, 0x00, 0xa7, 0xaa, 0x00, 0x00, 0x00, 0x00, 0x32, 0x00, 0x00, 0x00, 0x00, 0x00, 0x00, 0x00, 0x02, 0x00, 0x00, 0x00, 0x1a, 0x00, 0x00, 0x00, 0x22, 0x00, 0x00, 0x00, 0x2a, 0x2a, 0xb6, 0x00, 0xca, 0x3c, 0xa7, 0x00, 0x19, 0x2a, 0xb6, 0x00, 0xce, 0x3c, 0xa7, 0x00, 0x11, 0x2a, 0xb6, 0x00, 0xd1, 0x3c, 0xa7, 0x00, 0x09, 0x2a, 0x05, 0xb6, 0x00, 0xa4, 0xac, 0x1b, 0x99]
theorem fl_X12_skyPart_0 {p j : Nat} {b : UInt8} (e : p = 0 + j) (h : fb_X12_skyPart_0[j]? = some b) : cX12_skyPart.data.toList[p]? = some b := fq_l (n := 64) (show (cX12_skyPart.data.toList.drop 0).take 64 = fb_X12_skyPart_0 by decide +kernel) e h
theorem dX12_skyPart_0 : decode cX12_skyPart 0 = .ok (.aload_n 0, 1) := fq1_42 (fl_X12_skyPart_0 (j := 0) rfl rfl)
theorem dX12_skyPart_1 : decode cX12_skyPart 1 = .ok (.ldc 175, 2) := fq2_18 (fl_X12_skyPart_0 (j := 1) rfl rfl) (fl_X12_skyPart_0 (j := 2) rfl rfl) rfl
theorem dX12_skyPart_3 : decode cX12_skyPart 3 = .ok (.invokevirtual 167, 3) := fq3_182 (fl_X12_skyPart_0 (j := 3) rfl rfl) (fl_X12_skyPart_0 (j := 4) rfl rfl) (fl_X12_skyPart_0 (j := 5) rfl rfl) rfl
theorem dX12_skyPart_6 : decode cX12_skyPart 6 = .ok (.tableswitch 50 0 2 #[26, 34, 42], 26) := by decide +kernel
theorem dX12_skyPart_32 : decode cX12_skyPart 32 = .ok (.aload_n 0, 1) := fq1_42 (fl_X12_skyPart_0 (j := 32) rfl rfl)
theorem dX12_skyPart_33 : decode cX12_skyPart 33 = .ok (.invokevirtual 202, 3) := fq3_182 (fl_X12_skyPart_0 (j := 33) rfl rfl) (fl_X12_skyPart_0 (j := 34) rfl rfl) (fl_X12_skyPart_0 (j := 35) rfl rfl) rfl
theorem dX12_skyPart_36 : decode cX12_skyPart 36 = .ok (.istore_n 1, 1) := fq1_60 (fl_X12_skyPart_0 (j := 36) rfl rfl)
theorem dX12_skyPart_37 : decode cX12_skyPart 37 = .ok (.goto 25, 3) := fq3_167 (fl_X12_skyPart_0 (j := 37) rfl rfl) (fl_X12_skyPart_0 (j := 38) rfl rfl) (fl_X12_skyPart_0 (j := 39) rfl rfl) (s2p rfl (bl rfl))
theorem dX12_skyPart_40 : decode cX12_skyPart 40 = .ok (.aload_n 0, 1) := fq1_42 (fl_X12_skyPart_0 (j := 40) rfl rfl)
theorem dX12_skyPart_41 : decode cX12_skyPart 41 = .ok (.invokevirtual 206, 3) := fq3_182 (fl_X12_skyPart_0 (j := 41) rfl rfl) (fl_X12_skyPart_0 (j := 42) rfl rfl) (fl_X12_skyPart_0 (j := 43) rfl rfl) rfl
theorem dX12_skyPart_44 : decode cX12_skyPart 44 = .ok (.istore_n 1, 1) := fq1_60 (fl_X12_skyPart_0 (j := 44) rfl rfl)
theorem dX12_skyPart_45 : decode cX12_skyPart 45 = .ok (.goto 17, 3) := fq3_167 (fl_X12_skyPart_0 (j := 45) rfl rfl) (fl_X12_skyPart_0 (j := 46) rfl rfl) (fl_X12_skyPart_0 (j := 47) rfl rfl) (s2p rfl (bl rfl))
theorem dX12_skyPart_48 : decode cX12_skyPart 48 = .ok (.aload_n 0, 1) := fq1_42 (fl_X12_skyPart_0 (j := 48) rfl rfl)
theorem dX12_skyPart_49 : decode cX12_skyPart 49 = .ok (.invokevirtual 209, 3) := fq3_182 (fl_X12_skyPart_0 (j := 49) rfl rfl) (fl_X12_skyPart_0 (j := 50) rfl rfl) (fl_X12_skyPart_0 (j := 51) rfl rfl) rfl
theorem dX12_skyPart_52 : decode cX12_skyPart 52 = .ok (.istore_n 1, 1) := fq1_60 (fl_X12_skyPart_0 (j := 52) rfl rfl)
theorem dX12_skyPart_53 : decode cX12_skyPart 53 = .ok (.goto 9, 3) := fq3_167 (fl_X12_skyPart_0 (j := 53) rfl rfl) (fl_X12_skyPart_0 (j := 54) rfl rfl) (fl_X12_skyPart_0 (j := 55) rfl rfl) (s2p rfl (bl rfl))
theorem dX12_skyPart_56 : decode cX12_skyPart 56 = .ok (.aload_n 0, 1) := fq1_42 (fl_X12_skyPart_0 (j := 56) rfl rfl)
theorem dX12_skyPart_57 : decode cX12_skyPart 57 = .ok (.iconst 2, 1) := fq1_5 (fl_X12_skyPart_0 (j := 57) rfl rfl)
theorem dX12_skyPart_58 : decode cX12_skyPart 58 = .ok (.invokevirtual 164, 3) := fq3_182 (fl_X12_skyPart_0 (j := 58) rfl rfl) (fl_X12_skyPart_0 (j := 59) rfl rfl) (fl_X12_skyPart_0 (j := 60) rfl rfl) rfl
theorem dX12_skyPart_61 : decode cX12_skyPart 61 = .ok (.ireturn, 1) := fq1_172 (fl_X12_skyPart_0 (j := 61) rfl rfl)
theorem dX12_skyPart_62 : decode cX12_skyPart 62 = .ok (.iload_n 1, 1) := fq1_27 (fl_X12_skyPart_0 (j := 62) rfl rfl)
def fb_X12_skyPart_1 : List UInt8 := [0x00, 0x10, 0x2a, 0x10, 0x3b, 0xb6, 0x00, 0xd4, 0x99, 0x00, 0x07, 0x04, 0xa7, 0x00, 0x04, 0x03, 0xac]
theorem fl_X12_skyPart_1 {p j : Nat} {b : UInt8} (e : p = 64 + j) (h : fb_X12_skyPart_1[j]? = some b) : cX12_skyPart.data.toList[p]? = some b := fq_l (n := 64) (show (cX12_skyPart.data.toList.drop 64).take 64 = fb_X12_skyPart_1 by decide +kernel) e h
theorem dX12_skyPart_63 : decode cX12_skyPart 63 = .ok (.ifCond .eq 16, 3) := fq3_153 (fl_X12_skyPart_0 (j := 63) rfl rfl) (fl_X12_skyPart_1 (j := 0) rfl rfl) (fl_X12_skyPart_1 (j := 1) rfl rfl) (s2p rfl (bl rfl))
theorem dX12_skyPart_66 : decode cX12_skyPart 66 = .ok (.aload_n 0, 1) := fq1_42 (fl_X12_skyPart_1 (j := 2) rfl rfl)
theorem dX12_skyPart_67 : decode cX12_skyPart 67 = .ok (.bipush 59, 2) := fq2_16 (fl_X12_skyPart_1 (j := 3) rfl rfl) (fl_X12_skyPart_1 (j := 4) rfl rfl) (s1p rfl (bl rfl))
theorem dX12_skyPart_69 : decode cX12_skyPart 69 = .ok (.invokevirtual 212, 3) := fq3_182 (fl_X12_skyPart_1 (j := 5) rfl rfl) (fl_X12_skyPart_1 (j := 6) rfl rfl) (fl_X12_skyPart_1 (j := 7) rfl rfl) rfl
theorem dX12_skyPart_72 : decode cX12_skyPart 72 = .ok (.ifCond .eq 7, 3) := fq3_153 (fl_X12_skyPart_1 (j := 8) rfl rfl) (fl_X12_skyPart_1 (j := 9) rfl rfl) (fl_X12_skyPart_1 (j := 10) rfl rfl) (s2p rfl (bl rfl))
theorem dX12_skyPart_75 : decode cX12_skyPart 75 = .ok (.iconst 1, 1) := fq1_4 (fl_X12_skyPart_1 (j := 11) rfl rfl)
theorem dX12_skyPart_76 : decode cX12_skyPart 76 = .ok (.goto 4, 3) := fq3_167 (fl_X12_skyPart_1 (j := 12) rfl rfl) (fl_X12_skyPart_1 (j := 13) rfl rfl) (fl_X12_skyPart_1 (j := 14) rfl rfl) (s2p rfl (bl rfl))
theorem dX12_skyPart_79 : decode cX12_skyPart 79 = .ok (.iconst 0, 1) := fq1_3 (fl_X12_skyPart_1 (j := 15) rfl rfl)
theorem dX12_skyPart_80 : decode cX12_skyPart 80 = .ok (.ireturn, 1) := fq1_172 (fl_X12_skyPart_1 (j := 16) rfl rfl)
end

section
theorem qf_X12_106 : Cond.fieldLink RX12 106 "SlowWorldsModel" "taped" "I" ∈ gw := tbt (tb6 (List.mem_of_getElem? (i := 54) rfl)) rfl
theorem qf_X12_155 : Cond.fieldLink RX12 155 "SlowWorldsModel" "seen" "I" ∈ gw := tbt (tb6 (List.mem_of_getElem? (i := 63) rfl)) rfl
theorem qf_X12_30 : Cond.fieldLink RX12 30 "SlowWorldsModel" "tape" "[B" ∈ gw := tbt (tb6 (List.mem_of_getElem? (i := 52) rfl)) rfl
theorem qf_X12_37 : Cond.fieldLink RX12 37 "SlowWorldsModel" "faultKind" "I" ∈ gw := tbt (tb6 (List.mem_of_getElem? (i := 60) rfl)) rfl
theorem qc_X12_begins : Cond.code yX12_begins cX12_begins 4 (some .boolean) ∈ gw := tbt (tb6 (List.mem_of_getElem? (i := 215) rfl)) rfl
theorem qi_yX12_begins : Cond.instanceMethod yX12_begins ∈ gw := tbt (tb6 (List.mem_of_getElem? (i := 214) rfl)) rfl
theorem qs_X12_begins : Cond.selects (yX12_begins).cls yX12_begins yX12_begins ∈ gw := tb0 (List.mem_of_getElem? (i := 40) rfl) rfl
theorem ci_X12_begins : CIv yX12_begins cX12_begins 4 (some .boolean) 2 := ⟨qc_X12_begins, qi_yX12_begins, qs_X12_begins, qz_X12, by decide +kernel⟩
theorem qm_X12_215 : Cond.methodLink RX12 215 yX12_begins ∈ gw := tbt (tb6 (List.mem_of_getElem? (i := 212) rfl)) rfl
theorem qc_X12_plain : Cond.code yX12_plain cX12_plain 3 none ∈ gw := tbt (tb6 (List.mem_of_getElem? (i := 43) rfl)) rfl
theorem qi_yX12_plain : Cond.instanceMethod yX12_plain ∈ gw := tbt (tb6 (List.mem_of_getElem? (i := 42) rfl)) rfl
theorem qs_X12_plain : Cond.selects (yX12_plain).cls yX12_plain yX12_plain ∈ gw := tb0 (List.mem_of_getElem? (i := 36) rfl) rfl
theorem ci_X12_plain : CIv yX12_plain cX12_plain 3 none 1 := ⟨qc_X12_plain, qi_yX12_plain, qs_X12_plain, qz_X12, by decide +kernel⟩
theorem qm_X12_71 : Cond.methodLink RX12 71 yX12_plain ∈ gw := tbt (tb6 (List.mem_of_getElem? (i := 40) rfl)) rfl
theorem qc_X12_taken : Cond.code yX12_taken cX12_taken 2 (some .int) ∈ gw := tbt (tb7 (List.mem_of_getElem? (i := 62) rfl)) rfl
theorem qi_yX12_taken : Cond.instanceMethod yX12_taken ∈ gw := tbt (tb7 (List.mem_of_getElem? (i := 61) rfl)) rfl
theorem qs_X12_taken : Cond.selects (yX12_taken).cls yX12_taken yX12_taken ∈ gw := tb0 (List.mem_of_getElem? (i := 59) rfl) rfl
theorem ci_X12_taken : CIv yX12_taken cX12_taken 2 (some .int) 1 := ⟨qc_X12_taken, qi_yX12_taken, qs_X12_taken, qz_X12, by decide +kernel⟩
theorem qm_X12_222 : Cond.methodLink RX12 222 yX12_taken ∈ gw := tbt (tb7 (List.mem_of_getElem? (i := 59) rfl)) rfl
theorem qc_X12_skyPart : Cond.code yX12_skyPart cX12_skyPart 2 (some .boolean) ∈ gw := tbt (tb6 (List.mem_of_getElem? (i := 239) rfl)) rfl
theorem qi_yX12_skyPart : Cond.instanceMethod yX12_skyPart ∈ gw := tbt (tb6 (List.mem_of_getElem? (i := 238) rfl)) rfl
theorem qs_X12_skyPart : Cond.selects (yX12_skyPart).cls yX12_skyPart yX12_skyPart ∈ gw := tb0 (List.mem_of_getElem? (i := 44) rfl) rfl
theorem ci_X12_skyPart : CIv yX12_skyPart cX12_skyPart 2 (some .boolean) 0 := ⟨qc_X12_skyPart, qi_yX12_skyPart, qs_X12_skyPart, qz_X12, by decide +kernel⟩
theorem qm_X12_219 : Cond.methodLink RX12 219 yX12_skyPart ∈ gw := tbt (tb6 (List.mem_of_getElem? (i := 236) rfl)) rfl
def fb_X12_begins_0 : List UInt8 := [0x1b, 0x9b, 0x00, 0x10, 0x1b, 0x2a, 0xb4, 0x00, 0x6a, 0xa3, 0x00, 0x08, 0x1b, 0x1c, 0xa4, 0x00, 0x05, 0x03, 0xac, 0x2a, 0x1b, 0xb5, 0x00, 0x70, 0x03, 0x3e, 0x1d, 0x1b, 0xa2, 0x00, 0x15, 0x2a, 0xb4, 0x00, 0x22, 0x1d, 0x2a, 0xb4, 0x00, 0x1e, 0x1d, 0x33, 0x54, 0x84, 0x03, 0x01, 0xa7, 0xff, 0xec, 0x2a, 0x03, 0xb5, 0x00, 0x6a, 0x2a, 0x03, 0xb5, 0x00, 0x98, 0x2a, 0x02, 0xb5, 0x00, 0x29]
theorem fl_X12_begins_0 {p j : Nat} {b : UInt8} (e : p = 0 + j) (h : fb_X12_begins_0[j]? = some b) : cX12_begins.data.toList[p]? = some b := fq_l (n := 64) (show (cX12_begins.data.toList.drop 0).take 64 = fb_X12_begins_0 by decide +kernel) e h
theorem dX12_begins_0 : decode cX12_begins 0 = .ok (.iload_n 1, 1) := fq1_27 (fl_X12_begins_0 (j := 0) rfl rfl)
theorem dX12_begins_1 : decode cX12_begins 1 = .ok (.ifCond .lt 16, 3) := fq3_155 (fl_X12_begins_0 (j := 1) rfl rfl) (fl_X12_begins_0 (j := 2) rfl rfl) (fl_X12_begins_0 (j := 3) rfl rfl) (s2p rfl (bl rfl))
theorem dX12_begins_4 : decode cX12_begins 4 = .ok (.iload_n 1, 1) := fq1_27 (fl_X12_begins_0 (j := 4) rfl rfl)
theorem dX12_begins_5 : decode cX12_begins 5 = .ok (.aload_n 0, 1) := fq1_42 (fl_X12_begins_0 (j := 5) rfl rfl)
theorem dX12_begins_6 : decode cX12_begins 6 = .ok (.getfield 106, 3) := fq3_180 (fl_X12_begins_0 (j := 6) rfl rfl) (fl_X12_begins_0 (j := 7) rfl rfl) (fl_X12_begins_0 (j := 8) rfl rfl) rfl
theorem dX12_begins_9 : decode cX12_begins 9 = .ok (.if_icmp .gt 8, 3) := fq3_163 (fl_X12_begins_0 (j := 9) rfl rfl) (fl_X12_begins_0 (j := 10) rfl rfl) (fl_X12_begins_0 (j := 11) rfl rfl) (s2p rfl (bl rfl))
theorem dX12_begins_12 : decode cX12_begins 12 = .ok (.iload_n 1, 1) := fq1_27 (fl_X12_begins_0 (j := 12) rfl rfl)
theorem dX12_begins_13 : decode cX12_begins 13 = .ok (.iload_n 2, 1) := fq1_28 (fl_X12_begins_0 (j := 13) rfl rfl)
theorem dX12_begins_14 : decode cX12_begins 14 = .ok (.if_icmp .le 5, 3) := fq3_164 (fl_X12_begins_0 (j := 14) rfl rfl) (fl_X12_begins_0 (j := 15) rfl rfl) (fl_X12_begins_0 (j := 16) rfl rfl) (s2p rfl (bl rfl))
theorem dX12_begins_17 : decode cX12_begins 17 = .ok (.iconst 0, 1) := fq1_3 (fl_X12_begins_0 (j := 17) rfl rfl)
theorem dX12_begins_18 : decode cX12_begins 18 = .ok (.ireturn, 1) := fq1_172 (fl_X12_begins_0 (j := 18) rfl rfl)
theorem dX12_begins_19 : decode cX12_begins 19 = .ok (.aload_n 0, 1) := fq1_42 (fl_X12_begins_0 (j := 19) rfl rfl)
theorem dX12_begins_20 : decode cX12_begins 20 = .ok (.iload_n 1, 1) := fq1_27 (fl_X12_begins_0 (j := 20) rfl rfl)
theorem dX12_begins_21 : decode cX12_begins 21 = .ok (.putfield 112, 3) := fq3_181 (fl_X12_begins_0 (j := 21) rfl rfl) (fl_X12_begins_0 (j := 22) rfl rfl) (fl_X12_begins_0 (j := 23) rfl rfl) rfl
theorem dX12_begins_24 : decode cX12_begins 24 = .ok (.iconst 0, 1) := fq1_3 (fl_X12_begins_0 (j := 24) rfl rfl)
theorem dX12_begins_25 : decode cX12_begins 25 = .ok (.istore_n 3, 1) := fq1_62 (fl_X12_begins_0 (j := 25) rfl rfl)
theorem dX12_begins_26 : decode cX12_begins 26 = .ok (.iload_n 3, 1) := fq1_29 (fl_X12_begins_0 (j := 26) rfl rfl)
theorem dX12_begins_27 : decode cX12_begins 27 = .ok (.iload_n 1, 1) := fq1_27 (fl_X12_begins_0 (j := 27) rfl rfl)
theorem dX12_begins_28 : decode cX12_begins 28 = .ok (.if_icmp .ge 21, 3) := fq3_162 (fl_X12_begins_0 (j := 28) rfl rfl) (fl_X12_begins_0 (j := 29) rfl rfl) (fl_X12_begins_0 (j := 30) rfl rfl) (s2p rfl (bl rfl))
theorem dX12_begins_31 : decode cX12_begins 31 = .ok (.aload_n 0, 1) := fq1_42 (fl_X12_begins_0 (j := 31) rfl rfl)
theorem dX12_begins_32 : decode cX12_begins 32 = .ok (.getfield 34, 3) := fq3_180 (fl_X12_begins_0 (j := 32) rfl rfl) (fl_X12_begins_0 (j := 33) rfl rfl) (fl_X12_begins_0 (j := 34) rfl rfl) rfl
theorem dX12_begins_35 : decode cX12_begins 35 = .ok (.iload_n 3, 1) := fq1_29 (fl_X12_begins_0 (j := 35) rfl rfl)
theorem dX12_begins_36 : decode cX12_begins 36 = .ok (.aload_n 0, 1) := fq1_42 (fl_X12_begins_0 (j := 36) rfl rfl)
theorem dX12_begins_37 : decode cX12_begins 37 = .ok (.getfield 30, 3) := fq3_180 (fl_X12_begins_0 (j := 37) rfl rfl) (fl_X12_begins_0 (j := 38) rfl rfl) (fl_X12_begins_0 (j := 39) rfl rfl) rfl
theorem dX12_begins_40 : decode cX12_begins 40 = .ok (.iload_n 3, 1) := fq1_29 (fl_X12_begins_0 (j := 40) rfl rfl)
theorem dX12_begins_41 : decode cX12_begins 41 = .ok (.baload, 1) := fq1_51 (fl_X12_begins_0 (j := 41) rfl rfl)
theorem dX12_begins_42 : decode cX12_begins 42 = .ok (.bastore, 1) := fq1_84 (fl_X12_begins_0 (j := 42) rfl rfl)
theorem dX12_begins_43 : decode cX12_begins 43 = .ok (.iinc 3 1, 3) := fq3_132 (fl_X12_begins_0 (j := 43) rfl rfl) (fl_X12_begins_0 (j := 44) rfl rfl) (fl_X12_begins_0 (j := 45) rfl rfl) rfl (s1p rfl (bl rfl))
theorem dX12_begins_46 : decode cX12_begins 46 = .ok (.goto (-20), 3) := fq3_167 (fl_X12_begins_0 (j := 46) rfl rfl) (fl_X12_begins_0 (j := 47) rfl rfl) (fl_X12_begins_0 (j := 48) rfl rfl) (by decide)
theorem dX12_begins_49 : decode cX12_begins 49 = .ok (.aload_n 0, 1) := fq1_42 (fl_X12_begins_0 (j := 49) rfl rfl)
theorem dX12_begins_50 : decode cX12_begins 50 = .ok (.iconst 0, 1) := fq1_3 (fl_X12_begins_0 (j := 50) rfl rfl)
theorem dX12_begins_51 : decode cX12_begins 51 = .ok (.putfield 106, 3) := fq3_181 (fl_X12_begins_0 (j := 51) rfl rfl) (fl_X12_begins_0 (j := 52) rfl rfl) (fl_X12_begins_0 (j := 53) rfl rfl) rfl
theorem dX12_begins_54 : decode cX12_begins 54 = .ok (.aload_n 0, 1) := fq1_42 (fl_X12_begins_0 (j := 54) rfl rfl)
theorem dX12_begins_55 : decode cX12_begins 55 = .ok (.iconst 0, 1) := fq1_3 (fl_X12_begins_0 (j := 55) rfl rfl)
theorem dX12_begins_56 : decode cX12_begins 56 = .ok (.putfield 152, 3) := fq3_181 (fl_X12_begins_0 (j := 56) rfl rfl) (fl_X12_begins_0 (j := 57) rfl rfl) (fl_X12_begins_0 (j := 58) rfl rfl) rfl
theorem dX12_begins_59 : decode cX12_begins 59 = .ok (.aload_n 0, 1) := fq1_42 (fl_X12_begins_0 (j := 59) rfl rfl)
theorem dX12_begins_60 : decode cX12_begins 60 = .ok (.iconst (-1), 1) := fq1_2 (fl_X12_begins_0 (j := 60) rfl rfl)
theorem dX12_begins_61 : decode cX12_begins 61 = .ok (.putfield 41, 3) := fq3_181 (fl_X12_begins_0 (j := 61) rfl rfl) (fl_X12_begins_0 (j := 62) rfl rfl) (fl_X12_begins_0 (j := 63) rfl rfl) rfl
def fb_X12_begins_1 : List UInt8 := [0x2a, 0x03, 0xb5, 0x00, 0x73, 0x2a, 0x03, 0xb5, 0x00, 0x9b, 0x2a, 0xb6, 0x00, 0x9e, 0x04, 0xac]
theorem fl_X12_begins_1 {p j : Nat} {b : UInt8} (e : p = 64 + j) (h : fb_X12_begins_1[j]? = some b) : cX12_begins.data.toList[p]? = some b := fq_l (n := 64) (show (cX12_begins.data.toList.drop 64).take 64 = fb_X12_begins_1 by decide +kernel) e h
theorem dX12_begins_64 : decode cX12_begins 64 = .ok (.aload_n 0, 1) := fq1_42 (fl_X12_begins_1 (j := 0) rfl rfl)
theorem dX12_begins_65 : decode cX12_begins 65 = .ok (.iconst 0, 1) := fq1_3 (fl_X12_begins_1 (j := 1) rfl rfl)
theorem dX12_begins_66 : decode cX12_begins 66 = .ok (.putfield 115, 3) := fq3_181 (fl_X12_begins_1 (j := 2) rfl rfl) (fl_X12_begins_1 (j := 3) rfl rfl) (fl_X12_begins_1 (j := 4) rfl rfl) rfl
theorem dX12_begins_69 : decode cX12_begins 69 = .ok (.aload_n 0, 1) := fq1_42 (fl_X12_begins_1 (j := 5) rfl rfl)
theorem dX12_begins_70 : decode cX12_begins 70 = .ok (.iconst 0, 1) := fq1_3 (fl_X12_begins_1 (j := 6) rfl rfl)
theorem dX12_begins_71 : decode cX12_begins 71 = .ok (.putfield 155, 3) := fq3_181 (fl_X12_begins_1 (j := 7) rfl rfl) (fl_X12_begins_1 (j := 8) rfl rfl) (fl_X12_begins_1 (j := 9) rfl rfl) rfl
theorem dX12_begins_74 : decode cX12_begins 74 = .ok (.aload_n 0, 1) := fq1_42 (fl_X12_begins_1 (j := 10) rfl rfl)
theorem dX12_begins_75 : decode cX12_begins 75 = .ok (.invokevirtual 158, 3) := fq3_182 (fl_X12_begins_1 (j := 11) rfl rfl) (fl_X12_begins_1 (j := 12) rfl rfl) (fl_X12_begins_1 (j := 13) rfl rfl) rfl
theorem dX12_begins_78 : decode cX12_begins 78 = .ok (.iconst 1, 1) := fq1_4 (fl_X12_begins_1 (j := 14) rfl rfl)
theorem dX12_begins_79 : decode cX12_begins 79 = .ok (.ireturn, 1) := fq1_172 (fl_X12_begins_1 (j := 15) rfl rfl)
def fb_X12_sky_0 : List UInt8 := [0x2a, 0x1b, 0x11, 0x03, 0x84, 0xb6, 0x00, 0xd7, 0x9a, 0x00, 0x09, 0x2a, 0x04, 0xb6, 0x00, 0x51, 0xac, 0x2a, 0x11, 0x0d, 0xe8, 0xb6, 0x00, 0x47, 0x2a, 0x03, 0xb5, 0x00, 0xc6, 0x04, 0x3d, 0x1c, 0x99, 0x00, 0x12, 0x2a, 0xb4, 0x00, 0x7f, 0x99, 0x00, 0x0b, 0x2a, 0xb6, 0x00, 0xdb, 0x3d, 0xa7, 0xff, 0xf0, 0x2a, 0xb4, 0x00, 0x98, 0x9a, 0x00, 0x3f, 0x03, 0x3e, 0x1d, 0x11, 0x03, 0x7a, 0xa2]
theorem fl_X12_sky_0 {p j : Nat} {b : UInt8} (e : p = 0 + j) (h : fb_X12_sky_0[j]? = some b) : cX12_sky.data.toList[p]? = some b := fq_l (n := 64) (show (cX12_sky.data.toList.drop 0).take 64 = fb_X12_sky_0 by decide +kernel) e h
theorem dX12_sky_0 : decode cX12_sky 0 = .ok (.aload_n 0, 1) := fq1_42 (fl_X12_sky_0 (j := 0) rfl rfl)
theorem dX12_sky_1 : decode cX12_sky 1 = .ok (.iload_n 1, 1) := fq1_27 (fl_X12_sky_0 (j := 1) rfl rfl)
theorem dX12_sky_2 : decode cX12_sky 2 = .ok (.sipush 900, 3) := fq3_17 (fl_X12_sky_0 (j := 2) rfl rfl) (fl_X12_sky_0 (j := 3) rfl rfl) (fl_X12_sky_0 (j := 4) rfl rfl) (s2p rfl (bl rfl))
theorem dX12_sky_5 : decode cX12_sky 5 = .ok (.invokevirtual 215, 3) := fq3_182 (fl_X12_sky_0 (j := 5) rfl rfl) (fl_X12_sky_0 (j := 6) rfl rfl) (fl_X12_sky_0 (j := 7) rfl rfl) rfl
theorem dX12_sky_8 : decode cX12_sky 8 = .ok (.ifCond .ne 9, 3) := fq3_154 (fl_X12_sky_0 (j := 8) rfl rfl) (fl_X12_sky_0 (j := 9) rfl rfl) (fl_X12_sky_0 (j := 10) rfl rfl) (s2p rfl (bl rfl))
theorem dX12_sky_11 : decode cX12_sky 11 = .ok (.aload_n 0, 1) := fq1_42 (fl_X12_sky_0 (j := 11) rfl rfl)
theorem dX12_sky_12 : decode cX12_sky 12 = .ok (.iconst 1, 1) := fq1_4 (fl_X12_sky_0 (j := 12) rfl rfl)
theorem dX12_sky_13 : decode cX12_sky 13 = .ok (.invokevirtual 81, 3) := fq3_182 (fl_X12_sky_0 (j := 13) rfl rfl) (fl_X12_sky_0 (j := 14) rfl rfl) (fl_X12_sky_0 (j := 15) rfl rfl) rfl
theorem dX12_sky_16 : decode cX12_sky 16 = .ok (.ireturn, 1) := fq1_172 (fl_X12_sky_0 (j := 16) rfl rfl)
theorem dX12_sky_17 : decode cX12_sky 17 = .ok (.aload_n 0, 1) := fq1_42 (fl_X12_sky_0 (j := 17) rfl rfl)
theorem dX12_sky_18 : decode cX12_sky 18 = .ok (.sipush 3560, 3) := fq3_17 (fl_X12_sky_0 (j := 18) rfl rfl) (fl_X12_sky_0 (j := 19) rfl rfl) (fl_X12_sky_0 (j := 20) rfl rfl) (s2p rfl (bl rfl))
theorem dX12_sky_21 : decode cX12_sky 21 = .ok (.invokevirtual 71, 3) := fq3_182 (fl_X12_sky_0 (j := 21) rfl rfl) (fl_X12_sky_0 (j := 22) rfl rfl) (fl_X12_sky_0 (j := 23) rfl rfl) rfl
theorem dX12_sky_24 : decode cX12_sky 24 = .ok (.aload_n 0, 1) := fq1_42 (fl_X12_sky_0 (j := 24) rfl rfl)
theorem dX12_sky_25 : decode cX12_sky 25 = .ok (.iconst 0, 1) := fq1_3 (fl_X12_sky_0 (j := 25) rfl rfl)
theorem dX12_sky_26 : decode cX12_sky 26 = .ok (.putfield 198, 3) := fq3_181 (fl_X12_sky_0 (j := 26) rfl rfl) (fl_X12_sky_0 (j := 27) rfl rfl) (fl_X12_sky_0 (j := 28) rfl rfl) rfl
theorem dX12_sky_29 : decode cX12_sky 29 = .ok (.iconst 1, 1) := fq1_4 (fl_X12_sky_0 (j := 29) rfl rfl)
theorem dX12_sky_30 : decode cX12_sky 30 = .ok (.istore_n 2, 1) := fq1_61 (fl_X12_sky_0 (j := 30) rfl rfl)
theorem dX12_sky_31 : decode cX12_sky 31 = .ok (.iload_n 2, 1) := fq1_28 (fl_X12_sky_0 (j := 31) rfl rfl)
theorem dX12_sky_32 : decode cX12_sky 32 = .ok (.ifCond .eq 18, 3) := fq3_153 (fl_X12_sky_0 (j := 32) rfl rfl) (fl_X12_sky_0 (j := 33) rfl rfl) (fl_X12_sky_0 (j := 34) rfl rfl) (s2p rfl (bl rfl))
theorem dX12_sky_35 : decode cX12_sky 35 = .ok (.aload_n 0, 1) := fq1_42 (fl_X12_sky_0 (j := 35) rfl rfl)
theorem dX12_sky_36 : decode cX12_sky 36 = .ok (.getfield 127, 3) := fq3_180 (fl_X12_sky_0 (j := 36) rfl rfl) (fl_X12_sky_0 (j := 37) rfl rfl) (fl_X12_sky_0 (j := 38) rfl rfl) rfl
theorem dX12_sky_39 : decode cX12_sky 39 = .ok (.ifCond .eq 11, 3) := fq3_153 (fl_X12_sky_0 (j := 39) rfl rfl) (fl_X12_sky_0 (j := 40) rfl rfl) (fl_X12_sky_0 (j := 41) rfl rfl) (s2p rfl (bl rfl))
theorem dX12_sky_42 : decode cX12_sky 42 = .ok (.aload_n 0, 1) := fq1_42 (fl_X12_sky_0 (j := 42) rfl rfl)
theorem dX12_sky_43 : decode cX12_sky 43 = .ok (.invokevirtual 219, 3) := fq3_182 (fl_X12_sky_0 (j := 43) rfl rfl) (fl_X12_sky_0 (j := 44) rfl rfl) (fl_X12_sky_0 (j := 45) rfl rfl) rfl
theorem dX12_sky_46 : decode cX12_sky 46 = .ok (.istore_n 2, 1) := fq1_61 (fl_X12_sky_0 (j := 46) rfl rfl)
theorem dX12_sky_47 : decode cX12_sky 47 = .ok (.goto (-16), 3) := fq3_167 (fl_X12_sky_0 (j := 47) rfl rfl) (fl_X12_sky_0 (j := 48) rfl rfl) (fl_X12_sky_0 (j := 49) rfl rfl) (by decide)
theorem dX12_sky_50 : decode cX12_sky 50 = .ok (.aload_n 0, 1) := fq1_42 (fl_X12_sky_0 (j := 50) rfl rfl)
theorem dX12_sky_51 : decode cX12_sky 51 = .ok (.getfield 152, 3) := fq3_180 (fl_X12_sky_0 (j := 51) rfl rfl) (fl_X12_sky_0 (j := 52) rfl rfl) (fl_X12_sky_0 (j := 53) rfl rfl) rfl
theorem dX12_sky_54 : decode cX12_sky 54 = .ok (.ifCond .ne 63, 3) := fq3_154 (fl_X12_sky_0 (j := 54) rfl rfl) (fl_X12_sky_0 (j := 55) rfl rfl) (fl_X12_sky_0 (j := 56) rfl rfl) (s2p rfl (bl rfl))
theorem dX12_sky_57 : decode cX12_sky 57 = .ok (.iconst 0, 1) := fq1_3 (fl_X12_sky_0 (j := 57) rfl rfl)
theorem dX12_sky_58 : decode cX12_sky 58 = .ok (.istore_n 3, 1) := fq1_62 (fl_X12_sky_0 (j := 58) rfl rfl)
theorem dX12_sky_59 : decode cX12_sky 59 = .ok (.iload_n 3, 1) := fq1_29 (fl_X12_sky_0 (j := 59) rfl rfl)
theorem dX12_sky_60 : decode cX12_sky 60 = .ok (.sipush 890, 3) := fq3_17 (fl_X12_sky_0 (j := 60) rfl rfl) (fl_X12_sky_0 (j := 61) rfl rfl) (fl_X12_sky_0 (j := 62) rfl rfl) (s2p rfl (bl rfl))
def fb_X12_sky_1 : List UInt8 := [0x00, 0x19, 0x2a, 0xb4, 0x00, 0x07, 0x1d, 0x2a, 0xb4, 0x00, 0x07, 0x11, 0x0d, 0xe8, 0x1d, 0x60, 0x2e, 0x4f, 0x84, 0x03, 0x01, 0xa7, 0xff, 0xe6, 0x03, 0x3e, 0x1d, 0x10, 0x06, 0xa2, 0x00, 0x18, 0x2a, 0xb4, 0x00, 0x0d, 0x1d, 0x2a, 0xb4, 0x00, 0x0d, 0x10, 0x18, 0x1d, 0x60, 0x2f, 0x50, 0x84, 0x03, 0x01, 0xa7, 0xff, 0xe8, 0x2a, 0x2a, 0xb4, 0x00, 0x07, 0x03, 0x2e, 0xb6, 0x00, 0xde, 0xac]
theorem fl_X12_sky_1 {p j : Nat} {b : UInt8} (e : p = 64 + j) (h : fb_X12_sky_1[j]? = some b) : cX12_sky.data.toList[p]? = some b := fq_l (n := 64) (show (cX12_sky.data.toList.drop 64).take 64 = fb_X12_sky_1 by decide +kernel) e h
theorem dX12_sky_63 : decode cX12_sky 63 = .ok (.if_icmp .ge 25, 3) := fq3_162 (fl_X12_sky_0 (j := 63) rfl rfl) (fl_X12_sky_1 (j := 0) rfl rfl) (fl_X12_sky_1 (j := 1) rfl rfl) (s2p rfl (bl rfl))
theorem dX12_sky_66 : decode cX12_sky 66 = .ok (.aload_n 0, 1) := fq1_42 (fl_X12_sky_1 (j := 2) rfl rfl)
theorem dX12_sky_67 : decode cX12_sky 67 = .ok (.getfield 7, 3) := fq3_180 (fl_X12_sky_1 (j := 3) rfl rfl) (fl_X12_sky_1 (j := 4) rfl rfl) (fl_X12_sky_1 (j := 5) rfl rfl) rfl
theorem dX12_sky_70 : decode cX12_sky 70 = .ok (.iload_n 3, 1) := fq1_29 (fl_X12_sky_1 (j := 6) rfl rfl)
theorem dX12_sky_71 : decode cX12_sky 71 = .ok (.aload_n 0, 1) := fq1_42 (fl_X12_sky_1 (j := 7) rfl rfl)
theorem dX12_sky_72 : decode cX12_sky 72 = .ok (.getfield 7, 3) := fq3_180 (fl_X12_sky_1 (j := 8) rfl rfl) (fl_X12_sky_1 (j := 9) rfl rfl) (fl_X12_sky_1 (j := 10) rfl rfl) rfl
theorem dX12_sky_75 : decode cX12_sky 75 = .ok (.sipush 3560, 3) := fq3_17 (fl_X12_sky_1 (j := 11) rfl rfl) (fl_X12_sky_1 (j := 12) rfl rfl) (fl_X12_sky_1 (j := 13) rfl rfl) (s2p rfl (bl rfl))
theorem dX12_sky_78 : decode cX12_sky 78 = .ok (.iload_n 3, 1) := fq1_29 (fl_X12_sky_1 (j := 14) rfl rfl)
theorem dX12_sky_79 : decode cX12_sky 79 = .ok (.iadd, 1) := fq1_96 (fl_X12_sky_1 (j := 15) rfl rfl)
theorem dX12_sky_80 : decode cX12_sky 80 = .ok (.iaload, 1) := fq1_46 (fl_X12_sky_1 (j := 16) rfl rfl)
theorem dX12_sky_81 : decode cX12_sky 81 = .ok (.iastore, 1) := fq1_79 (fl_X12_sky_1 (j := 17) rfl rfl)
theorem dX12_sky_82 : decode cX12_sky 82 = .ok (.iinc 3 1, 3) := fq3_132 (fl_X12_sky_1 (j := 18) rfl rfl) (fl_X12_sky_1 (j := 19) rfl rfl) (fl_X12_sky_1 (j := 20) rfl rfl) rfl (s1p rfl (bl rfl))
theorem dX12_sky_85 : decode cX12_sky 85 = .ok (.goto (-26), 3) := fq3_167 (fl_X12_sky_1 (j := 21) rfl rfl) (fl_X12_sky_1 (j := 22) rfl rfl) (fl_X12_sky_1 (j := 23) rfl rfl) (by decide)
theorem dX12_sky_88 : decode cX12_sky 88 = .ok (.iconst 0, 1) := fq1_3 (fl_X12_sky_1 (j := 24) rfl rfl)
theorem dX12_sky_89 : decode cX12_sky 89 = .ok (.istore_n 3, 1) := fq1_62 (fl_X12_sky_1 (j := 25) rfl rfl)
theorem dX12_sky_90 : decode cX12_sky 90 = .ok (.iload_n 3, 1) := fq1_29 (fl_X12_sky_1 (j := 26) rfl rfl)
theorem dX12_sky_91 : decode cX12_sky 91 = .ok (.bipush 6, 2) := fq2_16 (fl_X12_sky_1 (j := 27) rfl rfl) (fl_X12_sky_1 (j := 28) rfl rfl) (s1p rfl (bl rfl))
theorem dX12_sky_93 : decode cX12_sky 93 = .ok (.if_icmp .ge 24, 3) := fq3_162 (fl_X12_sky_1 (j := 29) rfl rfl) (fl_X12_sky_1 (j := 30) rfl rfl) (fl_X12_sky_1 (j := 31) rfl rfl) (s2p rfl (bl rfl))
theorem dX12_sky_96 : decode cX12_sky 96 = .ok (.aload_n 0, 1) := fq1_42 (fl_X12_sky_1 (j := 32) rfl rfl)
theorem dX12_sky_97 : decode cX12_sky 97 = .ok (.getfield 13, 3) := fq3_180 (fl_X12_sky_1 (j := 33) rfl rfl) (fl_X12_sky_1 (j := 34) rfl rfl) (fl_X12_sky_1 (j := 35) rfl rfl) rfl
theorem dX12_sky_100 : decode cX12_sky 100 = .ok (.iload_n 3, 1) := fq1_29 (fl_X12_sky_1 (j := 36) rfl rfl)
theorem dX12_sky_101 : decode cX12_sky 101 = .ok (.aload_n 0, 1) := fq1_42 (fl_X12_sky_1 (j := 37) rfl rfl)
theorem dX12_sky_102 : decode cX12_sky 102 = .ok (.getfield 13, 3) := fq3_180 (fl_X12_sky_1 (j := 38) rfl rfl) (fl_X12_sky_1 (j := 39) rfl rfl) (fl_X12_sky_1 (j := 40) rfl rfl) rfl
theorem dX12_sky_105 : decode cX12_sky 105 = .ok (.bipush 24, 2) := fq2_16 (fl_X12_sky_1 (j := 41) rfl rfl) (fl_X12_sky_1 (j := 42) rfl rfl) (s1p rfl (bl rfl))
theorem dX12_sky_107 : decode cX12_sky 107 = .ok (.iload_n 3, 1) := fq1_29 (fl_X12_sky_1 (j := 43) rfl rfl)
theorem dX12_sky_108 : decode cX12_sky 108 = .ok (.iadd, 1) := fq1_96 (fl_X12_sky_1 (j := 44) rfl rfl)
theorem dX12_sky_109 : decode cX12_sky 109 = .ok (.laload, 1) := fq1_47 (fl_X12_sky_1 (j := 45) rfl rfl)
theorem dX12_sky_110 : decode cX12_sky 110 = .ok (.lastore, 1) := fq1_80 (fl_X12_sky_1 (j := 46) rfl rfl)
theorem dX12_sky_111 : decode cX12_sky 111 = .ok (.iinc 3 1, 3) := fq3_132 (fl_X12_sky_1 (j := 47) rfl rfl) (fl_X12_sky_1 (j := 48) rfl rfl) (fl_X12_sky_1 (j := 49) rfl rfl) rfl (s1p rfl (bl rfl))
theorem dX12_sky_114 : decode cX12_sky 114 = .ok (.goto (-24), 3) := fq3_167 (fl_X12_sky_1 (j := 50) rfl rfl) (fl_X12_sky_1 (j := 51) rfl rfl) (fl_X12_sky_1 (j := 52) rfl rfl) (by decide)
theorem dX12_sky_117 : decode cX12_sky 117 = .ok (.aload_n 0, 1) := fq1_42 (fl_X12_sky_1 (j := 53) rfl rfl)
theorem dX12_sky_118 : decode cX12_sky 118 = .ok (.aload_n 0, 1) := fq1_42 (fl_X12_sky_1 (j := 54) rfl rfl)
theorem dX12_sky_119 : decode cX12_sky 119 = .ok (.getfield 7, 3) := fq3_180 (fl_X12_sky_1 (j := 55) rfl rfl) (fl_X12_sky_1 (j := 56) rfl rfl) (fl_X12_sky_1 (j := 57) rfl rfl) rfl
theorem dX12_sky_122 : decode cX12_sky 122 = .ok (.iconst 0, 1) := fq1_3 (fl_X12_sky_1 (j := 58) rfl rfl)
theorem dX12_sky_123 : decode cX12_sky 123 = .ok (.iaload, 1) := fq1_46 (fl_X12_sky_1 (j := 59) rfl rfl)
theorem dX12_sky_124 : decode cX12_sky 124 = .ok (.invokevirtual 222, 3) := fq3_182 (fl_X12_sky_1 (j := 60) rfl rfl) (fl_X12_sky_1 (j := 61) rfl rfl) (fl_X12_sky_1 (j := 62) rfl rfl) rfl
theorem dX12_sky_127 : decode cX12_sky 127 = .ok (.ireturn, 1) := fq1_172 (fl_X12_sky_1 (j := 63) rfl rfl)
def fb_X12_taken_0 : List UInt8 := [0x2a, 0x2a, 0xb4, 0x00, 0x98, 0xb5, 0x00, 0x25, 0x2a, 0xb4, 0x00, 0x98, 0x9e, 0x00, 0x0c, 0x2a, 0x10, 0x09, 0xb6, 0x00, 0x51, 0xa7, 0x00, 0x08, 0x2a, 0x1b, 0xb6, 0x00, 0x55, 0xac]
theorem fl_X12_taken_0 {p j : Nat} {b : UInt8} (e : p = 0 + j) (h : fb_X12_taken_0[j]? = some b) : cX12_taken.data.toList[p]? = some b := fq_l (n := 64) (show (cX12_taken.data.toList.drop 0).take 64 = fb_X12_taken_0 by decide +kernel) e h
theorem dX12_taken_0 : decode cX12_taken 0 = .ok (.aload_n 0, 1) := fq1_42 (fl_X12_taken_0 (j := 0) rfl rfl)
theorem dX12_taken_1 : decode cX12_taken 1 = .ok (.aload_n 0, 1) := fq1_42 (fl_X12_taken_0 (j := 1) rfl rfl)
theorem dX12_taken_2 : decode cX12_taken 2 = .ok (.getfield 152, 3) := fq3_180 (fl_X12_taken_0 (j := 2) rfl rfl) (fl_X12_taken_0 (j := 3) rfl rfl) (fl_X12_taken_0 (j := 4) rfl rfl) rfl
theorem dX12_taken_5 : decode cX12_taken 5 = .ok (.putfield 37, 3) := fq3_181 (fl_X12_taken_0 (j := 5) rfl rfl) (fl_X12_taken_0 (j := 6) rfl rfl) (fl_X12_taken_0 (j := 7) rfl rfl) rfl
theorem dX12_taken_8 : decode cX12_taken 8 = .ok (.aload_n 0, 1) := fq1_42 (fl_X12_taken_0 (j := 8) rfl rfl)
theorem dX12_taken_9 : decode cX12_taken 9 = .ok (.getfield 152, 3) := fq3_180 (fl_X12_taken_0 (j := 9) rfl rfl) (fl_X12_taken_0 (j := 10) rfl rfl) (fl_X12_taken_0 (j := 11) rfl rfl) rfl
theorem dX12_taken_12 : decode cX12_taken 12 = .ok (.ifCond .le 12, 3) := fq3_158 (fl_X12_taken_0 (j := 12) rfl rfl) (fl_X12_taken_0 (j := 13) rfl rfl) (fl_X12_taken_0 (j := 14) rfl rfl) (s2p rfl (bl rfl))
theorem dX12_taken_15 : decode cX12_taken 15 = .ok (.aload_n 0, 1) := fq1_42 (fl_X12_taken_0 (j := 15) rfl rfl)
theorem dX12_taken_16 : decode cX12_taken 16 = .ok (.bipush 9, 2) := fq2_16 (fl_X12_taken_0 (j := 16) rfl rfl) (fl_X12_taken_0 (j := 17) rfl rfl) (s1p rfl (bl rfl))
theorem dX12_taken_18 : decode cX12_taken 18 = .ok (.invokevirtual 81, 3) := fq3_182 (fl_X12_taken_0 (j := 18) rfl rfl) (fl_X12_taken_0 (j := 19) rfl rfl) (fl_X12_taken_0 (j := 20) rfl rfl) rfl
theorem dX12_taken_21 : decode cX12_taken 21 = .ok (.goto 8, 3) := fq3_167 (fl_X12_taken_0 (j := 21) rfl rfl) (fl_X12_taken_0 (j := 22) rfl rfl) (fl_X12_taken_0 (j := 23) rfl rfl) (s2p rfl (bl rfl))
theorem dX12_taken_24 : decode cX12_taken 24 = .ok (.aload_n 0, 1) := fq1_42 (fl_X12_taken_0 (j := 24) rfl rfl)
theorem dX12_taken_25 : decode cX12_taken 25 = .ok (.iload_n 1, 1) := fq1_27 (fl_X12_taken_0 (j := 25) rfl rfl)
theorem dX12_taken_26 : decode cX12_taken 26 = .ok (.invokevirtual 85, 3) := fq3_182 (fl_X12_taken_0 (j := 26) rfl rfl) (fl_X12_taken_0 (j := 27) rfl rfl) (fl_X12_taken_0 (j := 28) rfl rfl) rfl
theorem dX12_taken_29 : decode cX12_taken 29 = .ok (.ireturn, 1) := fq1_172 (fl_X12_taken_0 (j := 29) rfl rfl)
end

section
theorem qc_X12_rockTo : Cond.code yX12_rockTo cX12_rockTo 2 (some .boolean) ∈ gw := tbt (tb7 (List.mem_of_getElem? (i := 82) rfl)) rfl
theorem qi_yX12_rockTo : Cond.instanceMethod yX12_rockTo ∈ gw := tbt (tb7 (List.mem_of_getElem? (i := 81) rfl)) rfl
theorem qs_X12_rockTo : Cond.selects (yX12_rockTo).cls yX12_rockTo yX12_rockTo ∈ gw := tb0 (List.mem_of_getElem? (i := 63) rfl) rfl
theorem ci_X12_rockTo : CIv yX12_rockTo cX12_rockTo 2 (some .boolean) 1 := ⟨qc_X12_rockTo, qi_yX12_rockTo, qs_X12_rockTo, qz_X12, by decide +kernel⟩
theorem qm_X12_225 : Cond.methodLink RX12 225 yX12_rockTo ∈ gw := tbt (tb7 (List.mem_of_getElem? (i := 79) rfl)) rfl
theorem qc_X12_test : Cond.code yX12_test cX12_test 3 (some .boolean) ∈ gw := tbt (tb7 (List.mem_of_getElem? (i := 86) rfl)) rfl
theorem qi_yX12_test : Cond.instanceMethod yX12_test ∈ gw := tbt (tb7 (List.mem_of_getElem? (i := 85) rfl)) rfl
theorem qs_X12_test : Cond.selects (yX12_test).cls yX12_test yX12_test ∈ gw := tb0 (List.mem_of_getElem? (i := 64) rfl) rfl
theorem ci_X12_test : CIv yX12_test cX12_test 3 (some .boolean) 1 := ⟨qc_X12_test, qi_yX12_test, qs_X12_test, qz_X12, by decide +kernel⟩
theorem qm_X12_228 : Cond.methodLink RX12 228 yX12_test ∈ gw := tbt (tb7 (List.mem_of_getElem? (i := 83) rfl)) rfl
def fb_X12_rockTo_0 : List UInt8 := [0x2a, 0x03, 0x2a, 0xb4, 0x00, 0x07, 0x03, 0x2e, 0x1b, 0xb6, 0x00, 0xc3, 0xac]
theorem fl_X12_rockTo_0 {p j : Nat} {b : UInt8} (e : p = 0 + j) (h : fb_X12_rockTo_0[j]? = some b) : cX12_rockTo.data.toList[p]? = some b := fq_l (n := 64) (show (cX12_rockTo.data.toList.drop 0).take 64 = fb_X12_rockTo_0 by decide +kernel) e h
theorem dX12_rockTo_0 : decode cX12_rockTo 0 = .ok (.aload_n 0, 1) := fq1_42 (fl_X12_rockTo_0 (j := 0) rfl rfl)
theorem dX12_rockTo_1 : decode cX12_rockTo 1 = .ok (.iconst 0, 1) := fq1_3 (fl_X12_rockTo_0 (j := 1) rfl rfl)
theorem dX12_rockTo_2 : decode cX12_rockTo 2 = .ok (.aload_n 0, 1) := fq1_42 (fl_X12_rockTo_0 (j := 2) rfl rfl)
theorem dX12_rockTo_3 : decode cX12_rockTo 3 = .ok (.getfield 7, 3) := fq3_180 (fl_X12_rockTo_0 (j := 3) rfl rfl) (fl_X12_rockTo_0 (j := 4) rfl rfl) (fl_X12_rockTo_0 (j := 5) rfl rfl) rfl
theorem dX12_rockTo_6 : decode cX12_rockTo 6 = .ok (.iconst 0, 1) := fq1_3 (fl_X12_rockTo_0 (j := 6) rfl rfl)
theorem dX12_rockTo_7 : decode cX12_rockTo 7 = .ok (.iaload, 1) := fq1_46 (fl_X12_rockTo_0 (j := 7) rfl rfl)
theorem dX12_rockTo_8 : decode cX12_rockTo 8 = .ok (.iload_n 1, 1) := fq1_27 (fl_X12_rockTo_0 (j := 8) rfl rfl)
theorem dX12_rockTo_9 : decode cX12_rockTo 9 = .ok (.invokevirtual 195, 3) := fq3_182 (fl_X12_rockTo_0 (j := 9) rfl rfl) (fl_X12_rockTo_0 (j := 10) rfl rfl) (fl_X12_rockTo_0 (j := 11) rfl rfl) rfl
theorem dX12_rockTo_12 : decode cX12_rockTo 12 = .ok (.ireturn, 1) := fq1_172 (fl_X12_rockTo_0 (j := 12) rfl rfl)
def fb_X12_test_0 : List UInt8 := [0x2a, 0x12, 0xaf, 0xb6, 0x00, 0xa7, 0x3d, 0x1c, 0x10, 0x0f, 0x9f, 0x00, 0x15, 0x1c, 0x10, 0x09, 0x9f, 0x00, 0x0f, 0x1c, 0x10, 0x17, 0x9f, 0x00, 0x09, 0x2a, 0x05, 0xb6, 0x00, 0xa4, 0xac, 0x2a, 0xb4, 0x00, 0x07, 0x1b, 0x11, 0x07, 0x6c, 0x1c, 0x60, 0x4f, 0x2a, 0xb6, 0x00, 0x9e, 0x1c, 0x10, 0x09, 0xa0, 0x00, 0x0b, 0x2a, 0x1b, 0x04, 0x60, 0xb6, 0x00, 0xe1, 0xac, 0x1c, 0x10, 0x17, 0xa0]
theorem fl_X12_test_0 {p j : Nat} {b : UInt8} (e : p = 0 + j) (h : fb_X12_test_0[j]? = some b) : cX12_test.data.toList[p]? = some b := fq_l (n := 64) (show (cX12_test.data.toList.drop 0).take 64 = fb_X12_test_0 by decide +kernel) e h
theorem dX12_test_0 : decode cX12_test 0 = .ok (.aload_n 0, 1) := fq1_42 (fl_X12_test_0 (j := 0) rfl rfl)
theorem dX12_test_1 : decode cX12_test 1 = .ok (.ldc 175, 2) := fq2_18 (fl_X12_test_0 (j := 1) rfl rfl) (fl_X12_test_0 (j := 2) rfl rfl) rfl
theorem dX12_test_3 : decode cX12_test 3 = .ok (.invokevirtual 167, 3) := fq3_182 (fl_X12_test_0 (j := 3) rfl rfl) (fl_X12_test_0 (j := 4) rfl rfl) (fl_X12_test_0 (j := 5) rfl rfl) rfl
theorem dX12_test_6 : decode cX12_test 6 = .ok (.istore_n 2, 1) := fq1_61 (fl_X12_test_0 (j := 6) rfl rfl)
theorem dX12_test_7 : decode cX12_test 7 = .ok (.iload_n 2, 1) := fq1_28 (fl_X12_test_0 (j := 7) rfl rfl)
theorem dX12_test_8 : decode cX12_test 8 = .ok (.bipush 15, 2) := fq2_16 (fl_X12_test_0 (j := 8) rfl rfl) (fl_X12_test_0 (j := 9) rfl rfl) (s1p rfl (bl rfl))
theorem dX12_test_10 : decode cX12_test 10 = .ok (.if_icmp .eq 21, 3) := fq3_159 (fl_X12_test_0 (j := 10) rfl rfl) (fl_X12_test_0 (j := 11) rfl rfl) (fl_X12_test_0 (j := 12) rfl rfl) (s2p rfl (bl rfl))
theorem dX12_test_13 : decode cX12_test 13 = .ok (.iload_n 2, 1) := fq1_28 (fl_X12_test_0 (j := 13) rfl rfl)
theorem dX12_test_14 : decode cX12_test 14 = .ok (.bipush 9, 2) := fq2_16 (fl_X12_test_0 (j := 14) rfl rfl) (fl_X12_test_0 (j := 15) rfl rfl) (s1p rfl (bl rfl))
theorem dX12_test_16 : decode cX12_test 16 = .ok (.if_icmp .eq 15, 3) := fq3_159 (fl_X12_test_0 (j := 16) rfl rfl) (fl_X12_test_0 (j := 17) rfl rfl) (fl_X12_test_0 (j := 18) rfl rfl) (s2p rfl (bl rfl))
theorem dX12_test_19 : decode cX12_test 19 = .ok (.iload_n 2, 1) := fq1_28 (fl_X12_test_0 (j := 19) rfl rfl)
theorem dX12_test_20 : decode cX12_test 20 = .ok (.bipush 23, 2) := fq2_16 (fl_X12_test_0 (j := 20) rfl rfl) (fl_X12_test_0 (j := 21) rfl rfl) (s1p rfl (bl rfl))
theorem dX12_test_22 : decode cX12_test 22 = .ok (.if_icmp .eq 9, 3) := fq3_159 (fl_X12_test_0 (j := 22) rfl rfl) (fl_X12_test_0 (j := 23) rfl rfl) (fl_X12_test_0 (j := 24) rfl rfl) (s2p rfl (bl rfl))
theorem dX12_test_25 : decode cX12_test 25 = .ok (.aload_n 0, 1) := fq1_42 (fl_X12_test_0 (j := 25) rfl rfl)
theorem dX12_test_26 : decode cX12_test 26 = .ok (.iconst 2, 1) := fq1_5 (fl_X12_test_0 (j := 26) rfl rfl)
theorem dX12_test_27 : decode cX12_test 27 = .ok (.invokevirtual 164, 3) := fq3_182 (fl_X12_test_0 (j := 27) rfl rfl) (fl_X12_test_0 (j := 28) rfl rfl) (fl_X12_test_0 (j := 29) rfl rfl) rfl
theorem dX12_test_30 : decode cX12_test 30 = .ok (.ireturn, 1) := fq1_172 (fl_X12_test_0 (j := 30) rfl rfl)
theorem dX12_test_31 : decode cX12_test 31 = .ok (.aload_n 0, 1) := fq1_42 (fl_X12_test_0 (j := 31) rfl rfl)
theorem dX12_test_32 : decode cX12_test 32 = .ok (.getfield 7, 3) := fq3_180 (fl_X12_test_0 (j := 32) rfl rfl) (fl_X12_test_0 (j := 33) rfl rfl) (fl_X12_test_0 (j := 34) rfl rfl) rfl
theorem dX12_test_35 : decode cX12_test 35 = .ok (.iload_n 1, 1) := fq1_27 (fl_X12_test_0 (j := 35) rfl rfl)
theorem dX12_test_36 : decode cX12_test 36 = .ok (.sipush 1900, 3) := fq3_17 (fl_X12_test_0 (j := 36) rfl rfl) (fl_X12_test_0 (j := 37) rfl rfl) (fl_X12_test_0 (j := 38) rfl rfl) (s2p rfl (bl rfl))
theorem dX12_test_39 : decode cX12_test 39 = .ok (.iload_n 2, 1) := fq1_28 (fl_X12_test_0 (j := 39) rfl rfl)
theorem dX12_test_40 : decode cX12_test 40 = .ok (.iadd, 1) := fq1_96 (fl_X12_test_0 (j := 40) rfl rfl)
theorem dX12_test_41 : decode cX12_test 41 = .ok (.iastore, 1) := fq1_79 (fl_X12_test_0 (j := 41) rfl rfl)
theorem dX12_test_42 : decode cX12_test 42 = .ok (.aload_n 0, 1) := fq1_42 (fl_X12_test_0 (j := 42) rfl rfl)
theorem dX12_test_43 : decode cX12_test 43 = .ok (.invokevirtual 158, 3) := fq3_182 (fl_X12_test_0 (j := 43) rfl rfl) (fl_X12_test_0 (j := 44) rfl rfl) (fl_X12_test_0 (j := 45) rfl rfl) rfl
theorem dX12_test_46 : decode cX12_test 46 = .ok (.iload_n 2, 1) := fq1_28 (fl_X12_test_0 (j := 46) rfl rfl)
theorem dX12_test_47 : decode cX12_test 47 = .ok (.bipush 9, 2) := fq2_16 (fl_X12_test_0 (j := 47) rfl rfl) (fl_X12_test_0 (j := 48) rfl rfl) (s1p rfl (bl rfl))
theorem dX12_test_49 : decode cX12_test 49 = .ok (.if_icmp .ne 11, 3) := fq3_160 (fl_X12_test_0 (j := 49) rfl rfl) (fl_X12_test_0 (j := 50) rfl rfl) (fl_X12_test_0 (j := 51) rfl rfl) (s2p rfl (bl rfl))
theorem dX12_test_52 : decode cX12_test 52 = .ok (.aload_n 0, 1) := fq1_42 (fl_X12_test_0 (j := 52) rfl rfl)
theorem dX12_test_53 : decode cX12_test 53 = .ok (.iload_n 1, 1) := fq1_27 (fl_X12_test_0 (j := 53) rfl rfl)
theorem dX12_test_54 : decode cX12_test 54 = .ok (.iconst 1, 1) := fq1_4 (fl_X12_test_0 (j := 54) rfl rfl)
theorem dX12_test_55 : decode cX12_test 55 = .ok (.iadd, 1) := fq1_96 (fl_X12_test_0 (j := 55) rfl rfl)
theorem dX12_test_56 : decode cX12_test 56 = .ok (.invokevirtual 225, 3) := fq3_182 (fl_X12_test_0 (j := 56) rfl rfl) (fl_X12_test_0 (j := 57) rfl rfl) (fl_X12_test_0 (j := 58) rfl rfl) rfl
theorem dX12_test_59 : decode cX12_test 59 = .ok (.ireturn, 1) := fq1_172 (fl_X12_test_0 (j := 59) rfl rfl)
theorem dX12_test_60 : decode cX12_test 60 = .ok (.iload_n 2, 1) := fq1_28 (fl_X12_test_0 (j := 60) rfl rfl)
theorem dX12_test_61 : decode cX12_test 61 = .ok (.bipush 23, 2) := fq2_16 (fl_X12_test_0 (j := 61) rfl rfl) (fl_X12_test_0 (j := 62) rfl rfl) (s1p rfl (bl rfl))
def fb_X12_test_1 : List UInt8 := [0x00, 0x28, 0x2a, 0x1b, 0x04, 0x60, 0xb6, 0x00, 0xe1, 0x99, 0x00, 0x1c, 0x2a, 0x12, 0xaf, 0x10, 0x18, 0xb6, 0x00, 0xb8, 0x99, 0x00, 0x11, 0x2a, 0x1b, 0x05, 0x60, 0xb6, 0x00, 0xe1, 0x99, 0x00, 0x07, 0x04, 0xa7, 0x00, 0x04, 0x03, 0xac, 0x2a, 0x10, 0x3c, 0xb6, 0x00, 0xa1, 0x9a, 0x00, 0x1b, 0x2a, 0x10, 0x3e, 0xb6, 0x00, 0xa1, 0x9a, 0x00, 0x12, 0x2a, 0x10, 0x3d, 0xb6, 0x00, 0xa1, 0x9a]
theorem fl_X12_test_1 {p j : Nat} {b : UInt8} (e : p = 64 + j) (h : fb_X12_test_1[j]? = some b) : cX12_test.data.toList[p]? = some b := fq_l (n := 64) (show (cX12_test.data.toList.drop 64).take 64 = fb_X12_test_1 by decide +kernel) e h
theorem dX12_test_63 : decode cX12_test 63 = .ok (.if_icmp .ne 40, 3) := fq3_160 (fl_X12_test_0 (j := 63) rfl rfl) (fl_X12_test_1 (j := 0) rfl rfl) (fl_X12_test_1 (j := 1) rfl rfl) (s2p rfl (bl rfl))
theorem dX12_test_66 : decode cX12_test 66 = .ok (.aload_n 0, 1) := fq1_42 (fl_X12_test_1 (j := 2) rfl rfl)
theorem dX12_test_67 : decode cX12_test 67 = .ok (.iload_n 1, 1) := fq1_27 (fl_X12_test_1 (j := 3) rfl rfl)
theorem dX12_test_68 : decode cX12_test 68 = .ok (.iconst 1, 1) := fq1_4 (fl_X12_test_1 (j := 4) rfl rfl)
theorem dX12_test_69 : decode cX12_test 69 = .ok (.iadd, 1) := fq1_96 (fl_X12_test_1 (j := 5) rfl rfl)
theorem dX12_test_70 : decode cX12_test 70 = .ok (.invokevirtual 225, 3) := fq3_182 (fl_X12_test_1 (j := 6) rfl rfl) (fl_X12_test_1 (j := 7) rfl rfl) (fl_X12_test_1 (j := 8) rfl rfl) rfl
theorem dX12_test_73 : decode cX12_test 73 = .ok (.ifCond .eq 28, 3) := fq3_153 (fl_X12_test_1 (j := 9) rfl rfl) (fl_X12_test_1 (j := 10) rfl rfl) (fl_X12_test_1 (j := 11) rfl rfl) (s2p rfl (bl rfl))
theorem dX12_test_76 : decode cX12_test 76 = .ok (.aload_n 0, 1) := fq1_42 (fl_X12_test_1 (j := 12) rfl rfl)
theorem dX12_test_77 : decode cX12_test 77 = .ok (.ldc 175, 2) := fq2_18 (fl_X12_test_1 (j := 13) rfl rfl) (fl_X12_test_1 (j := 14) rfl rfl) rfl
theorem dX12_test_79 : decode cX12_test 79 = .ok (.bipush 24, 2) := fq2_16 (fl_X12_test_1 (j := 15) rfl rfl) (fl_X12_test_1 (j := 16) rfl rfl) (s1p rfl (bl rfl))
theorem dX12_test_81 : decode cX12_test 81 = .ok (.invokevirtual 184, 3) := fq3_182 (fl_X12_test_1 (j := 17) rfl rfl) (fl_X12_test_1 (j := 18) rfl rfl) (fl_X12_test_1 (j := 19) rfl rfl) rfl
theorem dX12_test_84 : decode cX12_test 84 = .ok (.ifCond .eq 17, 3) := fq3_153 (fl_X12_test_1 (j := 20) rfl rfl) (fl_X12_test_1 (j := 21) rfl rfl) (fl_X12_test_1 (j := 22) rfl rfl) (s2p rfl (bl rfl))
theorem dX12_test_87 : decode cX12_test 87 = .ok (.aload_n 0, 1) := fq1_42 (fl_X12_test_1 (j := 23) rfl rfl)
theorem dX12_test_88 : decode cX12_test 88 = .ok (.iload_n 1, 1) := fq1_27 (fl_X12_test_1 (j := 24) rfl rfl)
theorem dX12_test_89 : decode cX12_test 89 = .ok (.iconst 2, 1) := fq1_5 (fl_X12_test_1 (j := 25) rfl rfl)
theorem dX12_test_90 : decode cX12_test 90 = .ok (.iadd, 1) := fq1_96 (fl_X12_test_1 (j := 26) rfl rfl)
theorem dX12_test_91 : decode cX12_test 91 = .ok (.invokevirtual 225, 3) := fq3_182 (fl_X12_test_1 (j := 27) rfl rfl) (fl_X12_test_1 (j := 28) rfl rfl) (fl_X12_test_1 (j := 29) rfl rfl) rfl
theorem dX12_test_94 : decode cX12_test 94 = .ok (.ifCond .eq 7, 3) := fq3_153 (fl_X12_test_1 (j := 30) rfl rfl) (fl_X12_test_1 (j := 31) rfl rfl) (fl_X12_test_1 (j := 32) rfl rfl) (s2p rfl (bl rfl))
theorem dX12_test_97 : decode cX12_test 97 = .ok (.iconst 1, 1) := fq1_4 (fl_X12_test_1 (j := 33) rfl rfl)
theorem dX12_test_98 : decode cX12_test 98 = .ok (.goto 4, 3) := fq3_167 (fl_X12_test_1 (j := 34) rfl rfl) (fl_X12_test_1 (j := 35) rfl rfl) (fl_X12_test_1 (j := 36) rfl rfl) (s2p rfl (bl rfl))
theorem dX12_test_101 : decode cX12_test 101 = .ok (.iconst 0, 1) := fq1_3 (fl_X12_test_1 (j := 37) rfl rfl)
theorem dX12_test_102 : decode cX12_test 102 = .ok (.ireturn, 1) := fq1_172 (fl_X12_test_1 (j := 38) rfl rfl)
theorem dX12_test_103 : decode cX12_test 103 = .ok (.aload_n 0, 1) := fq1_42 (fl_X12_test_1 (j := 39) rfl rfl)
theorem dX12_test_104 : decode cX12_test 104 = .ok (.bipush 60, 2) := fq2_16 (fl_X12_test_1 (j := 40) rfl rfl) (fl_X12_test_1 (j := 41) rfl rfl) (s1p rfl (bl rfl))
theorem dX12_test_106 : decode cX12_test 106 = .ok (.invokevirtual 161, 3) := fq3_182 (fl_X12_test_1 (j := 42) rfl rfl) (fl_X12_test_1 (j := 43) rfl rfl) (fl_X12_test_1 (j := 44) rfl rfl) rfl
theorem dX12_test_109 : decode cX12_test 109 = .ok (.ifCond .ne 27, 3) := fq3_154 (fl_X12_test_1 (j := 45) rfl rfl) (fl_X12_test_1 (j := 46) rfl rfl) (fl_X12_test_1 (j := 47) rfl rfl) (s2p rfl (bl rfl))
theorem dX12_test_112 : decode cX12_test 112 = .ok (.aload_n 0, 1) := fq1_42 (fl_X12_test_1 (j := 48) rfl rfl)
theorem dX12_test_113 : decode cX12_test 113 = .ok (.bipush 62, 2) := fq2_16 (fl_X12_test_1 (j := 49) rfl rfl) (fl_X12_test_1 (j := 50) rfl rfl) (s1p rfl (bl rfl))
theorem dX12_test_115 : decode cX12_test 115 = .ok (.invokevirtual 161, 3) := fq3_182 (fl_X12_test_1 (j := 51) rfl rfl) (fl_X12_test_1 (j := 52) rfl rfl) (fl_X12_test_1 (j := 53) rfl rfl) rfl
theorem dX12_test_118 : decode cX12_test 118 = .ok (.ifCond .ne 18, 3) := fq3_154 (fl_X12_test_1 (j := 54) rfl rfl) (fl_X12_test_1 (j := 55) rfl rfl) (fl_X12_test_1 (j := 56) rfl rfl) (s2p rfl (bl rfl))
theorem dX12_test_121 : decode cX12_test 121 = .ok (.aload_n 0, 1) := fq1_42 (fl_X12_test_1 (j := 57) rfl rfl)
theorem dX12_test_122 : decode cX12_test 122 = .ok (.bipush 61, 2) := fq2_16 (fl_X12_test_1 (j := 58) rfl rfl) (fl_X12_test_1 (j := 59) rfl rfl) (s1p rfl (bl rfl))
theorem dX12_test_124 : decode cX12_test 124 = .ok (.invokevirtual 161, 3) := fq3_182 (fl_X12_test_1 (j := 60) rfl rfl) (fl_X12_test_1 (j := 61) rfl rfl) (fl_X12_test_1 (j := 62) rfl rfl) rfl
def fb_X12_test_2 : List UInt8 := [0x00, 0x09, 0x2a, 0x05, 0xb6, 0x00, 0xa4, 0xac, 0x2a, 0xb4, 0x00, 0x07, 0x1b, 0x08, 0x60, 0x2a, 0xb4, 0x00, 0x7c, 0x4f, 0x2a, 0xb6, 0x00, 0x9e, 0x2a, 0x1b, 0x04, 0x60, 0x03, 0x11, 0x01, 0x90, 0xb6, 0x00, 0xbc, 0xac]
theorem fl_X12_test_2 {p j : Nat} {b : UInt8} (e : p = 128 + j) (h : fb_X12_test_2[j]? = some b) : cX12_test.data.toList[p]? = some b := fq_l (n := 64) (show (cX12_test.data.toList.drop 128).take 64 = fb_X12_test_2 by decide +kernel) e h
theorem dX12_test_127 : decode cX12_test 127 = .ok (.ifCond .ne 9, 3) := fq3_154 (fl_X12_test_1 (j := 63) rfl rfl) (fl_X12_test_2 (j := 0) rfl rfl) (fl_X12_test_2 (j := 1) rfl rfl) (s2p rfl (bl rfl))
theorem dX12_test_130 : decode cX12_test 130 = .ok (.aload_n 0, 1) := fq1_42 (fl_X12_test_2 (j := 2) rfl rfl)
theorem dX12_test_131 : decode cX12_test 131 = .ok (.iconst 2, 1) := fq1_5 (fl_X12_test_2 (j := 3) rfl rfl)
theorem dX12_test_132 : decode cX12_test 132 = .ok (.invokevirtual 164, 3) := fq3_182 (fl_X12_test_2 (j := 4) rfl rfl) (fl_X12_test_2 (j := 5) rfl rfl) (fl_X12_test_2 (j := 6) rfl rfl) rfl
theorem dX12_test_135 : decode cX12_test 135 = .ok (.ireturn, 1) := fq1_172 (fl_X12_test_2 (j := 7) rfl rfl)
theorem dX12_test_136 : decode cX12_test 136 = .ok (.aload_n 0, 1) := fq1_42 (fl_X12_test_2 (j := 8) rfl rfl)
theorem dX12_test_137 : decode cX12_test 137 = .ok (.getfield 7, 3) := fq3_180 (fl_X12_test_2 (j := 9) rfl rfl) (fl_X12_test_2 (j := 10) rfl rfl) (fl_X12_test_2 (j := 11) rfl rfl) rfl
theorem dX12_test_140 : decode cX12_test 140 = .ok (.iload_n 1, 1) := fq1_27 (fl_X12_test_2 (j := 12) rfl rfl)
theorem dX12_test_141 : decode cX12_test 141 = .ok (.iconst 5, 1) := fq1_8 (fl_X12_test_2 (j := 13) rfl rfl)
theorem dX12_test_142 : decode cX12_test 142 = .ok (.iadd, 1) := fq1_96 (fl_X12_test_2 (j := 14) rfl rfl)
theorem dX12_test_143 : decode cX12_test 143 = .ok (.aload_n 0, 1) := fq1_42 (fl_X12_test_2 (j := 15) rfl rfl)
theorem dX12_test_144 : decode cX12_test 144 = .ok (.getfield 124, 3) := fq3_180 (fl_X12_test_2 (j := 16) rfl rfl) (fl_X12_test_2 (j := 17) rfl rfl) (fl_X12_test_2 (j := 18) rfl rfl) rfl
theorem dX12_test_147 : decode cX12_test 147 = .ok (.iastore, 1) := fq1_79 (fl_X12_test_2 (j := 19) rfl rfl)
theorem dX12_test_148 : decode cX12_test 148 = .ok (.aload_n 0, 1) := fq1_42 (fl_X12_test_2 (j := 20) rfl rfl)
theorem dX12_test_149 : decode cX12_test 149 = .ok (.invokevirtual 158, 3) := fq3_182 (fl_X12_test_2 (j := 21) rfl rfl) (fl_X12_test_2 (j := 22) rfl rfl) (fl_X12_test_2 (j := 23) rfl rfl) rfl
theorem dX12_test_152 : decode cX12_test 152 = .ok (.aload_n 0, 1) := fq1_42 (fl_X12_test_2 (j := 24) rfl rfl)
theorem dX12_test_153 : decode cX12_test 153 = .ok (.iload_n 1, 1) := fq1_27 (fl_X12_test_2 (j := 25) rfl rfl)
theorem dX12_test_154 : decode cX12_test 154 = .ok (.iconst 1, 1) := fq1_4 (fl_X12_test_2 (j := 26) rfl rfl)
theorem dX12_test_155 : decode cX12_test 155 = .ok (.iadd, 1) := fq1_96 (fl_X12_test_2 (j := 27) rfl rfl)
theorem dX12_test_156 : decode cX12_test 156 = .ok (.iconst 0, 1) := fq1_3 (fl_X12_test_2 (j := 28) rfl rfl)
theorem dX12_test_157 : decode cX12_test 157 = .ok (.sipush 400, 3) := fq3_17 (fl_X12_test_2 (j := 29) rfl rfl) (fl_X12_test_2 (j := 30) rfl rfl) (fl_X12_test_2 (j := 31) rfl rfl) (s2p rfl (bl rfl))
theorem dX12_test_160 : decode cX12_test 160 = .ok (.invokevirtual 188, 3) := fq3_182 (fl_X12_test_2 (j := 32) rfl rfl) (fl_X12_test_2 (j := 33) rfl rfl) (fl_X12_test_2 (j := 34) rfl rfl) rfl
theorem dX12_test_163 : decode cX12_test 163 = .ok (.ireturn, 1) := fq1_172 (fl_X12_test_2 (j := 35) rfl rfl)
def fb_X12_yearOrder_0 : List UInt8 := [0x1b, 0xaa, 0x00, 0x00, 0x00, 0x00, 0x00, 0x67, 0x00, 0x00, 0x00, 0x0f, 0x00, 0x00, 0x00, 0x14, 0x00, 0x00, 0x00, 0x27, 0x00, 0x00, 0x00, 0x32, 0x00, 0x00, 0x00, 0x4e, 0x00, 0x00, 0x00, 0x56, 0x00, 0x00, 0x00, 0x61, 0x00, 0x00, 0x00, 0x27, 0x2a, 0x1c, 0x04, 0x60, 0x04, 0x10, 0x63, 0xb6, 0x00, 0xbc, 0xac, 0x2a, 0x1c, 0x04, 0x60, 0xb6, 0x00, 0xe1, 0x99, 0x00, 0x13, 0x2a, 0x1c, 0x05]
theorem fl_X12_yearOrder_0 {p j : Nat} {b : UInt8} (e : p = 0 + j) (h : fb_X12_yearOrder_0[j]? = some b) : cX12_yearOrder.data.toList[p]? = some b := fq_l (n := 64) (show (cX12_yearOrder.data.toList.drop 0).take 64 = fb_X12_yearOrder_0 by decide +kernel) e h
theorem dX12_yearOrder_0 : decode cX12_yearOrder 0 = .ok (.iload_n 1, 1) := fq1_27 (fl_X12_yearOrder_0 (j := 0) rfl rfl)
theorem dX12_yearOrder_1 : decode cX12_yearOrder 1 = .ok (.tableswitch 103 15 20 #[39, 50, 78, 86, 97, 39], 39) := by decide +kernel
theorem dX12_yearOrder_40 : decode cX12_yearOrder 40 = .ok (.aload_n 0, 1) := fq1_42 (fl_X12_yearOrder_0 (j := 40) rfl rfl)
theorem dX12_yearOrder_41 : decode cX12_yearOrder 41 = .ok (.iload_n 2, 1) := fq1_28 (fl_X12_yearOrder_0 (j := 41) rfl rfl)
theorem dX12_yearOrder_42 : decode cX12_yearOrder 42 = .ok (.iconst 1, 1) := fq1_4 (fl_X12_yearOrder_0 (j := 42) rfl rfl)
theorem dX12_yearOrder_43 : decode cX12_yearOrder 43 = .ok (.iadd, 1) := fq1_96 (fl_X12_yearOrder_0 (j := 43) rfl rfl)
theorem dX12_yearOrder_44 : decode cX12_yearOrder 44 = .ok (.iconst 1, 1) := fq1_4 (fl_X12_yearOrder_0 (j := 44) rfl rfl)
theorem dX12_yearOrder_45 : decode cX12_yearOrder 45 = .ok (.bipush 99, 2) := fq2_16 (fl_X12_yearOrder_0 (j := 45) rfl rfl) (fl_X12_yearOrder_0 (j := 46) rfl rfl) (s1p rfl (bl rfl))
theorem dX12_yearOrder_47 : decode cX12_yearOrder 47 = .ok (.invokevirtual 188, 3) := fq3_182 (fl_X12_yearOrder_0 (j := 47) rfl rfl) (fl_X12_yearOrder_0 (j := 48) rfl rfl) (fl_X12_yearOrder_0 (j := 49) rfl rfl) rfl
theorem dX12_yearOrder_50 : decode cX12_yearOrder 50 = .ok (.ireturn, 1) := fq1_172 (fl_X12_yearOrder_0 (j := 50) rfl rfl)
theorem dX12_yearOrder_51 : decode cX12_yearOrder 51 = .ok (.aload_n 0, 1) := fq1_42 (fl_X12_yearOrder_0 (j := 51) rfl rfl)
theorem dX12_yearOrder_52 : decode cX12_yearOrder 52 = .ok (.iload_n 2, 1) := fq1_28 (fl_X12_yearOrder_0 (j := 52) rfl rfl)
theorem dX12_yearOrder_53 : decode cX12_yearOrder 53 = .ok (.iconst 1, 1) := fq1_4 (fl_X12_yearOrder_0 (j := 53) rfl rfl)
theorem dX12_yearOrder_54 : decode cX12_yearOrder 54 = .ok (.iadd, 1) := fq1_96 (fl_X12_yearOrder_0 (j := 54) rfl rfl)
theorem dX12_yearOrder_55 : decode cX12_yearOrder 55 = .ok (.invokevirtual 225, 3) := fq3_182 (fl_X12_yearOrder_0 (j := 55) rfl rfl) (fl_X12_yearOrder_0 (j := 56) rfl rfl) (fl_X12_yearOrder_0 (j := 57) rfl rfl) rfl
theorem dX12_yearOrder_58 : decode cX12_yearOrder 58 = .ok (.ifCond .eq 19, 3) := fq3_153 (fl_X12_yearOrder_0 (j := 58) rfl rfl) (fl_X12_yearOrder_0 (j := 59) rfl rfl) (fl_X12_yearOrder_0 (j := 60) rfl rfl) (s2p rfl (bl rfl))
theorem dX12_yearOrder_61 : decode cX12_yearOrder 61 = .ok (.aload_n 0, 1) := fq1_42 (fl_X12_yearOrder_0 (j := 61) rfl rfl)
theorem dX12_yearOrder_62 : decode cX12_yearOrder 62 = .ok (.iload_n 2, 1) := fq1_28 (fl_X12_yearOrder_0 (j := 62) rfl rfl)
theorem dX12_yearOrder_63 : decode cX12_yearOrder 63 = .ok (.iconst 2, 1) := fq1_5 (fl_X12_yearOrder_0 (j := 63) rfl rfl)
def fb_X12_yearOrder_1 : List UInt8 := [0x60, 0x03, 0x04, 0xb6, 0x00, 0xbc, 0x99, 0x00, 0x07, 0x04, 0xa7, 0x00, 0x04, 0x03, 0xac, 0x2a, 0x1c, 0x04, 0x60, 0xb6, 0x00, 0xe1, 0xac, 0x2a, 0x1c, 0x04, 0x60, 0x03, 0x10, 0x10, 0xb6, 0x00, 0xbc, 0xac, 0x2a, 0x1c, 0xb6, 0x00, 0xe4, 0xac, 0x04, 0xac]
theorem fl_X12_yearOrder_1 {p j : Nat} {b : UInt8} (e : p = 64 + j) (h : fb_X12_yearOrder_1[j]? = some b) : cX12_yearOrder.data.toList[p]? = some b := fq_l (n := 64) (show (cX12_yearOrder.data.toList.drop 64).take 64 = fb_X12_yearOrder_1 by decide +kernel) e h
theorem dX12_yearOrder_64 : decode cX12_yearOrder 64 = .ok (.iadd, 1) := fq1_96 (fl_X12_yearOrder_1 (j := 0) rfl rfl)
theorem dX12_yearOrder_65 : decode cX12_yearOrder 65 = .ok (.iconst 0, 1) := fq1_3 (fl_X12_yearOrder_1 (j := 1) rfl rfl)
theorem dX12_yearOrder_66 : decode cX12_yearOrder 66 = .ok (.iconst 1, 1) := fq1_4 (fl_X12_yearOrder_1 (j := 2) rfl rfl)
theorem dX12_yearOrder_67 : decode cX12_yearOrder 67 = .ok (.invokevirtual 188, 3) := fq3_182 (fl_X12_yearOrder_1 (j := 3) rfl rfl) (fl_X12_yearOrder_1 (j := 4) rfl rfl) (fl_X12_yearOrder_1 (j := 5) rfl rfl) rfl
theorem dX12_yearOrder_70 : decode cX12_yearOrder 70 = .ok (.ifCond .eq 7, 3) := fq3_153 (fl_X12_yearOrder_1 (j := 6) rfl rfl) (fl_X12_yearOrder_1 (j := 7) rfl rfl) (fl_X12_yearOrder_1 (j := 8) rfl rfl) (s2p rfl (bl rfl))
theorem dX12_yearOrder_73 : decode cX12_yearOrder 73 = .ok (.iconst 1, 1) := fq1_4 (fl_X12_yearOrder_1 (j := 9) rfl rfl)
theorem dX12_yearOrder_74 : decode cX12_yearOrder 74 = .ok (.goto 4, 3) := fq3_167 (fl_X12_yearOrder_1 (j := 10) rfl rfl) (fl_X12_yearOrder_1 (j := 11) rfl rfl) (fl_X12_yearOrder_1 (j := 12) rfl rfl) (s2p rfl (bl rfl))
theorem dX12_yearOrder_77 : decode cX12_yearOrder 77 = .ok (.iconst 0, 1) := fq1_3 (fl_X12_yearOrder_1 (j := 13) rfl rfl)
theorem dX12_yearOrder_78 : decode cX12_yearOrder 78 = .ok (.ireturn, 1) := fq1_172 (fl_X12_yearOrder_1 (j := 14) rfl rfl)
theorem dX12_yearOrder_79 : decode cX12_yearOrder 79 = .ok (.aload_n 0, 1) := fq1_42 (fl_X12_yearOrder_1 (j := 15) rfl rfl)
theorem dX12_yearOrder_80 : decode cX12_yearOrder 80 = .ok (.iload_n 2, 1) := fq1_28 (fl_X12_yearOrder_1 (j := 16) rfl rfl)
theorem dX12_yearOrder_81 : decode cX12_yearOrder 81 = .ok (.iconst 1, 1) := fq1_4 (fl_X12_yearOrder_1 (j := 17) rfl rfl)
theorem dX12_yearOrder_82 : decode cX12_yearOrder 82 = .ok (.iadd, 1) := fq1_96 (fl_X12_yearOrder_1 (j := 18) rfl rfl)
theorem dX12_yearOrder_83 : decode cX12_yearOrder 83 = .ok (.invokevirtual 225, 3) := fq3_182 (fl_X12_yearOrder_1 (j := 19) rfl rfl) (fl_X12_yearOrder_1 (j := 20) rfl rfl) (fl_X12_yearOrder_1 (j := 21) rfl rfl) rfl
theorem dX12_yearOrder_86 : decode cX12_yearOrder 86 = .ok (.ireturn, 1) := fq1_172 (fl_X12_yearOrder_1 (j := 22) rfl rfl)
theorem dX12_yearOrder_87 : decode cX12_yearOrder 87 = .ok (.aload_n 0, 1) := fq1_42 (fl_X12_yearOrder_1 (j := 23) rfl rfl)
theorem dX12_yearOrder_88 : decode cX12_yearOrder 88 = .ok (.iload_n 2, 1) := fq1_28 (fl_X12_yearOrder_1 (j := 24) rfl rfl)
theorem dX12_yearOrder_89 : decode cX12_yearOrder 89 = .ok (.iconst 1, 1) := fq1_4 (fl_X12_yearOrder_1 (j := 25) rfl rfl)
theorem dX12_yearOrder_90 : decode cX12_yearOrder 90 = .ok (.iadd, 1) := fq1_96 (fl_X12_yearOrder_1 (j := 26) rfl rfl)
theorem dX12_yearOrder_91 : decode cX12_yearOrder 91 = .ok (.iconst 0, 1) := fq1_3 (fl_X12_yearOrder_1 (j := 27) rfl rfl)
theorem dX12_yearOrder_92 : decode cX12_yearOrder 92 = .ok (.bipush 16, 2) := fq2_16 (fl_X12_yearOrder_1 (j := 28) rfl rfl) (fl_X12_yearOrder_1 (j := 29) rfl rfl) (s1p rfl (bl rfl))
theorem dX12_yearOrder_94 : decode cX12_yearOrder 94 = .ok (.invokevirtual 188, 3) := fq3_182 (fl_X12_yearOrder_1 (j := 30) rfl rfl) (fl_X12_yearOrder_1 (j := 31) rfl rfl) (fl_X12_yearOrder_1 (j := 32) rfl rfl) rfl
theorem dX12_yearOrder_97 : decode cX12_yearOrder 97 = .ok (.ireturn, 1) := fq1_172 (fl_X12_yearOrder_1 (j := 33) rfl rfl)
theorem dX12_yearOrder_98 : decode cX12_yearOrder 98 = .ok (.aload_n 0, 1) := fq1_42 (fl_X12_yearOrder_1 (j := 34) rfl rfl)
theorem dX12_yearOrder_99 : decode cX12_yearOrder 99 = .ok (.iload_n 2, 1) := fq1_28 (fl_X12_yearOrder_1 (j := 35) rfl rfl)
theorem dX12_yearOrder_100 : decode cX12_yearOrder 100 = .ok (.invokevirtual 228, 3) := fq3_182 (fl_X12_yearOrder_1 (j := 36) rfl rfl) (fl_X12_yearOrder_1 (j := 37) rfl rfl) (fl_X12_yearOrder_1 (j := 38) rfl rfl) rfl
theorem dX12_yearOrder_103 : decode cX12_yearOrder 103 = .ok (.ireturn, 1) := fq1_172 (fl_X12_yearOrder_1 (j := 39) rfl rfl)
theorem dX12_yearOrder_104 : decode cX12_yearOrder 104 = .ok (.iconst 1, 1) := fq1_4 (fl_X12_yearOrder_1 (j := 40) rfl rfl)
theorem dX12_yearOrder_105 : decode cX12_yearOrder 105 = .ok (.ireturn, 1) := fq1_172 (fl_X12_yearOrder_1 (j := 41) rfl rfl)
end

section
/-- only a row of six is written, but for its fifth -/
def RWR (g f : Nat → Int32) (y : Int) : Prop := ∀ e : Int, 0 ≤ e → (e < y ∨ y + 6 ≤ e ∨ e = y + 4) → gz g e = gz f e
theorem RWR.rf (f : Nat → Int32) (y : Int) : RWR f f y := fun _ _ _ => rfl
theorem RWR.tr {h g f : Nat → Int32} {y : Int} (a : RWR h g y) (b : RWR g f y) : RWR h f y := fun e x z => (a e x z).trans (b e x z)
theorem RWR.up {g f : Nat → Int32} {y i v : Int} (hg : g = upd f (iZ i).toNatClampNeg (iZ v)) (hy : 0 ≤ y) (hi : (y ≤ i ∧ i < y + 6 ∧ i < 2147483648) ∧ ¬ i = y + 4) (hv : -2147483648 ≤ v ∧ v < 2147483648) : RWR g f y := fun e x z => by
  have c := gz_upc (j := e) hg (by omega) hv x
  omega
theorem RWR.kp {g f : Nat → Int32} {y : Int} (h : RWR g f y) (hy : 3560 ≤ y) : KP g f := fun e a b => h e a (Or.inl (by omega))
/-- what a row may name -/
def YRO (f : Nat → Int32) (n s y : Int) : Prop := (gz f y = 17 → 0 ≤ gz f (y + 1) ∧ gz f (y + 1) < n) ∧ (gz f y = 1923 → 0 ≤ gz f (y + 2) ∧ gz f (y + 2) < 6) ∧ (0 ≤ gz f (y + 4) ∧ gz f (y + 4) < s)
def NYR (f of0 : Nat → Int32) (dp ct : Int) : Prop := (0 ≤ gz f 3565 ∧ (0 ≤ ct ∧ ct ≤ 30) ∧ (0 ≤ dp ∧ dp ≤ 3) ∧ gz f 3565 + dp ≤ 2 * ct) ∧ (∀ i : Int, 0 ≤ i → i < dp → 0 ≤ gz of0 i ∧ gz of0 i < gz f 3565) ∧ (∀ k : Int, 0 ≤ k → k < gz f 3565 → YRO f (gz f 0) (gz f 3565) (4080 + (6 * k)))
theorem NYR.add {f g of0 og : Nat → Int32} {dp ct dq cq : Int} (h : NYR f of0 dp ct) (hct : ct < 30 ∧ cq = ct + 1) (hA : ∀ e : Int, 0 ≤ e → (e < 3560 ∨ (4080 ≤ e ∧ e < 4080 + 6 * gz f 3565)) → gz g e = gz f e) (h5 : gz g 3565 = gz f 3565 + 1) (hr1 : gz g (4080 + (6 * gz f 3565)) = 17 → 0 ≤ gz g ((4080 + (6 * gz f 3565)) + 1) ∧ gz g ((4080 + (6 * gz f 3565)) + 1) < gz f 0) (hr2 : gz g (4080 + (6 * gz f 3565)) = 1923 → 0 ≤ gz g ((4080 + (6 * gz f 3565)) + 2) ∧ gz g ((4080 + (6 * gz f 3565)) + 2) < 6) (hr4 : gz g ((4080 + (6 * gz f 3565)) + 4) = 0) (ho : (dq = dp ∧ og = of0) ∨ ((dq = dp + 1 ∧ dp < 3) ∧ og = upd of0 (iZ dp).toNatClampNeg (iZ (gz f 3565)))) : NYR g og dq cq := by
  obtain ⟨a, b, c⟩ := h
  have h0 := hA 0 (by omega) (by omega)
  have hs : gz f 3565 ≤ 60 := by omega
  refine ⟨by rcases ho with ho | ho <;> omega, fun i h1 h2 => ?_, fun k h1 h2 => ?_⟩
  · rcases ho with ⟨q1, q2⟩ | ⟨q1, q2⟩
    · rw [q2]; have := b i h1 (by omega); omega
    · have u := gz_upc (j := i) q2 (by omega) (by omega) h1
      rcases u with u | u
      · omega
      · have := b i h1 (by omega); omega
  · rcases Int.lt_or_eq_of_le (show k ≤ gz f 3565 by omega) with q | q
    · have y := c k h1 q
      unfold YRO at y ⊢
      rw [hA (4080 + (6 * k)) (by omega) (by omega), hA (4080 + (6 * k) + 1) (by omega) (by omega), hA (4080 + (6 * k) + 2) (by omega) (by omega), hA (4080 + (6 * k) + 4) (by omega) (by omega), h0, h5]
      exact ⟨y.1, y.2.1, y.2.2.1, by omega⟩
    · rw [q]
      unfold YRO
      rw [hr4, h0]
      exact ⟨hr1, hr2, by omega, by omega⟩
theorem NYR.close {f g g1 g2 of0 : Nat → Int32} {dp ct e1 e2 v1 v2 dq cq : Int} (h : NYR f of0 dp ct) (hd : 0 < dp ∧ dq = dp - 1 ∧ cq = ct) (hA : ∀ e : Int, 0 ≤ e → (e < 3560 ∨ (4080 ≤ e ∧ e < 4080 + 6 * gz f 3565)) → gz g e = gz f e) (h5 : gz g 3565 = gz f 3565 + 1) (hw : gz g (4080 + (6 * gz f 3565)) = 21) (hg1 : g1 = upd g (iZ e1).toNatClampNeg (iZ v1)) (he1 : e1 = (4080 + (6 * gz f 3565)) + 4) (hv1 : v1 = gz of0 (dp - 1)) (hg2 : g2 = upd g1 (iZ e2).toNatClampNeg (iZ v2)) (he2 : e2 = (4080 + (6 * gz of0 (dp - 1))) + 4) (hv2 : v2 = gz f 3565) : NYR g2 of0 dq cq := by
  obtain ⟨a, b, c⟩ := h
  have h0 := hA 0 (by omega) (by omega)
  have hs : gz f 3565 ≤ 60 := by omega
  have ho := b (dp - 1) (by omega) (by omega)
  have u1 := fun j hj => gz_upc (j := j) hg1 (by omega) (by omega) hj
  have u2 := fun j hj => gz_upc (j := j) hg2 (by omega) (by omega) hj
  have z0 := u1 0 (by omega)
  have z1 := u2 0 (by omega)
  have y0 := u1 3565 (by omega)
  have y1 := u2 3565 (by omega)
  have s5 : gz g2 3565 = gz f 3565 + 1 := by omega
  refine ⟨by omega, fun i h1 h2 => by have := b i h1 (by omega); omega, fun k h1 h2 => ?_⟩
  have r0 := u1 (4080 + (6 * k)) (by omega)
  have r0' := u2 (4080 + (6 * k)) (by omega)
  have r1 := u1 (4080 + (6 * k) + 1) (by omega)
  have r1' := u2 (4080 + (6 * k) + 1) (by omega)
  have r2 := u1 (4080 + (6 * k) + 2) (by omega)
  have r2' := u2 (4080 + (6 * k) + 2) (by omega)
  have r4 := u1 (4080 + (6 * k) + 4) (by omega)
  have r4' := u2 (4080 + (6 * k) + 4) (by omega)
  rcases Int.lt_or_eq_of_le (show k ≤ gz f 3565 by omega) with q | q
  · have y := c k h1 q
    have w0 := hA (4080 + (6 * k)) (by omega) (by omega)
    have w1 := hA (4080 + (6 * k) + 1) (by omega) (by omega)
    have w2 := hA (4080 + (6 * k) + 2) (by omega) (by omega)
    have w4 := hA (4080 + (6 * k) + 4) (by omega) (by omega)
    unfold YRO at y ⊢
    obtain ⟨y1, y2, y3⟩ := y
    refine ⟨fun t => ?_, fun t => ?_, ?_⟩
    · have := y1 (by omega); omega
    · have := y2 (by omega); omega
    · omega
  · rw [q] at r0 r0' r1 r1' r2 r2' r4 r4' ⊢
    unfold YRO
    exact ⟨fun t => by omega, fun t => by omega, by omega⟩
theorem NYR.m0 {f g h of0 : Nat → Int32} {ct : Int} (hN : NYR f of0 0 ct) (hM : M0 g) (h0 : gz g 0 = gz f 0) (h5 : gz h 5 = gz f 3565) (hc : ∀ e : Int, 520 ≤ e → e < 884 → gz h e = gz f (3560 + e)) (hk : ∀ e : Int, 0 ≤ e → e < 520 → ¬ e = 5 → gz h e = gz g e) : M0 h := by
  obtain ⟨a, b, c⟩ := hN
  obtain ⟨a0, a1, a3, a4, a5, aF, aO, aS⟩ := hM
  have k0 := hk 0 (by omega) (by omega) (by omega)
  have k1 := hk 1 (by omega) (by omega) (by omega)
  have k3 := hk 3 (by omega) (by omega) (by omega)
  have k4 := hk 4 (by omega) (by omega) (by omega)
  refine ⟨by omega, by omega, by omega, by omega, by omega, ?_, ?_, ?_⟩
  · rw [k0]
    intro r h1 h2
    have e : ∀ w : Int, 0 ≤ w → w < 6 → gz (sh h 10) ((r * 6) + w) = gz (sh g 10) ((r * 6) + w) := fun w g1 g2 => by
      rw [gz_sh (by omega) (by omega), gz_sh (by omega) (by omega)]
      exact hk _ (by omega) (by omega) (by omega)
    rw [e 0 (by omega) (by omega), e 1 (by omega) (by omega), e 2 (by omega) (by omega), e 3 (by omega) (by omega), e 4 (by omega) (by omega), e 5 (by omega) (by omega)]
    exact aF r h1 h2
  · rw [k0, k4]
    intro o h1 h2
    rw [hk _ (by omega) (by omega) (by omega), hk _ (by omega) (by omega) (by omega)]
    exact aO o h1 h2
  · rw [k0, h5]
    intro q h1 h2
    have y := c q h1 h2
    unfold YRO at y
    rw [hc (520 + (6 * q)) (by omega) (by omega), hc (520 + (6 * q) + 1) (by omega) (by omega), hc (520 + (6 * q) + 2) (by omega) (by omega), hc (520 + (6 * q) + 4) (by omega) (by omega), h0]
    rw [show 3560 + (520 + 6 * q) = 4080 + 6 * q by omega, show 3560 + (520 + 6 * q + 1) = 4080 + 6 * q + 1 by omega, show 3560 + (520 + 6 * q + 2) = 4080 + 6 * q + 2 by omega, show 3560 + (520 + 6 * q + 4) = 4080 + 6 * q + 4 by omega]
    exact y
end
