theorem qc_X11_isNews : Cond.code yX11_isNews cX11_isNews 3 (some .boolean) ∈ gw := tbt (tb4 (List.mem_of_getElem? (i := 151) rfl)) rfl
theorem qi_yX11_isNews : Cond.instanceMethod yX11_isNews ∈ gw := tbt (tb4 (List.mem_of_getElem? (i := 150) rfl)) rfl
theorem qs_X11_isNews : Cond.selects (yX11_isNews).cls yX11_isNews yX11_isNews ∈ gw := tb0 (List.mem_of_getElem? (i := 21) rfl) rfl
theorem ci_X11_isNews : CIv yX11_isNews cX11_isNews 3 (some .boolean) 2 := ⟨qc_X11_isNews, qi_yX11_isNews, qs_X11_isNews, qz_X11, by decide +kernel⟩
theorem qm_X11_268 : Cond.methodLink RX11 268 yX11_isNews ∈ gw := tbt (tb4 (List.mem_of_getElem? (i := 148) rfl)) rfl
theorem qf_X11_70 : Cond.fieldLink RX11 70 "SlowWorlds" "news" "LSlowWorlds$News;" ∈ gw := tbt (tb2 (List.mem_of_getElem? (i := 204) rfl)) rfl
theorem qm_X11_271 : Cond.methodLink RX11 271 yX2_spread ∈ gw := tbt (tb4 (List.mem_of_getElem? (i := 152) rfl)) rfl
theorem qf_X11_274 : Cond.fieldLink RX11 274 "SlowWorlds$News" "known" "[I" ∈ gw := tbt (tb2 (List.mem_of_getElem? (i := 113) rfl)) rfl
theorem qc_X2_lastToKnow : Cond.code yX2_lastToKnow cX2_lastToKnow 3 (some .int) ∈ gw := tbt (tb4 (List.mem_of_getElem? (i := 197) rfl)) rfl
theorem qi_yX2_lastToKnow : Cond.instanceMethod yX2_lastToKnow ∈ gw := tbt (tb4 (List.mem_of_getElem? (i := 195) rfl)) rfl
theorem qs_X2_lastToKnow : Cond.selects (yX2_lastToKnow).cls yX2_lastToKnow yX2_lastToKnow ∈ gw := tbt (tb4 (List.mem_of_getElem? (i := 196) rfl)) rfl
theorem ci_X2_lastToKnow : CIv yX2_lastToKnow cX2_lastToKnow 3 (some .int) 0 := ⟨qc_X2_lastToKnow, qi_yX2_lastToKnow, qs_X2_lastToKnow, qz_X2, by decide +kernel⟩
theorem qm_X11_289 : Cond.methodLink RX11 289 yX2_lastToKnow ∈ gw := tbt (tb4 (List.mem_of_getElem? (i := 194) rfl)) rfl
theorem qk_X11_292 : Cond.constant RX11 292 (100000) ∈ gw := tbt (tb4 (List.mem_of_getElem? (i := 214) rfl)) rfl
def fb_X11_centre_0 : List UInt8 := [0x1b, 0xb8, 0x00, 0xf0, 0x9a, 0x00, 0x09, 0x2a, 0x04, 0xb6, 0x00, 0x7e, 0xac, 0x02, 0x3d, 0x03, 0x3e, 0x03, 0x36, 0x04, 0x15, 0x04, 0x2a, 0xb4, 0x00, 0x12, 0xb4, 0x00, 0x36, 0xb4, 0x00, 0xa9, 0xa2, 0x00, 0x43, 0x2a, 0xb4, 0x00, 0x46, 0x15, 0x04, 0x1b, 0xb6, 0x01, 0x0f, 0x2a, 0xb4, 0x00, 0x46, 0xb6, 0x01, 0x21, 0x36, 0x05, 0x15, 0x05, 0x02, 0x9f, 0x00, 0x24, 0x1c, 0x02, 0x9f, 0x00]
theorem fl_X11_centre_0 {p j : Nat} {b : UInt8} (e : p = 0 + j) (h : fb_X11_centre_0[j]? = some b) : cX11_centre.data.toList[p]? = some b := fq_l (n := 64) (show (cX11_centre.data.toList.drop 0).take 64 = fb_X11_centre_0 by decide +kernel) e h
theorem dX11_centre_0 : decode cX11_centre 0 = .ok (.iload_n 1, 1) := fq1_27 (fl_X11_centre_0 (j := 0) rfl rfl)
theorem dX11_centre_1 : decode cX11_centre 1 = .ok (.invokestatic 240, 3) := fq3_184 (fl_X11_centre_0 (j := 1) rfl rfl) (fl_X11_centre_0 (j := 2) rfl rfl) (fl_X11_centre_0 (j := 3) rfl rfl) rfl
theorem dX11_centre_4 : decode cX11_centre 4 = .ok (.ifCond .ne 9, 3) := fq3_154 (fl_X11_centre_0 (j := 4) rfl rfl) (fl_X11_centre_0 (j := 5) rfl rfl) (fl_X11_centre_0 (j := 6) rfl rfl) (s2p rfl (bl rfl))
theorem dX11_centre_7 : decode cX11_centre 7 = .ok (.aload_n 0, 1) := fq1_42 (fl_X11_centre_0 (j := 7) rfl rfl)
theorem dX11_centre_8 : decode cX11_centre 8 = .ok (.iconst 1, 1) := fq1_4 (fl_X11_centre_0 (j := 8) rfl rfl)
theorem dX11_centre_9 : decode cX11_centre 9 = .ok (.invokevirtual 126, 3) := fq3_182 (fl_X11_centre_0 (j := 9) rfl rfl) (fl_X11_centre_0 (j := 10) rfl rfl) (fl_X11_centre_0 (j := 11) rfl rfl) rfl
theorem dX11_centre_12 : decode cX11_centre 12 = .ok (.ireturn, 1) := fq1_172 (fl_X11_centre_0 (j := 12) rfl rfl)
theorem dX11_centre_13 : decode cX11_centre 13 = .ok (.iconst (-1), 1) := fq1_2 (fl_X11_centre_0 (j := 13) rfl rfl)
theorem dX11_centre_14 : decode cX11_centre 14 = .ok (.istore_n 2, 1) := fq1_61 (fl_X11_centre_0 (j := 14) rfl rfl)
theorem dX11_centre_15 : decode cX11_centre 15 = .ok (.iconst 0, 1) := fq1_3 (fl_X11_centre_0 (j := 15) rfl rfl)
theorem dX11_centre_16 : decode cX11_centre 16 = .ok (.istore_n 3, 1) := fq1_62 (fl_X11_centre_0 (j := 16) rfl rfl)
theorem dX11_centre_17 : decode cX11_centre 17 = .ok (.iconst 0, 1) := fq1_3 (fl_X11_centre_0 (j := 17) rfl rfl)
theorem dX11_centre_18 : decode cX11_centre 18 = .ok (.istore 4, 2) := fq2_54 (fl_X11_centre_0 (j := 18) rfl rfl) (fl_X11_centre_0 (j := 19) rfl rfl) rfl
theorem dX11_centre_20 : decode cX11_centre 20 = .ok (.iload 4, 2) := fq2_21 (fl_X11_centre_0 (j := 20) rfl rfl) (fl_X11_centre_0 (j := 21) rfl rfl) rfl
theorem dX11_centre_22 : decode cX11_centre 22 = .ok (.aload_n 0, 1) := fq1_42 (fl_X11_centre_0 (j := 22) rfl rfl)
theorem dX11_centre_23 : decode cX11_centre 23 = .ok (.getfield 18, 3) := fq3_180 (fl_X11_centre_0 (j := 23) rfl rfl) (fl_X11_centre_0 (j := 24) rfl rfl) (fl_X11_centre_0 (j := 25) rfl rfl) rfl
theorem dX11_centre_26 : decode cX11_centre 26 = .ok (.getfield 54, 3) := fq3_180 (fl_X11_centre_0 (j := 26) rfl rfl) (fl_X11_centre_0 (j := 27) rfl rfl) (fl_X11_centre_0 (j := 28) rfl rfl) rfl
theorem dX11_centre_29 : decode cX11_centre 29 = .ok (.getfield 169, 3) := fq3_180 (fl_X11_centre_0 (j := 29) rfl rfl) (fl_X11_centre_0 (j := 30) rfl rfl) (fl_X11_centre_0 (j := 31) rfl rfl) rfl
theorem dX11_centre_32 : decode cX11_centre 32 = .ok (.if_icmp .ge 67, 3) := fq3_162 (fl_X11_centre_0 (j := 32) rfl rfl) (fl_X11_centre_0 (j := 33) rfl rfl) (fl_X11_centre_0 (j := 34) rfl rfl) (s2p rfl (bl rfl))
theorem dX11_centre_35 : decode cX11_centre 35 = .ok (.aload_n 0, 1) := fq1_42 (fl_X11_centre_0 (j := 35) rfl rfl)
theorem dX11_centre_36 : decode cX11_centre 36 = .ok (.getfield 70, 3) := fq3_180 (fl_X11_centre_0 (j := 36) rfl rfl) (fl_X11_centre_0 (j := 37) rfl rfl) (fl_X11_centre_0 (j := 38) rfl rfl) rfl
theorem dX11_centre_39 : decode cX11_centre 39 = .ok (.iload 4, 2) := fq2_21 (fl_X11_centre_0 (j := 39) rfl rfl) (fl_X11_centre_0 (j := 40) rfl rfl) rfl
theorem dX11_centre_41 : decode cX11_centre 41 = .ok (.iload_n 1, 1) := fq1_27 (fl_X11_centre_0 (j := 41) rfl rfl)
theorem dX11_centre_42 : decode cX11_centre 42 = .ok (.invokevirtual 271, 3) := fq3_182 (fl_X11_centre_0 (j := 42) rfl rfl) (fl_X11_centre_0 (j := 43) rfl rfl) (fl_X11_centre_0 (j := 44) rfl rfl) rfl
theorem dX11_centre_45 : decode cX11_centre 45 = .ok (.aload_n 0, 1) := fq1_42 (fl_X11_centre_0 (j := 45) rfl rfl)
theorem dX11_centre_46 : decode cX11_centre 46 = .ok (.getfield 70, 3) := fq3_180 (fl_X11_centre_0 (j := 46) rfl rfl) (fl_X11_centre_0 (j := 47) rfl rfl) (fl_X11_centre_0 (j := 48) rfl rfl) rfl
theorem dX11_centre_49 : decode cX11_centre 49 = .ok (.invokevirtual 289, 3) := fq3_182 (fl_X11_centre_0 (j := 49) rfl rfl) (fl_X11_centre_0 (j := 50) rfl rfl) (fl_X11_centre_0 (j := 51) rfl rfl) rfl
theorem dX11_centre_52 : decode cX11_centre 52 = .ok (.istore 5, 2) := fq2_54 (fl_X11_centre_0 (j := 52) rfl rfl) (fl_X11_centre_0 (j := 53) rfl rfl) rfl
theorem dX11_centre_54 : decode cX11_centre 54 = .ok (.iload 5, 2) := fq2_21 (fl_X11_centre_0 (j := 54) rfl rfl) (fl_X11_centre_0 (j := 55) rfl rfl) rfl
theorem dX11_centre_56 : decode cX11_centre 56 = .ok (.iconst (-1), 1) := fq1_2 (fl_X11_centre_0 (j := 56) rfl rfl)
theorem dX11_centre_57 : decode cX11_centre 57 = .ok (.if_icmp .eq 36, 3) := fq3_159 (fl_X11_centre_0 (j := 57) rfl rfl) (fl_X11_centre_0 (j := 58) rfl rfl) (fl_X11_centre_0 (j := 59) rfl rfl) (s2p rfl (bl rfl))
theorem dX11_centre_60 : decode cX11_centre 60 = .ok (.iload_n 2, 1) := fq1_28 (fl_X11_centre_0 (j := 60) rfl rfl)
theorem dX11_centre_61 : decode cX11_centre 61 = .ok (.iconst (-1), 1) := fq1_2 (fl_X11_centre_0 (j := 61) rfl rfl)
def fb_X11_centre_1 : List UInt8 := [0x11, 0x2a, 0xb4, 0x00, 0x46, 0xb4, 0x01, 0x12, 0x15, 0x05, 0x2e, 0x1d, 0xa2, 0x00, 0x11, 0x2a, 0xb4, 0x00, 0x46, 0xb4, 0x01, 0x12, 0x15, 0x05, 0x2e, 0x3e, 0x15, 0x04, 0x3d, 0x84, 0x04, 0x01, 0xa7, 0xff, 0xb4, 0x2a, 0x1c, 0xb6, 0x00, 0xfb, 0xac]
theorem fl_X11_centre_1 {p j : Nat} {b : UInt8} (e : p = 64 + j) (h : fb_X11_centre_1[j]? = some b) : cX11_centre.data.toList[p]? = some b := fq_l (n := 64) (show (cX11_centre.data.toList.drop 64).take 64 = fb_X11_centre_1 by decide +kernel) e h
theorem dX11_centre_62 : decode cX11_centre 62 = .ok (.if_icmp .eq 17, 3) := fq3_159 (fl_X11_centre_0 (j := 62) rfl rfl) (fl_X11_centre_0 (j := 63) rfl rfl) (fl_X11_centre_1 (j := 0) rfl rfl) (s2p rfl (bl rfl))
theorem dX11_centre_65 : decode cX11_centre 65 = .ok (.aload_n 0, 1) := fq1_42 (fl_X11_centre_1 (j := 1) rfl rfl)
theorem dX11_centre_66 : decode cX11_centre 66 = .ok (.getfield 70, 3) := fq3_180 (fl_X11_centre_1 (j := 2) rfl rfl) (fl_X11_centre_1 (j := 3) rfl rfl) (fl_X11_centre_1 (j := 4) rfl rfl) rfl
theorem dX11_centre_69 : decode cX11_centre 69 = .ok (.getfield 274, 3) := fq3_180 (fl_X11_centre_1 (j := 5) rfl rfl) (fl_X11_centre_1 (j := 6) rfl rfl) (fl_X11_centre_1 (j := 7) rfl rfl) rfl
theorem dX11_centre_72 : decode cX11_centre 72 = .ok (.iload 5, 2) := fq2_21 (fl_X11_centre_1 (j := 8) rfl rfl) (fl_X11_centre_1 (j := 9) rfl rfl) rfl
theorem dX11_centre_74 : decode cX11_centre 74 = .ok (.iaload, 1) := fq1_46 (fl_X11_centre_1 (j := 10) rfl rfl)
theorem dX11_centre_75 : decode cX11_centre 75 = .ok (.iload_n 3, 1) := fq1_29 (fl_X11_centre_1 (j := 11) rfl rfl)
theorem dX11_centre_76 : decode cX11_centre 76 = .ok (.if_icmp .ge 17, 3) := fq3_162 (fl_X11_centre_1 (j := 12) rfl rfl) (fl_X11_centre_1 (j := 13) rfl rfl) (fl_X11_centre_1 (j := 14) rfl rfl) (s2p rfl (bl rfl))
theorem dX11_centre_79 : decode cX11_centre 79 = .ok (.aload_n 0, 1) := fq1_42 (fl_X11_centre_1 (j := 15) rfl rfl)
theorem dX11_centre_80 : decode cX11_centre 80 = .ok (.getfield 70, 3) := fq3_180 (fl_X11_centre_1 (j := 16) rfl rfl) (fl_X11_centre_1 (j := 17) rfl rfl) (fl_X11_centre_1 (j := 18) rfl rfl) rfl
theorem dX11_centre_83 : decode cX11_centre 83 = .ok (.getfield 274, 3) := fq3_180 (fl_X11_centre_1 (j := 19) rfl rfl) (fl_X11_centre_1 (j := 20) rfl rfl) (fl_X11_centre_1 (j := 21) rfl rfl) rfl
theorem dX11_centre_86 : decode cX11_centre 86 = .ok (.iload 5, 2) := fq2_21 (fl_X11_centre_1 (j := 22) rfl rfl) (fl_X11_centre_1 (j := 23) rfl rfl) rfl
theorem dX11_centre_88 : decode cX11_centre 88 = .ok (.iaload, 1) := fq1_46 (fl_X11_centre_1 (j := 24) rfl rfl)
theorem dX11_centre_89 : decode cX11_centre 89 = .ok (.istore_n 3, 1) := fq1_62 (fl_X11_centre_1 (j := 25) rfl rfl)
theorem dX11_centre_90 : decode cX11_centre 90 = .ok (.iload 4, 2) := fq2_21 (fl_X11_centre_1 (j := 26) rfl rfl) (fl_X11_centre_1 (j := 27) rfl rfl) rfl
theorem dX11_centre_92 : decode cX11_centre 92 = .ok (.istore_n 2, 1) := fq1_61 (fl_X11_centre_1 (j := 28) rfl rfl)
theorem dX11_centre_93 : decode cX11_centre 93 = .ok (.iinc 4 1, 3) := fq3_132 (fl_X11_centre_1 (j := 29) rfl rfl) (fl_X11_centre_1 (j := 30) rfl rfl) (fl_X11_centre_1 (j := 31) rfl rfl) rfl (s1p rfl (bl rfl))
theorem dX11_centre_96 : decode cX11_centre 96 = .ok (.goto (-76), 3) := fq3_167 (fl_X11_centre_1 (j := 32) rfl rfl) (fl_X11_centre_1 (j := 33) rfl rfl) (fl_X11_centre_1 (j := 34) rfl rfl) (by decide)
theorem dX11_centre_99 : decode cX11_centre 99 = .ok (.aload_n 0, 1) := fq1_42 (fl_X11_centre_1 (j := 35) rfl rfl)
theorem dX11_centre_100 : decode cX11_centre 100 = .ok (.iload_n 2, 1) := fq1_28 (fl_X11_centre_1 (j := 36) rfl rfl)
theorem dX11_centre_101 : decode cX11_centre 101 = .ok (.invokevirtual 251, 3) := fq3_182 (fl_X11_centre_1 (j := 37) rfl rfl) (fl_X11_centre_1 (j := 38) rfl rfl) (fl_X11_centre_1 (j := 39) rfl rfl) rfl
theorem dX11_centre_104 : decode cX11_centre 104 = .ok (.ireturn, 1) := fq1_172 (fl_X11_centre_1 (j := 40) rfl rfl)
def fb_X11_cutOff_0 : List UInt8 := [0x2a, 0x1b, 0x1c, 0xb6, 0x01, 0x0c, 0x9a, 0x00, 0x09, 0x2a, 0x04, 0xb6, 0x00, 0x7e, 0xac, 0x2a, 0xb4, 0x00, 0x46, 0x1b, 0x1c, 0xb6, 0x01, 0x0f, 0x03, 0x3e, 0x03, 0x36, 0x04, 0x15, 0x04, 0x2a, 0xb4, 0x00, 0x12, 0xb4, 0x00, 0x36, 0xb4, 0x00, 0xa9, 0xa2, 0x00, 0x1e, 0x2a, 0xb4, 0x00, 0x46, 0xb4, 0x01, 0x12, 0x15, 0x04, 0x2e, 0x02, 0xa0, 0x00, 0x0a, 0x1d, 0x04, 0x15, 0x04, 0x78, 0x80]
theorem fl_X11_cutOff_0 {p j : Nat} {b : UInt8} (e : p = 0 + j) (h : fb_X11_cutOff_0[j]? = some b) : cX11_cutOff.data.toList[p]? = some b := fq_l (n := 64) (show (cX11_cutOff.data.toList.drop 0).take 64 = fb_X11_cutOff_0 by decide +kernel) e h
theorem dX11_cutOff_0 : decode cX11_cutOff 0 = .ok (.aload_n 0, 1) := fq1_42 (fl_X11_cutOff_0 (j := 0) rfl rfl)
theorem dX11_cutOff_1 : decode cX11_cutOff 1 = .ok (.iload_n 1, 1) := fq1_27 (fl_X11_cutOff_0 (j := 1) rfl rfl)
theorem dX11_cutOff_2 : decode cX11_cutOff 2 = .ok (.iload_n 2, 1) := fq1_28 (fl_X11_cutOff_0 (j := 2) rfl rfl)
theorem dX11_cutOff_3 : decode cX11_cutOff 3 = .ok (.invokevirtual 268, 3) := fq3_182 (fl_X11_cutOff_0 (j := 3) rfl rfl) (fl_X11_cutOff_0 (j := 4) rfl rfl) (fl_X11_cutOff_0 (j := 5) rfl rfl) rfl
theorem dX11_cutOff_6 : decode cX11_cutOff 6 = .ok (.ifCond .ne 9, 3) := fq3_154 (fl_X11_cutOff_0 (j := 6) rfl rfl) (fl_X11_cutOff_0 (j := 7) rfl rfl) (fl_X11_cutOff_0 (j := 8) rfl rfl) (s2p rfl (bl rfl))
theorem dX11_cutOff_9 : decode cX11_cutOff 9 = .ok (.aload_n 0, 1) := fq1_42 (fl_X11_cutOff_0 (j := 9) rfl rfl)
theorem dX11_cutOff_10 : decode cX11_cutOff 10 = .ok (.iconst 1, 1) := fq1_4 (fl_X11_cutOff_0 (j := 10) rfl rfl)
theorem dX11_cutOff_11 : decode cX11_cutOff 11 = .ok (.invokevirtual 126, 3) := fq3_182 (fl_X11_cutOff_0 (j := 11) rfl rfl) (fl_X11_cutOff_0 (j := 12) rfl rfl) (fl_X11_cutOff_0 (j := 13) rfl rfl) rfl
theorem dX11_cutOff_14 : decode cX11_cutOff 14 = .ok (.ireturn, 1) := fq1_172 (fl_X11_cutOff_0 (j := 14) rfl rfl)
theorem dX11_cutOff_15 : decode cX11_cutOff 15 = .ok (.aload_n 0, 1) := fq1_42 (fl_X11_cutOff_0 (j := 15) rfl rfl)
theorem dX11_cutOff_16 : decode cX11_cutOff 16 = .ok (.getfield 70, 3) := fq3_180 (fl_X11_cutOff_0 (j := 16) rfl rfl) (fl_X11_cutOff_0 (j := 17) rfl rfl) (fl_X11_cutOff_0 (j := 18) rfl rfl) rfl
theorem dX11_cutOff_19 : decode cX11_cutOff 19 = .ok (.iload_n 1, 1) := fq1_27 (fl_X11_cutOff_0 (j := 19) rfl rfl)
theorem dX11_cutOff_20 : decode cX11_cutOff 20 = .ok (.iload_n 2, 1) := fq1_28 (fl_X11_cutOff_0 (j := 20) rfl rfl)
theorem dX11_cutOff_21 : decode cX11_cutOff 21 = .ok (.invokevirtual 271, 3) := fq3_182 (fl_X11_cutOff_0 (j := 21) rfl rfl) (fl_X11_cutOff_0 (j := 22) rfl rfl) (fl_X11_cutOff_0 (j := 23) rfl rfl) rfl
theorem dX11_cutOff_24 : decode cX11_cutOff 24 = .ok (.iconst 0, 1) := fq1_3 (fl_X11_cutOff_0 (j := 24) rfl rfl)
theorem dX11_cutOff_25 : decode cX11_cutOff 25 = .ok (.istore_n 3, 1) := fq1_62 (fl_X11_cutOff_0 (j := 25) rfl rfl)
theorem dX11_cutOff_26 : decode cX11_cutOff 26 = .ok (.iconst 0, 1) := fq1_3 (fl_X11_cutOff_0 (j := 26) rfl rfl)
theorem dX11_cutOff_27 : decode cX11_cutOff 27 = .ok (.istore 4, 2) := fq2_54 (fl_X11_cutOff_0 (j := 27) rfl rfl) (fl_X11_cutOff_0 (j := 28) rfl rfl) rfl
theorem dX11_cutOff_29 : decode cX11_cutOff 29 = .ok (.iload 4, 2) := fq2_21 (fl_X11_cutOff_0 (j := 29) rfl rfl) (fl_X11_cutOff_0 (j := 30) rfl rfl) rfl
theorem dX11_cutOff_31 : decode cX11_cutOff 31 = .ok (.aload_n 0, 1) := fq1_42 (fl_X11_cutOff_0 (j := 31) rfl rfl)
theorem dX11_cutOff_32 : decode cX11_cutOff 32 = .ok (.getfield 18, 3) := fq3_180 (fl_X11_cutOff_0 (j := 32) rfl rfl) (fl_X11_cutOff_0 (j := 33) rfl rfl) (fl_X11_cutOff_0 (j := 34) rfl rfl) rfl
theorem dX11_cutOff_35 : decode cX11_cutOff 35 = .ok (.getfield 54, 3) := fq3_180 (fl_X11_cutOff_0 (j := 35) rfl rfl) (fl_X11_cutOff_0 (j := 36) rfl rfl) (fl_X11_cutOff_0 (j := 37) rfl rfl) rfl
theorem dX11_cutOff_38 : decode cX11_cutOff 38 = .ok (.getfield 169, 3) := fq3_180 (fl_X11_cutOff_0 (j := 38) rfl rfl) (fl_X11_cutOff_0 (j := 39) rfl rfl) (fl_X11_cutOff_0 (j := 40) rfl rfl) rfl
theorem dX11_cutOff_41 : decode cX11_cutOff 41 = .ok (.if_icmp .ge 30, 3) := fq3_162 (fl_X11_cutOff_0 (j := 41) rfl rfl) (fl_X11_cutOff_0 (j := 42) rfl rfl) (fl_X11_cutOff_0 (j := 43) rfl rfl) (s2p rfl (bl rfl))
theorem dX11_cutOff_44 : decode cX11_cutOff 44 = .ok (.aload_n 0, 1) := fq1_42 (fl_X11_cutOff_0 (j := 44) rfl rfl)
theorem dX11_cutOff_45 : decode cX11_cutOff 45 = .ok (.getfield 70, 3) := fq3_180 (fl_X11_cutOff_0 (j := 45) rfl rfl) (fl_X11_cutOff_0 (j := 46) rfl rfl) (fl_X11_cutOff_0 (j := 47) rfl rfl) rfl
theorem dX11_cutOff_48 : decode cX11_cutOff 48 = .ok (.getfield 274, 3) := fq3_180 (fl_X11_cutOff_0 (j := 48) rfl rfl) (fl_X11_cutOff_0 (j := 49) rfl rfl) (fl_X11_cutOff_0 (j := 50) rfl rfl) rfl
theorem dX11_cutOff_51 : decode cX11_cutOff 51 = .ok (.iload 4, 2) := fq2_21 (fl_X11_cutOff_0 (j := 51) rfl rfl) (fl_X11_cutOff_0 (j := 52) rfl rfl) rfl
theorem dX11_cutOff_53 : decode cX11_cutOff 53 = .ok (.iaload, 1) := fq1_46 (fl_X11_cutOff_0 (j := 53) rfl rfl)
theorem dX11_cutOff_54 : decode cX11_cutOff 54 = .ok (.iconst (-1), 1) := fq1_2 (fl_X11_cutOff_0 (j := 54) rfl rfl)
theorem dX11_cutOff_55 : decode cX11_cutOff 55 = .ok (.if_icmp .ne 10, 3) := fq3_160 (fl_X11_cutOff_0 (j := 55) rfl rfl) (fl_X11_cutOff_0 (j := 56) rfl rfl) (fl_X11_cutOff_0 (j := 57) rfl rfl) (s2p rfl (bl rfl))
theorem dX11_cutOff_58 : decode cX11_cutOff 58 = .ok (.iload_n 3, 1) := fq1_29 (fl_X11_cutOff_0 (j := 58) rfl rfl)
theorem dX11_cutOff_59 : decode cX11_cutOff 59 = .ok (.iconst 1, 1) := fq1_4 (fl_X11_cutOff_0 (j := 59) rfl rfl)
theorem dX11_cutOff_60 : decode cX11_cutOff 60 = .ok (.iload 4, 2) := fq2_21 (fl_X11_cutOff_0 (j := 60) rfl rfl) (fl_X11_cutOff_0 (j := 61) rfl rfl) rfl
theorem dX11_cutOff_62 : decode cX11_cutOff 62 = .ok (.ishl, 1) := fq1_120 (fl_X11_cutOff_0 (j := 62) rfl rfl)
theorem dX11_cutOff_63 : decode cX11_cutOff 63 = .ok (.ior, 1) := fq1_128 (fl_X11_cutOff_0 (j := 63) rfl rfl)
def fb_X11_cutOff_1 : List UInt8 := [0x3e, 0x84, 0x04, 0x01, 0xa7, 0xff, 0xd9, 0x2a, 0x1d, 0xb6, 0x00, 0xae, 0xac]
theorem fl_X11_cutOff_1 {p j : Nat} {b : UInt8} (e : p = 64 + j) (h : fb_X11_cutOff_1[j]? = some b) : cX11_cutOff.data.toList[p]? = some b := fq_l (n := 64) (show (cX11_cutOff.data.toList.drop 64).take 64 = fb_X11_cutOff_1 by decide +kernel) e h
theorem dX11_cutOff_64 : decode cX11_cutOff 64 = .ok (.istore_n 3, 1) := fq1_62 (fl_X11_cutOff_1 (j := 0) rfl rfl)
theorem dX11_cutOff_65 : decode cX11_cutOff 65 = .ok (.iinc 4 1, 3) := fq3_132 (fl_X11_cutOff_1 (j := 1) rfl rfl) (fl_X11_cutOff_1 (j := 2) rfl rfl) (fl_X11_cutOff_1 (j := 3) rfl rfl) rfl (s1p rfl (bl rfl))
theorem dX11_cutOff_68 : decode cX11_cutOff 68 = .ok (.goto (-39), 3) := fq3_167 (fl_X11_cutOff_1 (j := 4) rfl rfl) (fl_X11_cutOff_1 (j := 5) rfl rfl) (fl_X11_cutOff_1 (j := 6) rfl rfl) (by decide)
theorem dX11_cutOff_71 : decode cX11_cutOff 71 = .ok (.aload_n 0, 1) := fq1_42 (fl_X11_cutOff_1 (j := 7) rfl rfl)
theorem dX11_cutOff_72 : decode cX11_cutOff 72 = .ok (.iload_n 3, 1) := fq1_29 (fl_X11_cutOff_1 (j := 8) rfl rfl)
theorem dX11_cutOff_73 : decode cX11_cutOff 73 = .ok (.invokevirtual 174, 3) := fq3_182 (fl_X11_cutOff_1 (j := 9) rfl rfl) (fl_X11_cutOff_1 (j := 10) rfl rfl) (fl_X11_cutOff_1 (j := 11) rfl rfl) rfl
theorem dX11_cutOff_76 : decode cX11_cutOff 76 = .ok (.ireturn, 1) := fq1_172 (fl_X11_cutOff_1 (j := 12) rfl rfl)
def fb_X11_hearsBack_0 : List UInt8 := [0x2a, 0x1b, 0x1c, 0xb6, 0x01, 0x0c, 0x9a, 0x00, 0x09, 0x2a, 0x04, 0xb6, 0x00, 0x7e, 0xac, 0x2a, 0xb4, 0x00, 0x46, 0x1b, 0x1c, 0xb6, 0x01, 0x0f, 0x02, 0x3e, 0x03, 0x36, 0x04, 0x15, 0x04, 0x2a, 0xb4, 0x00, 0x12, 0xb4, 0x00, 0x36, 0xb4, 0x00, 0xa9, 0xa2, 0x00, 0x3d, 0x15, 0x04, 0x1b, 0xa0, 0x00, 0x07, 0x02, 0xa7, 0x00, 0x17, 0x2a, 0xb4, 0x00, 0x3d, 0x15, 0x04, 0x2a, 0xb4, 0x00, 0x46]
theorem fl_X11_hearsBack_0 {p j : Nat} {b : UInt8} (e : p = 0 + j) (h : fb_X11_hearsBack_0[j]? = some b) : cX11_hearsBack.data.toList[p]? = some b := fq_l (n := 64) (show (cX11_hearsBack.data.toList.drop 0).take 64 = fb_X11_hearsBack_0 by decide +kernel) e h
theorem dX11_hearsBack_0 : decode cX11_hearsBack 0 = .ok (.aload_n 0, 1) := fq1_42 (fl_X11_hearsBack_0 (j := 0) rfl rfl)
theorem dX11_hearsBack_1 : decode cX11_hearsBack 1 = .ok (.iload_n 1, 1) := fq1_27 (fl_X11_hearsBack_0 (j := 1) rfl rfl)
theorem dX11_hearsBack_2 : decode cX11_hearsBack 2 = .ok (.iload_n 2, 1) := fq1_28 (fl_X11_hearsBack_0 (j := 2) rfl rfl)
theorem dX11_hearsBack_3 : decode cX11_hearsBack 3 = .ok (.invokevirtual 268, 3) := fq3_182 (fl_X11_hearsBack_0 (j := 3) rfl rfl) (fl_X11_hearsBack_0 (j := 4) rfl rfl) (fl_X11_hearsBack_0 (j := 5) rfl rfl) rfl
theorem dX11_hearsBack_6 : decode cX11_hearsBack 6 = .ok (.ifCond .ne 9, 3) := fq3_154 (fl_X11_hearsBack_0 (j := 6) rfl rfl) (fl_X11_hearsBack_0 (j := 7) rfl rfl) (fl_X11_hearsBack_0 (j := 8) rfl rfl) (s2p rfl (bl rfl))
theorem dX11_hearsBack_9 : decode cX11_hearsBack 9 = .ok (.aload_n 0, 1) := fq1_42 (fl_X11_hearsBack_0 (j := 9) rfl rfl)
theorem dX11_hearsBack_10 : decode cX11_hearsBack 10 = .ok (.iconst 1, 1) := fq1_4 (fl_X11_hearsBack_0 (j := 10) rfl rfl)
theorem dX11_hearsBack_11 : decode cX11_hearsBack 11 = .ok (.invokevirtual 126, 3) := fq3_182 (fl_X11_hearsBack_0 (j := 11) rfl rfl) (fl_X11_hearsBack_0 (j := 12) rfl rfl) (fl_X11_hearsBack_0 (j := 13) rfl rfl) rfl
theorem dX11_hearsBack_14 : decode cX11_hearsBack 14 = .ok (.ireturn, 1) := fq1_172 (fl_X11_hearsBack_0 (j := 14) rfl rfl)
theorem dX11_hearsBack_15 : decode cX11_hearsBack 15 = .ok (.aload_n 0, 1) := fq1_42 (fl_X11_hearsBack_0 (j := 15) rfl rfl)
theorem dX11_hearsBack_16 : decode cX11_hearsBack 16 = .ok (.getfield 70, 3) := fq3_180 (fl_X11_hearsBack_0 (j := 16) rfl rfl) (fl_X11_hearsBack_0 (j := 17) rfl rfl) (fl_X11_hearsBack_0 (j := 18) rfl rfl) rfl
theorem dX11_hearsBack_19 : decode cX11_hearsBack 19 = .ok (.iload_n 1, 1) := fq1_27 (fl_X11_hearsBack_0 (j := 19) rfl rfl)
theorem dX11_hearsBack_20 : decode cX11_hearsBack 20 = .ok (.iload_n 2, 1) := fq1_28 (fl_X11_hearsBack_0 (j := 20) rfl rfl)
theorem dX11_hearsBack_21 : decode cX11_hearsBack 21 = .ok (.invokevirtual 271, 3) := fq3_182 (fl_X11_hearsBack_0 (j := 21) rfl rfl) (fl_X11_hearsBack_0 (j := 22) rfl rfl) (fl_X11_hearsBack_0 (j := 23) rfl rfl) rfl
theorem dX11_hearsBack_24 : decode cX11_hearsBack 24 = .ok (.iconst (-1), 1) := fq1_2 (fl_X11_hearsBack_0 (j := 24) rfl rfl)
theorem dX11_hearsBack_25 : decode cX11_hearsBack 25 = .ok (.istore_n 3, 1) := fq1_62 (fl_X11_hearsBack_0 (j := 25) rfl rfl)
theorem dX11_hearsBack_26 : decode cX11_hearsBack 26 = .ok (.iconst 0, 1) := fq1_3 (fl_X11_hearsBack_0 (j := 26) rfl rfl)
theorem dX11_hearsBack_27 : decode cX11_hearsBack 27 = .ok (.istore 4, 2) := fq2_54 (fl_X11_hearsBack_0 (j := 27) rfl rfl) (fl_X11_hearsBack_0 (j := 28) rfl rfl) rfl
theorem dX11_hearsBack_29 : decode cX11_hearsBack 29 = .ok (.iload 4, 2) := fq2_21 (fl_X11_hearsBack_0 (j := 29) rfl rfl) (fl_X11_hearsBack_0 (j := 30) rfl rfl) rfl
theorem dX11_hearsBack_31 : decode cX11_hearsBack 31 = .ok (.aload_n 0, 1) := fq1_42 (fl_X11_hearsBack_0 (j := 31) rfl rfl)
theorem dX11_hearsBack_32 : decode cX11_hearsBack 32 = .ok (.getfield 18, 3) := fq3_180 (fl_X11_hearsBack_0 (j := 32) rfl rfl) (fl_X11_hearsBack_0 (j := 33) rfl rfl) (fl_X11_hearsBack_0 (j := 34) rfl rfl) rfl
theorem dX11_hearsBack_35 : decode cX11_hearsBack 35 = .ok (.getfield 54, 3) := fq3_180 (fl_X11_hearsBack_0 (j := 35) rfl rfl) (fl_X11_hearsBack_0 (j := 36) rfl rfl) (fl_X11_hearsBack_0 (j := 37) rfl rfl) rfl
theorem dX11_hearsBack_38 : decode cX11_hearsBack 38 = .ok (.getfield 169, 3) := fq3_180 (fl_X11_hearsBack_0 (j := 38) rfl rfl) (fl_X11_hearsBack_0 (j := 39) rfl rfl) (fl_X11_hearsBack_0 (j := 40) rfl rfl) rfl
theorem dX11_hearsBack_41 : decode cX11_hearsBack 41 = .ok (.if_icmp .ge 61, 3) := fq3_162 (fl_X11_hearsBack_0 (j := 41) rfl rfl) (fl_X11_hearsBack_0 (j := 42) rfl rfl) (fl_X11_hearsBack_0 (j := 43) rfl rfl) (s2p rfl (bl rfl))
theorem dX11_hearsBack_44 : decode cX11_hearsBack 44 = .ok (.iload 4, 2) := fq2_21 (fl_X11_hearsBack_0 (j := 44) rfl rfl) (fl_X11_hearsBack_0 (j := 45) rfl rfl) rfl
theorem dX11_hearsBack_46 : decode cX11_hearsBack 46 = .ok (.iload_n 1, 1) := fq1_27 (fl_X11_hearsBack_0 (j := 46) rfl rfl)
theorem dX11_hearsBack_47 : decode cX11_hearsBack 47 = .ok (.if_icmp .ne 7, 3) := fq3_160 (fl_X11_hearsBack_0 (j := 47) rfl rfl) (fl_X11_hearsBack_0 (j := 48) rfl rfl) (fl_X11_hearsBack_0 (j := 49) rfl rfl) (s2p rfl (bl rfl))
theorem dX11_hearsBack_50 : decode cX11_hearsBack 50 = .ok (.iconst (-1), 1) := fq1_2 (fl_X11_hearsBack_0 (j := 50) rfl rfl)
theorem dX11_hearsBack_51 : decode cX11_hearsBack 51 = .ok (.goto 23, 3) := fq3_167 (fl_X11_hearsBack_0 (j := 51) rfl rfl) (fl_X11_hearsBack_0 (j := 52) rfl rfl) (fl_X11_hearsBack_0 (j := 53) rfl rfl) (s2p rfl (bl rfl))
theorem dX11_hearsBack_54 : decode cX11_hearsBack 54 = .ok (.aload_n 0, 1) := fq1_42 (fl_X11_hearsBack_0 (j := 54) rfl rfl)
theorem dX11_hearsBack_55 : decode cX11_hearsBack 55 = .ok (.getfield 61, 3) := fq3_180 (fl_X11_hearsBack_0 (j := 55) rfl rfl) (fl_X11_hearsBack_0 (j := 56) rfl rfl) (fl_X11_hearsBack_0 (j := 57) rfl rfl) rfl
theorem dX11_hearsBack_58 : decode cX11_hearsBack 58 = .ok (.iload 4, 2) := fq2_21 (fl_X11_hearsBack_0 (j := 58) rfl rfl) (fl_X11_hearsBack_0 (j := 59) rfl rfl) rfl
theorem dX11_hearsBack_60 : decode cX11_hearsBack 60 = .ok (.aload_n 0, 1) := fq1_42 (fl_X11_hearsBack_0 (j := 60) rfl rfl)
theorem dX11_hearsBack_61 : decode cX11_hearsBack 61 = .ok (.getfield 70, 3) := fq3_180 (fl_X11_hearsBack_0 (j := 61) rfl rfl) (fl_X11_hearsBack_0 (j := 62) rfl rfl) (fl_X11_hearsBack_0 (j := 63) rfl rfl) rfl
def fb_X11_hearsBack_1 : List UInt8 := [0xb4, 0x01, 0x12, 0x15, 0x04, 0x2e, 0x1b, 0xb6, 0x00, 0xf7, 0x36, 0x05, 0x15, 0x05, 0x02, 0x9f, 0x00, 0x11, 0x1d, 0x02, 0x9f, 0x00, 0x09, 0x15, 0x05, 0x1d, 0xa2, 0x00, 0x06, 0x15, 0x05, 0x3e, 0x84, 0x04, 0x01, 0xa7, 0xff, 0xba, 0x2a, 0x1d, 0xb6, 0x00, 0xfb, 0xac]
theorem fl_X11_hearsBack_1 {p j : Nat} {b : UInt8} (e : p = 64 + j) (h : fb_X11_hearsBack_1[j]? = some b) : cX11_hearsBack.data.toList[p]? = some b := fq_l (n := 64) (show (cX11_hearsBack.data.toList.drop 64).take 64 = fb_X11_hearsBack_1 by decide +kernel) e h
theorem dX11_hearsBack_64 : decode cX11_hearsBack 64 = .ok (.getfield 274, 3) := fq3_180 (fl_X11_hearsBack_1 (j := 0) rfl rfl) (fl_X11_hearsBack_1 (j := 1) rfl rfl) (fl_X11_hearsBack_1 (j := 2) rfl rfl) rfl
theorem dX11_hearsBack_67 : decode cX11_hearsBack 67 = .ok (.iload 4, 2) := fq2_21 (fl_X11_hearsBack_1 (j := 3) rfl rfl) (fl_X11_hearsBack_1 (j := 4) rfl rfl) rfl
theorem dX11_hearsBack_69 : decode cX11_hearsBack 69 = .ok (.iaload, 1) := fq1_46 (fl_X11_hearsBack_1 (j := 5) rfl rfl)
theorem dX11_hearsBack_70 : decode cX11_hearsBack 70 = .ok (.iload_n 1, 1) := fq1_27 (fl_X11_hearsBack_1 (j := 6) rfl rfl)
theorem dX11_hearsBack_71 : decode cX11_hearsBack 71 = .ok (.invokevirtual 247, 3) := fq3_182 (fl_X11_hearsBack_1 (j := 7) rfl rfl) (fl_X11_hearsBack_1 (j := 8) rfl rfl) (fl_X11_hearsBack_1 (j := 9) rfl rfl) rfl
theorem dX11_hearsBack_74 : decode cX11_hearsBack 74 = .ok (.istore 5, 2) := fq2_54 (fl_X11_hearsBack_1 (j := 10) rfl rfl) (fl_X11_hearsBack_1 (j := 11) rfl rfl) rfl
theorem dX11_hearsBack_76 : decode cX11_hearsBack 76 = .ok (.iload 5, 2) := fq2_21 (fl_X11_hearsBack_1 (j := 12) rfl rfl) (fl_X11_hearsBack_1 (j := 13) rfl rfl) rfl
theorem dX11_hearsBack_78 : decode cX11_hearsBack 78 = .ok (.iconst (-1), 1) := fq1_2 (fl_X11_hearsBack_1 (j := 14) rfl rfl)
theorem dX11_hearsBack_79 : decode cX11_hearsBack 79 = .ok (.if_icmp .eq 17, 3) := fq3_159 (fl_X11_hearsBack_1 (j := 15) rfl rfl) (fl_X11_hearsBack_1 (j := 16) rfl rfl) (fl_X11_hearsBack_1 (j := 17) rfl rfl) (s2p rfl (bl rfl))
theorem dX11_hearsBack_82 : decode cX11_hearsBack 82 = .ok (.iload_n 3, 1) := fq1_29 (fl_X11_hearsBack_1 (j := 18) rfl rfl)
theorem dX11_hearsBack_83 : decode cX11_hearsBack 83 = .ok (.iconst (-1), 1) := fq1_2 (fl_X11_hearsBack_1 (j := 19) rfl rfl)
theorem dX11_hearsBack_84 : decode cX11_hearsBack 84 = .ok (.if_icmp .eq 9, 3) := fq3_159 (fl_X11_hearsBack_1 (j := 20) rfl rfl) (fl_X11_hearsBack_1 (j := 21) rfl rfl) (fl_X11_hearsBack_1 (j := 22) rfl rfl) (s2p rfl (bl rfl))
theorem dX11_hearsBack_87 : decode cX11_hearsBack 87 = .ok (.iload 5, 2) := fq2_21 (fl_X11_hearsBack_1 (j := 23) rfl rfl) (fl_X11_hearsBack_1 (j := 24) rfl rfl) rfl
theorem dX11_hearsBack_89 : decode cX11_hearsBack 89 = .ok (.iload_n 3, 1) := fq1_29 (fl_X11_hearsBack_1 (j := 25) rfl rfl)
theorem dX11_hearsBack_90 : decode cX11_hearsBack 90 = .ok (.if_icmp .ge 6, 3) := fq3_162 (fl_X11_hearsBack_1 (j := 26) rfl rfl) (fl_X11_hearsBack_1 (j := 27) rfl rfl) (fl_X11_hearsBack_1 (j := 28) rfl rfl) (s2p rfl (bl rfl))
theorem dX11_hearsBack_93 : decode cX11_hearsBack 93 = .ok (.iload 5, 2) := fq2_21 (fl_X11_hearsBack_1 (j := 29) rfl rfl) (fl_X11_hearsBack_1 (j := 30) rfl rfl) rfl
theorem dX11_hearsBack_95 : decode cX11_hearsBack 95 = .ok (.istore_n 3, 1) := fq1_62 (fl_X11_hearsBack_1 (j := 31) rfl rfl)
theorem dX11_hearsBack_96 : decode cX11_hearsBack 96 = .ok (.iinc 4 1, 3) := fq3_132 (fl_X11_hearsBack_1 (j := 32) rfl rfl) (fl_X11_hearsBack_1 (j := 33) rfl rfl) (fl_X11_hearsBack_1 (j := 34) rfl rfl) rfl (s1p rfl (bl rfl))
theorem dX11_hearsBack_99 : decode cX11_hearsBack 99 = .ok (.goto (-70), 3) := fq3_167 (fl_X11_hearsBack_1 (j := 35) rfl rfl) (fl_X11_hearsBack_1 (j := 36) rfl rfl) (fl_X11_hearsBack_1 (j := 37) rfl rfl) (by decide)
theorem dX11_hearsBack_102 : decode cX11_hearsBack 102 = .ok (.aload_n 0, 1) := fq1_42 (fl_X11_hearsBack_1 (j := 38) rfl rfl)
theorem dX11_hearsBack_103 : decode cX11_hearsBack 103 = .ok (.iload_n 3, 1) := fq1_29 (fl_X11_hearsBack_1 (j := 39) rfl rfl)
theorem dX11_hearsBack_104 : decode cX11_hearsBack 104 = .ok (.invokevirtual 251, 3) := fq3_182 (fl_X11_hearsBack_1 (j := 40) rfl rfl) (fl_X11_hearsBack_1 (j := 41) rfl rfl) (fl_X11_hearsBack_1 (j := 42) rfl rfl) rfl
theorem dX11_hearsBack_107 : decode cX11_hearsBack 107 = .ok (.ireturn, 1) := fq1_172 (fl_X11_hearsBack_1 (j := 43) rfl rfl)
def fb_X11_knowing_0 : List UInt8 := [0x2a, 0x1b, 0x1c, 0xb6, 0x01, 0x0c, 0x99, 0x00, 0x0d, 0x1d, 0x11, 0x01, 0xf4, 0xb8, 0x00, 0x67, 0x9a, 0x00, 0x09, 0x2a, 0x04, 0xb6, 0x00, 0x7e, 0xac, 0x2a, 0xb4, 0x00, 0x46, 0x1b, 0x1c, 0xb6, 0x01, 0x0f, 0x03, 0x36, 0x04, 0x03, 0x36, 0x05, 0x15, 0x05, 0x2a, 0xb4, 0x00, 0x12, 0xb4, 0x00, 0x36, 0xb4, 0x00, 0xa9, 0xa2, 0x00, 0x2e, 0x2a, 0xb4, 0x00, 0x46, 0xb4, 0x01, 0x12, 0x15, 0x05]
theorem fl_X11_knowing_0 {p j : Nat} {b : UInt8} (e : p = 0 + j) (h : fb_X11_knowing_0[j]? = some b) : cX11_knowing.data.toList[p]? = some b := fq_l (n := 64) (show (cX11_knowing.data.toList.drop 0).take 64 = fb_X11_knowing_0 by decide +kernel) e h
theorem dX11_knowing_0 : decode cX11_knowing 0 = .ok (.aload_n 0, 1) := fq1_42 (fl_X11_knowing_0 (j := 0) rfl rfl)
theorem dX11_knowing_1 : decode cX11_knowing 1 = .ok (.iload_n 1, 1) := fq1_27 (fl_X11_knowing_0 (j := 1) rfl rfl)
theorem dX11_knowing_2 : decode cX11_knowing 2 = .ok (.iload_n 2, 1) := fq1_28 (fl_X11_knowing_0 (j := 2) rfl rfl)
theorem dX11_knowing_3 : decode cX11_knowing 3 = .ok (.invokevirtual 268, 3) := fq3_182 (fl_X11_knowing_0 (j := 3) rfl rfl) (fl_X11_knowing_0 (j := 4) rfl rfl) (fl_X11_knowing_0 (j := 5) rfl rfl) rfl
theorem dX11_knowing_6 : decode cX11_knowing 6 = .ok (.ifCond .eq 13, 3) := fq3_153 (fl_X11_knowing_0 (j := 6) rfl rfl) (fl_X11_knowing_0 (j := 7) rfl rfl) (fl_X11_knowing_0 (j := 8) rfl rfl) (s2p rfl (bl rfl))
theorem dX11_knowing_9 : decode cX11_knowing 9 = .ok (.iload_n 3, 1) := fq1_29 (fl_X11_knowing_0 (j := 9) rfl rfl)
theorem dX11_knowing_10 : decode cX11_knowing 10 = .ok (.sipush 500, 3) := fq3_17 (fl_X11_knowing_0 (j := 10) rfl rfl) (fl_X11_knowing_0 (j := 11) rfl rfl) (fl_X11_knowing_0 (j := 12) rfl rfl) (s2p rfl (bl rfl))
theorem dX11_knowing_13 : decode cX11_knowing 13 = .ok (.invokestatic 103, 3) := fq3_184 (fl_X11_knowing_0 (j := 13) rfl rfl) (fl_X11_knowing_0 (j := 14) rfl rfl) (fl_X11_knowing_0 (j := 15) rfl rfl) rfl
theorem dX11_knowing_16 : decode cX11_knowing 16 = .ok (.ifCond .ne 9, 3) := fq3_154 (fl_X11_knowing_0 (j := 16) rfl rfl) (fl_X11_knowing_0 (j := 17) rfl rfl) (fl_X11_knowing_0 (j := 18) rfl rfl) (s2p rfl (bl rfl))
theorem dX11_knowing_19 : decode cX11_knowing 19 = .ok (.aload_n 0, 1) := fq1_42 (fl_X11_knowing_0 (j := 19) rfl rfl)
theorem dX11_knowing_20 : decode cX11_knowing 20 = .ok (.iconst 1, 1) := fq1_4 (fl_X11_knowing_0 (j := 20) rfl rfl)
theorem dX11_knowing_21 : decode cX11_knowing 21 = .ok (.invokevirtual 126, 3) := fq3_182 (fl_X11_knowing_0 (j := 21) rfl rfl) (fl_X11_knowing_0 (j := 22) rfl rfl) (fl_X11_knowing_0 (j := 23) rfl rfl) rfl
theorem dX11_knowing_24 : decode cX11_knowing 24 = .ok (.ireturn, 1) := fq1_172 (fl_X11_knowing_0 (j := 24) rfl rfl)
theorem dX11_knowing_25 : decode cX11_knowing 25 = .ok (.aload_n 0, 1) := fq1_42 (fl_X11_knowing_0 (j := 25) rfl rfl)
theorem dX11_knowing_26 : decode cX11_knowing 26 = .ok (.getfield 70, 3) := fq3_180 (fl_X11_knowing_0 (j := 26) rfl rfl) (fl_X11_knowing_0 (j := 27) rfl rfl) (fl_X11_knowing_0 (j := 28) rfl rfl) rfl
theorem dX11_knowing_29 : decode cX11_knowing 29 = .ok (.iload_n 1, 1) := fq1_27 (fl_X11_knowing_0 (j := 29) rfl rfl)
theorem dX11_knowing_30 : decode cX11_knowing 30 = .ok (.iload_n 2, 1) := fq1_28 (fl_X11_knowing_0 (j := 30) rfl rfl)
theorem dX11_knowing_31 : decode cX11_knowing 31 = .ok (.invokevirtual 271, 3) := fq3_182 (fl_X11_knowing_0 (j := 31) rfl rfl) (fl_X11_knowing_0 (j := 32) rfl rfl) (fl_X11_knowing_0 (j := 33) rfl rfl) rfl
theorem dX11_knowing_34 : decode cX11_knowing 34 = .ok (.iconst 0, 1) := fq1_3 (fl_X11_knowing_0 (j := 34) rfl rfl)
theorem dX11_knowing_35 : decode cX11_knowing 35 = .ok (.istore 4, 2) := fq2_54 (fl_X11_knowing_0 (j := 35) rfl rfl) (fl_X11_knowing_0 (j := 36) rfl rfl) rfl
theorem dX11_knowing_37 : decode cX11_knowing 37 = .ok (.iconst 0, 1) := fq1_3 (fl_X11_knowing_0 (j := 37) rfl rfl)
theorem dX11_knowing_38 : decode cX11_knowing 38 = .ok (.istore 5, 2) := fq2_54 (fl_X11_knowing_0 (j := 38) rfl rfl) (fl_X11_knowing_0 (j := 39) rfl rfl) rfl
theorem dX11_knowing_40 : decode cX11_knowing 40 = .ok (.iload 5, 2) := fq2_21 (fl_X11_knowing_0 (j := 40) rfl rfl) (fl_X11_knowing_0 (j := 41) rfl rfl) rfl
theorem dX11_knowing_42 : decode cX11_knowing 42 = .ok (.aload_n 0, 1) := fq1_42 (fl_X11_knowing_0 (j := 42) rfl rfl)
theorem dX11_knowing_43 : decode cX11_knowing 43 = .ok (.getfield 18, 3) := fq3_180 (fl_X11_knowing_0 (j := 43) rfl rfl) (fl_X11_knowing_0 (j := 44) rfl rfl) (fl_X11_knowing_0 (j := 45) rfl rfl) rfl
theorem dX11_knowing_46 : decode cX11_knowing 46 = .ok (.getfield 54, 3) := fq3_180 (fl_X11_knowing_0 (j := 46) rfl rfl) (fl_X11_knowing_0 (j := 47) rfl rfl) (fl_X11_knowing_0 (j := 48) rfl rfl) rfl
theorem dX11_knowing_49 : decode cX11_knowing 49 = .ok (.getfield 169, 3) := fq3_180 (fl_X11_knowing_0 (j := 49) rfl rfl) (fl_X11_knowing_0 (j := 50) rfl rfl) (fl_X11_knowing_0 (j := 51) rfl rfl) rfl
theorem dX11_knowing_52 : decode cX11_knowing 52 = .ok (.if_icmp .ge 46, 3) := fq3_162 (fl_X11_knowing_0 (j := 52) rfl rfl) (fl_X11_knowing_0 (j := 53) rfl rfl) (fl_X11_knowing_0 (j := 54) rfl rfl) (s2p rfl (bl rfl))
theorem dX11_knowing_55 : decode cX11_knowing 55 = .ok (.aload_n 0, 1) := fq1_42 (fl_X11_knowing_0 (j := 55) rfl rfl)
theorem dX11_knowing_56 : decode cX11_knowing 56 = .ok (.getfield 70, 3) := fq3_180 (fl_X11_knowing_0 (j := 56) rfl rfl) (fl_X11_knowing_0 (j := 57) rfl rfl) (fl_X11_knowing_0 (j := 58) rfl rfl) rfl
theorem dX11_knowing_59 : decode cX11_knowing 59 = .ok (.getfield 274, 3) := fq3_180 (fl_X11_knowing_0 (j := 59) rfl rfl) (fl_X11_knowing_0 (j := 60) rfl rfl) (fl_X11_knowing_0 (j := 61) rfl rfl) rfl
theorem dX11_knowing_62 : decode cX11_knowing 62 = .ok (.iload 5, 2) := fq2_21 (fl_X11_knowing_0 (j := 62) rfl rfl) (fl_X11_knowing_0 (j := 63) rfl rfl) rfl
def fb_X11_knowing_1 : List UInt8 := [0x2e, 0x02, 0x9f, 0x00, 0x1a, 0x2a, 0xb4, 0x00, 0x46, 0xb4, 0x01, 0x12, 0x15, 0x05, 0x2e, 0x1d, 0xa3, 0x00, 0x0c, 0x15, 0x04, 0x04, 0x15, 0x05, 0x78, 0x80, 0x36, 0x04, 0x84, 0x05, 0x01, 0xa7, 0xff, 0xc9, 0x2a, 0x15, 0x04, 0xb6, 0x00, 0xae, 0xac]
theorem fl_X11_knowing_1 {p j : Nat} {b : UInt8} (e : p = 64 + j) (h : fb_X11_knowing_1[j]? = some b) : cX11_knowing.data.toList[p]? = some b := fq_l (n := 64) (show (cX11_knowing.data.toList.drop 64).take 64 = fb_X11_knowing_1 by decide +kernel) e h
theorem dX11_knowing_64 : decode cX11_knowing 64 = .ok (.iaload, 1) := fq1_46 (fl_X11_knowing_1 (j := 0) rfl rfl)
theorem dX11_knowing_65 : decode cX11_knowing 65 = .ok (.iconst (-1), 1) := fq1_2 (fl_X11_knowing_1 (j := 1) rfl rfl)
theorem dX11_knowing_66 : decode cX11_knowing 66 = .ok (.if_icmp .eq 26, 3) := fq3_159 (fl_X11_knowing_1 (j := 2) rfl rfl) (fl_X11_knowing_1 (j := 3) rfl rfl) (fl_X11_knowing_1 (j := 4) rfl rfl) (s2p rfl (bl rfl))
theorem dX11_knowing_69 : decode cX11_knowing 69 = .ok (.aload_n 0, 1) := fq1_42 (fl_X11_knowing_1 (j := 5) rfl rfl)
theorem dX11_knowing_70 : decode cX11_knowing 70 = .ok (.getfield 70, 3) := fq3_180 (fl_X11_knowing_1 (j := 6) rfl rfl) (fl_X11_knowing_1 (j := 7) rfl rfl) (fl_X11_knowing_1 (j := 8) rfl rfl) rfl
theorem dX11_knowing_73 : decode cX11_knowing 73 = .ok (.getfield 274, 3) := fq3_180 (fl_X11_knowing_1 (j := 9) rfl rfl) (fl_X11_knowing_1 (j := 10) rfl rfl) (fl_X11_knowing_1 (j := 11) rfl rfl) rfl
theorem dX11_knowing_76 : decode cX11_knowing 76 = .ok (.iload 5, 2) := fq2_21 (fl_X11_knowing_1 (j := 12) rfl rfl) (fl_X11_knowing_1 (j := 13) rfl rfl) rfl
theorem dX11_knowing_78 : decode cX11_knowing 78 = .ok (.iaload, 1) := fq1_46 (fl_X11_knowing_1 (j := 14) rfl rfl)
theorem dX11_knowing_79 : decode cX11_knowing 79 = .ok (.iload_n 3, 1) := fq1_29 (fl_X11_knowing_1 (j := 15) rfl rfl)
theorem dX11_knowing_80 : decode cX11_knowing 80 = .ok (.if_icmp .gt 12, 3) := fq3_163 (fl_X11_knowing_1 (j := 16) rfl rfl) (fl_X11_knowing_1 (j := 17) rfl rfl) (fl_X11_knowing_1 (j := 18) rfl rfl) (s2p rfl (bl rfl))
theorem dX11_knowing_83 : decode cX11_knowing 83 = .ok (.iload 4, 2) := fq2_21 (fl_X11_knowing_1 (j := 19) rfl rfl) (fl_X11_knowing_1 (j := 20) rfl rfl) rfl
theorem dX11_knowing_85 : decode cX11_knowing 85 = .ok (.iconst 1, 1) := fq1_4 (fl_X11_knowing_1 (j := 21) rfl rfl)
theorem dX11_knowing_86 : decode cX11_knowing 86 = .ok (.iload 5, 2) := fq2_21 (fl_X11_knowing_1 (j := 22) rfl rfl) (fl_X11_knowing_1 (j := 23) rfl rfl) rfl
theorem dX11_knowing_88 : decode cX11_knowing 88 = .ok (.ishl, 1) := fq1_120 (fl_X11_knowing_1 (j := 24) rfl rfl)
theorem dX11_knowing_89 : decode cX11_knowing 89 = .ok (.ior, 1) := fq1_128 (fl_X11_knowing_1 (j := 25) rfl rfl)
theorem dX11_knowing_90 : decode cX11_knowing 90 = .ok (.istore 4, 2) := fq2_54 (fl_X11_knowing_1 (j := 26) rfl rfl) (fl_X11_knowing_1 (j := 27) rfl rfl) rfl
theorem dX11_knowing_92 : decode cX11_knowing 92 = .ok (.iinc 5 1, 3) := fq3_132 (fl_X11_knowing_1 (j := 28) rfl rfl) (fl_X11_knowing_1 (j := 29) rfl rfl) (fl_X11_knowing_1 (j := 30) rfl rfl) rfl (s1p rfl (bl rfl))
theorem dX11_knowing_95 : decode cX11_knowing 95 = .ok (.goto (-55), 3) := fq3_167 (fl_X11_knowing_1 (j := 31) rfl rfl) (fl_X11_knowing_1 (j := 32) rfl rfl) (fl_X11_knowing_1 (j := 33) rfl rfl) (by decide)
theorem dX11_knowing_98 : decode cX11_knowing 98 = .ok (.aload_n 0, 1) := fq1_42 (fl_X11_knowing_1 (j := 34) rfl rfl)
theorem dX11_knowing_99 : decode cX11_knowing 99 = .ok (.iload 4, 2) := fq2_21 (fl_X11_knowing_1 (j := 35) rfl rfl) (fl_X11_knowing_1 (j := 36) rfl rfl) rfl
theorem dX11_knowing_101 : decode cX11_knowing 101 = .ok (.invokevirtual 174, 3) := fq3_182 (fl_X11_knowing_1 (j := 37) rfl rfl) (fl_X11_knowing_1 (j := 38) rfl rfl) (fl_X11_knowing_1 (j := 39) rfl rfl) rfl
theorem dX11_knowing_104 : decode cX11_knowing 104 = .ok (.ireturn, 1) := fq1_172 (fl_X11_knowing_1 (j := 40) rfl rfl)
def fb_X11_latest_0 : List UInt8 := [0x2a, 0x1b, 0x1c, 0xb6, 0x01, 0x0c, 0x9a, 0x00, 0x09, 0x2a, 0x04, 0xb6, 0x00, 0x7e, 0xac, 0x2a, 0xb4, 0x00, 0x46, 0x1b, 0x1c, 0xb6, 0x01, 0x0f, 0x2a, 0x2a, 0xb4, 0x00, 0x46, 0xb6, 0x01, 0x21, 0xb6, 0x00, 0xfb, 0xac]
theorem fl_X11_latest_0 {p j : Nat} {b : UInt8} (e : p = 0 + j) (h : fb_X11_latest_0[j]? = some b) : cX11_latest.data.toList[p]? = some b := fq_l (n := 64) (show (cX11_latest.data.toList.drop 0).take 64 = fb_X11_latest_0 by decide +kernel) e h
theorem dX11_latest_0 : decode cX11_latest 0 = .ok (.aload_n 0, 1) := fq1_42 (fl_X11_latest_0 (j := 0) rfl rfl)
theorem dX11_latest_1 : decode cX11_latest 1 = .ok (.iload_n 1, 1) := fq1_27 (fl_X11_latest_0 (j := 1) rfl rfl)
theorem dX11_latest_2 : decode cX11_latest 2 = .ok (.iload_n 2, 1) := fq1_28 (fl_X11_latest_0 (j := 2) rfl rfl)
theorem dX11_latest_3 : decode cX11_latest 3 = .ok (.invokevirtual 268, 3) := fq3_182 (fl_X11_latest_0 (j := 3) rfl rfl) (fl_X11_latest_0 (j := 4) rfl rfl) (fl_X11_latest_0 (j := 5) rfl rfl) rfl
theorem dX11_latest_6 : decode cX11_latest 6 = .ok (.ifCond .ne 9, 3) := fq3_154 (fl_X11_latest_0 (j := 6) rfl rfl) (fl_X11_latest_0 (j := 7) rfl rfl) (fl_X11_latest_0 (j := 8) rfl rfl) (s2p rfl (bl rfl))
theorem dX11_latest_9 : decode cX11_latest 9 = .ok (.aload_n 0, 1) := fq1_42 (fl_X11_latest_0 (j := 9) rfl rfl)
theorem dX11_latest_10 : decode cX11_latest 10 = .ok (.iconst 1, 1) := fq1_4 (fl_X11_latest_0 (j := 10) rfl rfl)
theorem dX11_latest_11 : decode cX11_latest 11 = .ok (.invokevirtual 126, 3) := fq3_182 (fl_X11_latest_0 (j := 11) rfl rfl) (fl_X11_latest_0 (j := 12) rfl rfl) (fl_X11_latest_0 (j := 13) rfl rfl) rfl
theorem dX11_latest_14 : decode cX11_latest 14 = .ok (.ireturn, 1) := fq1_172 (fl_X11_latest_0 (j := 14) rfl rfl)
theorem dX11_latest_15 : decode cX11_latest 15 = .ok (.aload_n 0, 1) := fq1_42 (fl_X11_latest_0 (j := 15) rfl rfl)
theorem dX11_latest_16 : decode cX11_latest 16 = .ok (.getfield 70, 3) := fq3_180 (fl_X11_latest_0 (j := 16) rfl rfl) (fl_X11_latest_0 (j := 17) rfl rfl) (fl_X11_latest_0 (j := 18) rfl rfl) rfl
theorem dX11_latest_19 : decode cX11_latest 19 = .ok (.iload_n 1, 1) := fq1_27 (fl_X11_latest_0 (j := 19) rfl rfl)
theorem dX11_latest_20 : decode cX11_latest 20 = .ok (.iload_n 2, 1) := fq1_28 (fl_X11_latest_0 (j := 20) rfl rfl)
theorem dX11_latest_21 : decode cX11_latest 21 = .ok (.invokevirtual 271, 3) := fq3_182 (fl_X11_latest_0 (j := 21) rfl rfl) (fl_X11_latest_0 (j := 22) rfl rfl) (fl_X11_latest_0 (j := 23) rfl rfl) rfl
theorem dX11_latest_24 : decode cX11_latest 24 = .ok (.aload_n 0, 1) := fq1_42 (fl_X11_latest_0 (j := 24) rfl rfl)
theorem dX11_latest_25 : decode cX11_latest 25 = .ok (.aload_n 0, 1) := fq1_42 (fl_X11_latest_0 (j := 25) rfl rfl)
theorem dX11_latest_26 : decode cX11_latest 26 = .ok (.getfield 70, 3) := fq3_180 (fl_X11_latest_0 (j := 26) rfl rfl) (fl_X11_latest_0 (j := 27) rfl rfl) (fl_X11_latest_0 (j := 28) rfl rfl) rfl
theorem dX11_latest_29 : decode cX11_latest 29 = .ok (.invokevirtual 289, 3) := fq3_182 (fl_X11_latest_0 (j := 29) rfl rfl) (fl_X11_latest_0 (j := 30) rfl rfl) (fl_X11_latest_0 (j := 31) rfl rfl) rfl
theorem dX11_latest_32 : decode cX11_latest 32 = .ok (.invokevirtual 251, 3) := fq3_182 (fl_X11_latest_0 (j := 32) rfl rfl) (fl_X11_latest_0 (j := 33) rfl rfl) (fl_X11_latest_0 (j := 34) rfl rfl) rfl
theorem dX11_latest_35 : decode cX11_latest 35 = .ok (.ireturn, 1) := fq1_172 (fl_X11_latest_0 (j := 35) rfl rfl)
def fb_X11_overtaken_0 : List UInt8 := [0x2a, 0x1b, 0x1c, 0xb6, 0x01, 0x0c, 0x9a, 0x00, 0x09, 0x2a, 0x04, 0xb6, 0x00, 0x7e, 0xac, 0x2a, 0xb4, 0x00, 0x46, 0x1b, 0x1c, 0xb6, 0x01, 0x0f, 0x03, 0x3e, 0x03, 0x36, 0x04, 0x15, 0x04, 0x2a, 0xb4, 0x00, 0x12, 0xb4, 0x00, 0x36, 0xb4, 0x00, 0xa9, 0xa2, 0x00, 0x40, 0x2a, 0xb4, 0x00, 0x3d, 0x1b, 0x1c, 0x15, 0x04, 0xb6, 0x00, 0xf7, 0x36, 0x05, 0x2a, 0xb4, 0x00, 0x46, 0xb4, 0x01, 0x12]
theorem fl_X11_overtaken_0 {p j : Nat} {b : UInt8} (e : p = 0 + j) (h : fb_X11_overtaken_0[j]? = some b) : cX11_overtaken.data.toList[p]? = some b := fq_l (n := 64) (show (cX11_overtaken.data.toList.drop 0).take 64 = fb_X11_overtaken_0 by decide +kernel) e h
theorem dX11_overtaken_0 : decode cX11_overtaken 0 = .ok (.aload_n 0, 1) := fq1_42 (fl_X11_overtaken_0 (j := 0) rfl rfl)
theorem dX11_overtaken_1 : decode cX11_overtaken 1 = .ok (.iload_n 1, 1) := fq1_27 (fl_X11_overtaken_0 (j := 1) rfl rfl)
theorem dX11_overtaken_2 : decode cX11_overtaken 2 = .ok (.iload_n 2, 1) := fq1_28 (fl_X11_overtaken_0 (j := 2) rfl rfl)
theorem dX11_overtaken_3 : decode cX11_overtaken 3 = .ok (.invokevirtual 268, 3) := fq3_182 (fl_X11_overtaken_0 (j := 3) rfl rfl) (fl_X11_overtaken_0 (j := 4) rfl rfl) (fl_X11_overtaken_0 (j := 5) rfl rfl) rfl
theorem dX11_overtaken_6 : decode cX11_overtaken 6 = .ok (.ifCond .ne 9, 3) := fq3_154 (fl_X11_overtaken_0 (j := 6) rfl rfl) (fl_X11_overtaken_0 (j := 7) rfl rfl) (fl_X11_overtaken_0 (j := 8) rfl rfl) (s2p rfl (bl rfl))
theorem dX11_overtaken_9 : decode cX11_overtaken 9 = .ok (.aload_n 0, 1) := fq1_42 (fl_X11_overtaken_0 (j := 9) rfl rfl)
theorem dX11_overtaken_10 : decode cX11_overtaken 10 = .ok (.iconst 1, 1) := fq1_4 (fl_X11_overtaken_0 (j := 10) rfl rfl)
theorem dX11_overtaken_11 : decode cX11_overtaken 11 = .ok (.invokevirtual 126, 3) := fq3_182 (fl_X11_overtaken_0 (j := 11) rfl rfl) (fl_X11_overtaken_0 (j := 12) rfl rfl) (fl_X11_overtaken_0 (j := 13) rfl rfl) rfl
theorem dX11_overtaken_14 : decode cX11_overtaken 14 = .ok (.ireturn, 1) := fq1_172 (fl_X11_overtaken_0 (j := 14) rfl rfl)
theorem dX11_overtaken_15 : decode cX11_overtaken 15 = .ok (.aload_n 0, 1) := fq1_42 (fl_X11_overtaken_0 (j := 15) rfl rfl)
theorem dX11_overtaken_16 : decode cX11_overtaken 16 = .ok (.getfield 70, 3) := fq3_180 (fl_X11_overtaken_0 (j := 16) rfl rfl) (fl_X11_overtaken_0 (j := 17) rfl rfl) (fl_X11_overtaken_0 (j := 18) rfl rfl) rfl
theorem dX11_overtaken_19 : decode cX11_overtaken 19 = .ok (.iload_n 1, 1) := fq1_27 (fl_X11_overtaken_0 (j := 19) rfl rfl)
theorem dX11_overtaken_20 : decode cX11_overtaken 20 = .ok (.iload_n 2, 1) := fq1_28 (fl_X11_overtaken_0 (j := 20) rfl rfl)
theorem dX11_overtaken_21 : decode cX11_overtaken 21 = .ok (.invokevirtual 271, 3) := fq3_182 (fl_X11_overtaken_0 (j := 21) rfl rfl) (fl_X11_overtaken_0 (j := 22) rfl rfl) (fl_X11_overtaken_0 (j := 23) rfl rfl) rfl
theorem dX11_overtaken_24 : decode cX11_overtaken 24 = .ok (.iconst 0, 1) := fq1_3 (fl_X11_overtaken_0 (j := 24) rfl rfl)
theorem dX11_overtaken_25 : decode cX11_overtaken 25 = .ok (.istore_n 3, 1) := fq1_62 (fl_X11_overtaken_0 (j := 25) rfl rfl)
theorem dX11_overtaken_26 : decode cX11_overtaken 26 = .ok (.iconst 0, 1) := fq1_3 (fl_X11_overtaken_0 (j := 26) rfl rfl)
theorem dX11_overtaken_27 : decode cX11_overtaken 27 = .ok (.istore 4, 2) := fq2_54 (fl_X11_overtaken_0 (j := 27) rfl rfl) (fl_X11_overtaken_0 (j := 28) rfl rfl) rfl
theorem dX11_overtaken_29 : decode cX11_overtaken 29 = .ok (.iload 4, 2) := fq2_21 (fl_X11_overtaken_0 (j := 29) rfl rfl) (fl_X11_overtaken_0 (j := 30) rfl rfl) rfl
theorem dX11_overtaken_31 : decode cX11_overtaken 31 = .ok (.aload_n 0, 1) := fq1_42 (fl_X11_overtaken_0 (j := 31) rfl rfl)
theorem dX11_overtaken_32 : decode cX11_overtaken 32 = .ok (.getfield 18, 3) := fq3_180 (fl_X11_overtaken_0 (j := 32) rfl rfl) (fl_X11_overtaken_0 (j := 33) rfl rfl) (fl_X11_overtaken_0 (j := 34) rfl rfl) rfl
theorem dX11_overtaken_35 : decode cX11_overtaken 35 = .ok (.getfield 54, 3) := fq3_180 (fl_X11_overtaken_0 (j := 35) rfl rfl) (fl_X11_overtaken_0 (j := 36) rfl rfl) (fl_X11_overtaken_0 (j := 37) rfl rfl) rfl
theorem dX11_overtaken_38 : decode cX11_overtaken 38 = .ok (.getfield 169, 3) := fq3_180 (fl_X11_overtaken_0 (j := 38) rfl rfl) (fl_X11_overtaken_0 (j := 39) rfl rfl) (fl_X11_overtaken_0 (j := 40) rfl rfl) rfl
theorem dX11_overtaken_41 : decode cX11_overtaken 41 = .ok (.if_icmp .ge 64, 3) := fq3_162 (fl_X11_overtaken_0 (j := 41) rfl rfl) (fl_X11_overtaken_0 (j := 42) rfl rfl) (fl_X11_overtaken_0 (j := 43) rfl rfl) (s2p rfl (bl rfl))
theorem dX11_overtaken_44 : decode cX11_overtaken 44 = .ok (.aload_n 0, 1) := fq1_42 (fl_X11_overtaken_0 (j := 44) rfl rfl)
theorem dX11_overtaken_45 : decode cX11_overtaken 45 = .ok (.getfield 61, 3) := fq3_180 (fl_X11_overtaken_0 (j := 45) rfl rfl) (fl_X11_overtaken_0 (j := 46) rfl rfl) (fl_X11_overtaken_0 (j := 47) rfl rfl) rfl
theorem dX11_overtaken_48 : decode cX11_overtaken 48 = .ok (.iload_n 1, 1) := fq1_27 (fl_X11_overtaken_0 (j := 48) rfl rfl)
theorem dX11_overtaken_49 : decode cX11_overtaken 49 = .ok (.iload_n 2, 1) := fq1_28 (fl_X11_overtaken_0 (j := 49) rfl rfl)
theorem dX11_overtaken_50 : decode cX11_overtaken 50 = .ok (.iload 4, 2) := fq2_21 (fl_X11_overtaken_0 (j := 50) rfl rfl) (fl_X11_overtaken_0 (j := 51) rfl rfl) rfl
theorem dX11_overtaken_52 : decode cX11_overtaken 52 = .ok (.invokevirtual 247, 3) := fq3_182 (fl_X11_overtaken_0 (j := 52) rfl rfl) (fl_X11_overtaken_0 (j := 53) rfl rfl) (fl_X11_overtaken_0 (j := 54) rfl rfl) rfl
theorem dX11_overtaken_55 : decode cX11_overtaken 55 = .ok (.istore 5, 2) := fq2_54 (fl_X11_overtaken_0 (j := 55) rfl rfl) (fl_X11_overtaken_0 (j := 56) rfl rfl) rfl
theorem dX11_overtaken_57 : decode cX11_overtaken 57 = .ok (.aload_n 0, 1) := fq1_42 (fl_X11_overtaken_0 (j := 57) rfl rfl)
theorem dX11_overtaken_58 : decode cX11_overtaken 58 = .ok (.getfield 70, 3) := fq3_180 (fl_X11_overtaken_0 (j := 58) rfl rfl) (fl_X11_overtaken_0 (j := 59) rfl rfl) (fl_X11_overtaken_0 (j := 60) rfl rfl) rfl
theorem dX11_overtaken_61 : decode cX11_overtaken 61 = .ok (.getfield 274, 3) := fq3_180 (fl_X11_overtaken_0 (j := 61) rfl rfl) (fl_X11_overtaken_0 (j := 62) rfl rfl) (fl_X11_overtaken_0 (j := 63) rfl rfl) rfl
def fb_X11_overtaken_1 : List UInt8 := [0x15, 0x04, 0x2e, 0x02, 0x9f, 0x00, 0x1f, 0x15, 0x05, 0x02, 0x9f, 0x00, 0x12, 0x2a, 0xb4, 0x00, 0x46, 0xb4, 0x01, 0x12, 0x15, 0x04, 0x2e, 0x15, 0x05, 0xa2, 0x00, 0x0a, 0x1d, 0x04, 0x15, 0x04, 0x78, 0x80, 0x3e, 0x84, 0x04, 0x01, 0xa7, 0xff, 0xb7, 0x2a, 0x1d, 0xb6, 0x00, 0xae, 0xac]
theorem fl_X11_overtaken_1 {p j : Nat} {b : UInt8} (e : p = 64 + j) (h : fb_X11_overtaken_1[j]? = some b) : cX11_overtaken.data.toList[p]? = some b := fq_l (n := 64) (show (cX11_overtaken.data.toList.drop 64).take 64 = fb_X11_overtaken_1 by decide +kernel) e h
theorem dX11_overtaken_64 : decode cX11_overtaken 64 = .ok (.iload 4, 2) := fq2_21 (fl_X11_overtaken_1 (j := 0) rfl rfl) (fl_X11_overtaken_1 (j := 1) rfl rfl) rfl
theorem dX11_overtaken_66 : decode cX11_overtaken 66 = .ok (.iaload, 1) := fq1_46 (fl_X11_overtaken_1 (j := 2) rfl rfl)
theorem dX11_overtaken_67 : decode cX11_overtaken 67 = .ok (.iconst (-1), 1) := fq1_2 (fl_X11_overtaken_1 (j := 3) rfl rfl)
theorem dX11_overtaken_68 : decode cX11_overtaken 68 = .ok (.if_icmp .eq 31, 3) := fq3_159 (fl_X11_overtaken_1 (j := 4) rfl rfl) (fl_X11_overtaken_1 (j := 5) rfl rfl) (fl_X11_overtaken_1 (j := 6) rfl rfl) (s2p rfl (bl rfl))
theorem dX11_overtaken_71 : decode cX11_overtaken 71 = .ok (.iload 5, 2) := fq2_21 (fl_X11_overtaken_1 (j := 7) rfl rfl) (fl_X11_overtaken_1 (j := 8) rfl rfl) rfl
theorem dX11_overtaken_73 : decode cX11_overtaken 73 = .ok (.iconst (-1), 1) := fq1_2 (fl_X11_overtaken_1 (j := 9) rfl rfl)
theorem dX11_overtaken_74 : decode cX11_overtaken 74 = .ok (.if_icmp .eq 18, 3) := fq3_159 (fl_X11_overtaken_1 (j := 10) rfl rfl) (fl_X11_overtaken_1 (j := 11) rfl rfl) (fl_X11_overtaken_1 (j := 12) rfl rfl) (s2p rfl (bl rfl))
theorem dX11_overtaken_77 : decode cX11_overtaken 77 = .ok (.aload_n 0, 1) := fq1_42 (fl_X11_overtaken_1 (j := 13) rfl rfl)
theorem dX11_overtaken_78 : decode cX11_overtaken 78 = .ok (.getfield 70, 3) := fq3_180 (fl_X11_overtaken_1 (j := 14) rfl rfl) (fl_X11_overtaken_1 (j := 15) rfl rfl) (fl_X11_overtaken_1 (j := 16) rfl rfl) rfl
theorem dX11_overtaken_81 : decode cX11_overtaken 81 = .ok (.getfield 274, 3) := fq3_180 (fl_X11_overtaken_1 (j := 17) rfl rfl) (fl_X11_overtaken_1 (j := 18) rfl rfl) (fl_X11_overtaken_1 (j := 19) rfl rfl) rfl
theorem dX11_overtaken_84 : decode cX11_overtaken 84 = .ok (.iload 4, 2) := fq2_21 (fl_X11_overtaken_1 (j := 20) rfl rfl) (fl_X11_overtaken_1 (j := 21) rfl rfl) rfl
theorem dX11_overtaken_86 : decode cX11_overtaken 86 = .ok (.iaload, 1) := fq1_46 (fl_X11_overtaken_1 (j := 22) rfl rfl)
theorem dX11_overtaken_87 : decode cX11_overtaken 87 = .ok (.iload 5, 2) := fq2_21 (fl_X11_overtaken_1 (j := 23) rfl rfl) (fl_X11_overtaken_1 (j := 24) rfl rfl) rfl
theorem dX11_overtaken_89 : decode cX11_overtaken 89 = .ok (.if_icmp .ge 10, 3) := fq3_162 (fl_X11_overtaken_1 (j := 25) rfl rfl) (fl_X11_overtaken_1 (j := 26) rfl rfl) (fl_X11_overtaken_1 (j := 27) rfl rfl) (s2p rfl (bl rfl))
theorem dX11_overtaken_92 : decode cX11_overtaken 92 = .ok (.iload_n 3, 1) := fq1_29 (fl_X11_overtaken_1 (j := 28) rfl rfl)
theorem dX11_overtaken_93 : decode cX11_overtaken 93 = .ok (.iconst 1, 1) := fq1_4 (fl_X11_overtaken_1 (j := 29) rfl rfl)
theorem dX11_overtaken_94 : decode cX11_overtaken 94 = .ok (.iload 4, 2) := fq2_21 (fl_X11_overtaken_1 (j := 30) rfl rfl) (fl_X11_overtaken_1 (j := 31) rfl rfl) rfl
theorem dX11_overtaken_96 : decode cX11_overtaken 96 = .ok (.ishl, 1) := fq1_120 (fl_X11_overtaken_1 (j := 32) rfl rfl)
theorem dX11_overtaken_97 : decode cX11_overtaken 97 = .ok (.ior, 1) := fq1_128 (fl_X11_overtaken_1 (j := 33) rfl rfl)
theorem dX11_overtaken_98 : decode cX11_overtaken 98 = .ok (.istore_n 3, 1) := fq1_62 (fl_X11_overtaken_1 (j := 34) rfl rfl)
theorem dX11_overtaken_99 : decode cX11_overtaken 99 = .ok (.iinc 4 1, 3) := fq3_132 (fl_X11_overtaken_1 (j := 35) rfl rfl) (fl_X11_overtaken_1 (j := 36) rfl rfl) (fl_X11_overtaken_1 (j := 37) rfl rfl) rfl (s1p rfl (bl rfl))
theorem dX11_overtaken_102 : decode cX11_overtaken 102 = .ok (.goto (-73), 3) := fq3_167 (fl_X11_overtaken_1 (j := 38) rfl rfl) (fl_X11_overtaken_1 (j := 39) rfl rfl) (fl_X11_overtaken_1 (j := 40) rfl rfl) (by decide)
theorem dX11_overtaken_105 : decode cX11_overtaken 105 = .ok (.aload_n 0, 1) := fq1_42 (fl_X11_overtaken_1 (j := 41) rfl rfl)
theorem dX11_overtaken_106 : decode cX11_overtaken 106 = .ok (.iload_n 3, 1) := fq1_29 (fl_X11_overtaken_1 (j := 42) rfl rfl)
theorem dX11_overtaken_107 : decode cX11_overtaken 107 = .ok (.invokevirtual 174, 3) := fq3_182 (fl_X11_overtaken_1 (j := 43) rfl rfl) (fl_X11_overtaken_1 (j := 44) rfl rfl) (fl_X11_overtaken_1 (j := 45) rfl rfl) rfl
theorem dX11_overtaken_110 : decode cX11_overtaken 110 = .ok (.ireturn, 1) := fq1_172 (fl_X11_overtaken_1 (j := 46) rfl rfl)
def fb_X11_remote_0 : List UInt8 := [0x1b, 0xb8, 0x00, 0xf0, 0x9a, 0x00, 0x09, 0x2a, 0x04, 0xb6, 0x00, 0x7e, 0xac, 0x02, 0x3d, 0x02, 0x3e, 0x03, 0x36, 0x04, 0x15, 0x04, 0x2a, 0xb4, 0x00, 0x12, 0xb4, 0x00, 0x36, 0xb4, 0x00, 0xa9, 0xa2, 0x00, 0x5d, 0x03, 0x36, 0x05, 0x03, 0x36, 0x06, 0x15, 0x06, 0x2a, 0xb4, 0x00, 0x12, 0xb4, 0x00, 0x36, 0xb4, 0x00, 0xa9, 0xa2, 0x00, 0x36, 0x2a, 0xb4, 0x00, 0x46, 0x15, 0x06, 0x1b, 0xb6]
theorem fl_X11_remote_0 {p j : Nat} {b : UInt8} (e : p = 0 + j) (h : fb_X11_remote_0[j]? = some b) : cX11_remote.data.toList[p]? = some b := fq_l (n := 64) (show (cX11_remote.data.toList.drop 0).take 64 = fb_X11_remote_0 by decide +kernel) e h
theorem dX11_remote_0 : decode cX11_remote 0 = .ok (.iload_n 1, 1) := fq1_27 (fl_X11_remote_0 (j := 0) rfl rfl)
theorem dX11_remote_1 : decode cX11_remote 1 = .ok (.invokestatic 240, 3) := fq3_184 (fl_X11_remote_0 (j := 1) rfl rfl) (fl_X11_remote_0 (j := 2) rfl rfl) (fl_X11_remote_0 (j := 3) rfl rfl) rfl
theorem dX11_remote_4 : decode cX11_remote 4 = .ok (.ifCond .ne 9, 3) := fq3_154 (fl_X11_remote_0 (j := 4) rfl rfl) (fl_X11_remote_0 (j := 5) rfl rfl) (fl_X11_remote_0 (j := 6) rfl rfl) (s2p rfl (bl rfl))
theorem dX11_remote_7 : decode cX11_remote 7 = .ok (.aload_n 0, 1) := fq1_42 (fl_X11_remote_0 (j := 7) rfl rfl)
theorem dX11_remote_8 : decode cX11_remote 8 = .ok (.iconst 1, 1) := fq1_4 (fl_X11_remote_0 (j := 8) rfl rfl)
theorem dX11_remote_9 : decode cX11_remote 9 = .ok (.invokevirtual 126, 3) := fq3_182 (fl_X11_remote_0 (j := 9) rfl rfl) (fl_X11_remote_0 (j := 10) rfl rfl) (fl_X11_remote_0 (j := 11) rfl rfl) rfl
theorem dX11_remote_12 : decode cX11_remote 12 = .ok (.ireturn, 1) := fq1_172 (fl_X11_remote_0 (j := 12) rfl rfl)
theorem dX11_remote_13 : decode cX11_remote 13 = .ok (.iconst (-1), 1) := fq1_2 (fl_X11_remote_0 (j := 13) rfl rfl)
theorem dX11_remote_14 : decode cX11_remote 14 = .ok (.istore_n 2, 1) := fq1_61 (fl_X11_remote_0 (j := 14) rfl rfl)
theorem dX11_remote_15 : decode cX11_remote 15 = .ok (.iconst (-1), 1) := fq1_2 (fl_X11_remote_0 (j := 15) rfl rfl)
theorem dX11_remote_16 : decode cX11_remote 16 = .ok (.istore_n 3, 1) := fq1_62 (fl_X11_remote_0 (j := 16) rfl rfl)
theorem dX11_remote_17 : decode cX11_remote 17 = .ok (.iconst 0, 1) := fq1_3 (fl_X11_remote_0 (j := 17) rfl rfl)
theorem dX11_remote_18 : decode cX11_remote 18 = .ok (.istore 4, 2) := fq2_54 (fl_X11_remote_0 (j := 18) rfl rfl) (fl_X11_remote_0 (j := 19) rfl rfl) rfl
theorem dX11_remote_20 : decode cX11_remote 20 = .ok (.iload 4, 2) := fq2_21 (fl_X11_remote_0 (j := 20) rfl rfl) (fl_X11_remote_0 (j := 21) rfl rfl) rfl
theorem dX11_remote_22 : decode cX11_remote 22 = .ok (.aload_n 0, 1) := fq1_42 (fl_X11_remote_0 (j := 22) rfl rfl)
theorem dX11_remote_23 : decode cX11_remote 23 = .ok (.getfield 18, 3) := fq3_180 (fl_X11_remote_0 (j := 23) rfl rfl) (fl_X11_remote_0 (j := 24) rfl rfl) (fl_X11_remote_0 (j := 25) rfl rfl) rfl
theorem dX11_remote_26 : decode cX11_remote 26 = .ok (.getfield 54, 3) := fq3_180 (fl_X11_remote_0 (j := 26) rfl rfl) (fl_X11_remote_0 (j := 27) rfl rfl) (fl_X11_remote_0 (j := 28) rfl rfl) rfl
theorem dX11_remote_29 : decode cX11_remote 29 = .ok (.getfield 169, 3) := fq3_180 (fl_X11_remote_0 (j := 29) rfl rfl) (fl_X11_remote_0 (j := 30) rfl rfl) (fl_X11_remote_0 (j := 31) rfl rfl) rfl
theorem dX11_remote_32 : decode cX11_remote 32 = .ok (.if_icmp .ge 93, 3) := fq3_162 (fl_X11_remote_0 (j := 32) rfl rfl) (fl_X11_remote_0 (j := 33) rfl rfl) (fl_X11_remote_0 (j := 34) rfl rfl) (s2p rfl (bl rfl))
theorem dX11_remote_35 : decode cX11_remote 35 = .ok (.iconst 0, 1) := fq1_3 (fl_X11_remote_0 (j := 35) rfl rfl)
theorem dX11_remote_36 : decode cX11_remote 36 = .ok (.istore 5, 2) := fq2_54 (fl_X11_remote_0 (j := 36) rfl rfl) (fl_X11_remote_0 (j := 37) rfl rfl) rfl
theorem dX11_remote_38 : decode cX11_remote 38 = .ok (.iconst 0, 1) := fq1_3 (fl_X11_remote_0 (j := 38) rfl rfl)
theorem dX11_remote_39 : decode cX11_remote 39 = .ok (.istore 6, 2) := fq2_54 (fl_X11_remote_0 (j := 39) rfl rfl) (fl_X11_remote_0 (j := 40) rfl rfl) rfl
theorem dX11_remote_41 : decode cX11_remote 41 = .ok (.iload 6, 2) := fq2_21 (fl_X11_remote_0 (j := 41) rfl rfl) (fl_X11_remote_0 (j := 42) rfl rfl) rfl
theorem dX11_remote_43 : decode cX11_remote 43 = .ok (.aload_n 0, 1) := fq1_42 (fl_X11_remote_0 (j := 43) rfl rfl)
theorem dX11_remote_44 : decode cX11_remote 44 = .ok (.getfield 18, 3) := fq3_180 (fl_X11_remote_0 (j := 44) rfl rfl) (fl_X11_remote_0 (j := 45) rfl rfl) (fl_X11_remote_0 (j := 46) rfl rfl) rfl
theorem dX11_remote_47 : decode cX11_remote 47 = .ok (.getfield 54, 3) := fq3_180 (fl_X11_remote_0 (j := 47) rfl rfl) (fl_X11_remote_0 (j := 48) rfl rfl) (fl_X11_remote_0 (j := 49) rfl rfl) rfl
theorem dX11_remote_50 : decode cX11_remote 50 = .ok (.getfield 169, 3) := fq3_180 (fl_X11_remote_0 (j := 50) rfl rfl) (fl_X11_remote_0 (j := 51) rfl rfl) (fl_X11_remote_0 (j := 52) rfl rfl) rfl
theorem dX11_remote_53 : decode cX11_remote 53 = .ok (.if_icmp .ge 54, 3) := fq3_162 (fl_X11_remote_0 (j := 53) rfl rfl) (fl_X11_remote_0 (j := 54) rfl rfl) (fl_X11_remote_0 (j := 55) rfl rfl) (s2p rfl (bl rfl))
theorem dX11_remote_56 : decode cX11_remote 56 = .ok (.aload_n 0, 1) := fq1_42 (fl_X11_remote_0 (j := 56) rfl rfl)
theorem dX11_remote_57 : decode cX11_remote 57 = .ok (.getfield 70, 3) := fq3_180 (fl_X11_remote_0 (j := 57) rfl rfl) (fl_X11_remote_0 (j := 58) rfl rfl) (fl_X11_remote_0 (j := 59) rfl rfl) rfl
theorem dX11_remote_60 : decode cX11_remote 60 = .ok (.iload 6, 2) := fq2_21 (fl_X11_remote_0 (j := 60) rfl rfl) (fl_X11_remote_0 (j := 61) rfl rfl) rfl
theorem dX11_remote_62 : decode cX11_remote 62 = .ok (.iload_n 1, 1) := fq1_27 (fl_X11_remote_0 (j := 62) rfl rfl)
def fb_X11_remote_1 : List UInt8 := [0x01, 0x0f, 0x15, 0x05, 0x2a, 0xb4, 0x00, 0x46, 0xb4, 0x01, 0x12, 0x15, 0x04, 0x2e, 0x02, 0xa0, 0x00, 0x09, 0x13, 0x01, 0x24, 0xa7, 0x00, 0x0d, 0x2a, 0xb4, 0x00, 0x46, 0xb4, 0x01, 0x12, 0x15, 0x04, 0x2e, 0x60, 0x36, 0x05, 0x84, 0x06, 0x01, 0xa7, 0xff, 0xc1, 0x15, 0x05, 0x1d, 0xa4, 0x00, 0x09, 0x15, 0x05, 0x3e, 0x15, 0x04, 0x3d, 0x84, 0x04, 0x01, 0xa7, 0xff, 0x9a, 0x2a, 0x1c, 0xb6]
theorem fl_X11_remote_1 {p j : Nat} {b : UInt8} (e : p = 64 + j) (h : fb_X11_remote_1[j]? = some b) : cX11_remote.data.toList[p]? = some b := fq_l (n := 64) (show (cX11_remote.data.toList.drop 64).take 64 = fb_X11_remote_1 by decide +kernel) e h
theorem dX11_remote_63 : decode cX11_remote 63 = .ok (.invokevirtual 271, 3) := fq3_182 (fl_X11_remote_0 (j := 63) rfl rfl) (fl_X11_remote_1 (j := 0) rfl rfl) (fl_X11_remote_1 (j := 1) rfl rfl) rfl
theorem dX11_remote_66 : decode cX11_remote 66 = .ok (.iload 5, 2) := fq2_21 (fl_X11_remote_1 (j := 2) rfl rfl) (fl_X11_remote_1 (j := 3) rfl rfl) rfl
theorem dX11_remote_68 : decode cX11_remote 68 = .ok (.aload_n 0, 1) := fq1_42 (fl_X11_remote_1 (j := 4) rfl rfl)
theorem dX11_remote_69 : decode cX11_remote 69 = .ok (.getfield 70, 3) := fq3_180 (fl_X11_remote_1 (j := 5) rfl rfl) (fl_X11_remote_1 (j := 6) rfl rfl) (fl_X11_remote_1 (j := 7) rfl rfl) rfl
theorem dX11_remote_72 : decode cX11_remote 72 = .ok (.getfield 274, 3) := fq3_180 (fl_X11_remote_1 (j := 8) rfl rfl) (fl_X11_remote_1 (j := 9) rfl rfl) (fl_X11_remote_1 (j := 10) rfl rfl) rfl
theorem dX11_remote_75 : decode cX11_remote 75 = .ok (.iload 4, 2) := fq2_21 (fl_X11_remote_1 (j := 11) rfl rfl) (fl_X11_remote_1 (j := 12) rfl rfl) rfl
theorem dX11_remote_77 : decode cX11_remote 77 = .ok (.iaload, 1) := fq1_46 (fl_X11_remote_1 (j := 13) rfl rfl)
theorem dX11_remote_78 : decode cX11_remote 78 = .ok (.iconst (-1), 1) := fq1_2 (fl_X11_remote_1 (j := 14) rfl rfl)
theorem dX11_remote_79 : decode cX11_remote 79 = .ok (.if_icmp .ne 9, 3) := fq3_160 (fl_X11_remote_1 (j := 15) rfl rfl) (fl_X11_remote_1 (j := 16) rfl rfl) (fl_X11_remote_1 (j := 17) rfl rfl) (s2p rfl (bl rfl))
theorem dX11_remote_82 : decode cX11_remote 82 = .ok (.ldc_w 292, 3) := fq3_19 (fl_X11_remote_1 (j := 18) rfl rfl) (fl_X11_remote_1 (j := 19) rfl rfl) (fl_X11_remote_1 (j := 20) rfl rfl) rfl
theorem dX11_remote_85 : decode cX11_remote 85 = .ok (.goto 13, 3) := fq3_167 (fl_X11_remote_1 (j := 21) rfl rfl) (fl_X11_remote_1 (j := 22) rfl rfl) (fl_X11_remote_1 (j := 23) rfl rfl) (s2p rfl (bl rfl))
theorem dX11_remote_88 : decode cX11_remote 88 = .ok (.aload_n 0, 1) := fq1_42 (fl_X11_remote_1 (j := 24) rfl rfl)
theorem dX11_remote_89 : decode cX11_remote 89 = .ok (.getfield 70, 3) := fq3_180 (fl_X11_remote_1 (j := 25) rfl rfl) (fl_X11_remote_1 (j := 26) rfl rfl) (fl_X11_remote_1 (j := 27) rfl rfl) rfl
theorem dX11_remote_92 : decode cX11_remote 92 = .ok (.getfield 274, 3) := fq3_180 (fl_X11_remote_1 (j := 28) rfl rfl) (fl_X11_remote_1 (j := 29) rfl rfl) (fl_X11_remote_1 (j := 30) rfl rfl) rfl
theorem dX11_remote_95 : decode cX11_remote 95 = .ok (.iload 4, 2) := fq2_21 (fl_X11_remote_1 (j := 31) rfl rfl) (fl_X11_remote_1 (j := 32) rfl rfl) rfl
theorem dX11_remote_97 : decode cX11_remote 97 = .ok (.iaload, 1) := fq1_46 (fl_X11_remote_1 (j := 33) rfl rfl)
theorem dX11_remote_98 : decode cX11_remote 98 = .ok (.iadd, 1) := fq1_96 (fl_X11_remote_1 (j := 34) rfl rfl)
theorem dX11_remote_99 : decode cX11_remote 99 = .ok (.istore 5, 2) := fq2_54 (fl_X11_remote_1 (j := 35) rfl rfl) (fl_X11_remote_1 (j := 36) rfl rfl) rfl
theorem dX11_remote_101 : decode cX11_remote 101 = .ok (.iinc 6 1, 3) := fq3_132 (fl_X11_remote_1 (j := 37) rfl rfl) (fl_X11_remote_1 (j := 38) rfl rfl) (fl_X11_remote_1 (j := 39) rfl rfl) rfl (s1p rfl (bl rfl))
theorem dX11_remote_104 : decode cX11_remote 104 = .ok (.goto (-63), 3) := fq3_167 (fl_X11_remote_1 (j := 40) rfl rfl) (fl_X11_remote_1 (j := 41) rfl rfl) (fl_X11_remote_1 (j := 42) rfl rfl) (by decide)
theorem dX11_remote_107 : decode cX11_remote 107 = .ok (.iload 5, 2) := fq2_21 (fl_X11_remote_1 (j := 43) rfl rfl) (fl_X11_remote_1 (j := 44) rfl rfl) rfl
theorem dX11_remote_109 : decode cX11_remote 109 = .ok (.iload_n 3, 1) := fq1_29 (fl_X11_remote_1 (j := 45) rfl rfl)
theorem dX11_remote_110 : decode cX11_remote 110 = .ok (.if_icmp .le 9, 3) := fq3_164 (fl_X11_remote_1 (j := 46) rfl rfl) (fl_X11_remote_1 (j := 47) rfl rfl) (fl_X11_remote_1 (j := 48) rfl rfl) (s2p rfl (bl rfl))
theorem dX11_remote_113 : decode cX11_remote 113 = .ok (.iload 5, 2) := fq2_21 (fl_X11_remote_1 (j := 49) rfl rfl) (fl_X11_remote_1 (j := 50) rfl rfl) rfl
theorem dX11_remote_115 : decode cX11_remote 115 = .ok (.istore_n 3, 1) := fq1_62 (fl_X11_remote_1 (j := 51) rfl rfl)
theorem dX11_remote_116 : decode cX11_remote 116 = .ok (.iload 4, 2) := fq2_21 (fl_X11_remote_1 (j := 52) rfl rfl) (fl_X11_remote_1 (j := 53) rfl rfl) rfl
theorem dX11_remote_118 : decode cX11_remote 118 = .ok (.istore_n 2, 1) := fq1_61 (fl_X11_remote_1 (j := 54) rfl rfl)
theorem dX11_remote_119 : decode cX11_remote 119 = .ok (.iinc 4 1, 3) := fq3_132 (fl_X11_remote_1 (j := 55) rfl rfl) (fl_X11_remote_1 (j := 56) rfl rfl) (fl_X11_remote_1 (j := 57) rfl rfl) rfl (s1p rfl (bl rfl))
theorem dX11_remote_122 : decode cX11_remote 122 = .ok (.goto (-102), 3) := fq3_167 (fl_X11_remote_1 (j := 58) rfl rfl) (fl_X11_remote_1 (j := 59) rfl rfl) (fl_X11_remote_1 (j := 60) rfl rfl) (by decide)
theorem dX11_remote_125 : decode cX11_remote 125 = .ok (.aload_n 0, 1) := fq1_42 (fl_X11_remote_1 (j := 61) rfl rfl)
theorem dX11_remote_126 : decode cX11_remote 126 = .ok (.iload_n 2, 1) := fq1_28 (fl_X11_remote_1 (j := 62) rfl rfl)
def fb_X11_remote_2 : List UInt8 := [0x00, 0xfb, 0xac]
theorem fl_X11_remote_2 {p j : Nat} {b : UInt8} (e : p = 128 + j) (h : fb_X11_remote_2[j]? = some b) : cX11_remote.data.toList[p]? = some b := fq_l (n := 64) (show (cX11_remote.data.toList.drop 128).take 64 = fb_X11_remote_2 by decide +kernel) e h
theorem dX11_remote_127 : decode cX11_remote 127 = .ok (.invokevirtual 251, 3) := fq3_182 (fl_X11_remote_1 (j := 63) rfl rfl) (fl_X11_remote_2 (j := 0) rfl rfl) (fl_X11_remote_2 (j := 1) rfl rfl) rfl
theorem dX11_remote_130 : decode cX11_remote 130 = .ok (.ireturn, 1) := fq1_172 (fl_X11_remote_2 (j := 2) rfl rfl)