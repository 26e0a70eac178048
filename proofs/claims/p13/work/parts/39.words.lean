theorem qf_X11_61 : Cond.fieldLink RX11 61 "SlowWorlds" "rays" "LSlowWorlds$Rays;" ∈ gw := tbt (tb2 (List.mem_of_getElem? (i := 203) rfl)) rfl
theorem qm_X11_247 : Cond.methodLink RX11 247 yX3_arrival ∈ gw := tbt (tb4 (List.mem_of_getElem? (i := 81) rfl)) rfl
theorem qc_X3_echoOf : Cond.code yX3_echoOf cX3_echoOf 4 (some .int) ∈ gw := tbt (tb5 (List.mem_of_getElem? (i := 81) rfl)) rfl
theorem qi_yX3_echoOf : Cond.instanceMethod yX3_echoOf ∈ gw := tbt (tb5 (List.mem_of_getElem? (i := 79) rfl)) rfl
theorem qs_X3_echoOf : Cond.selects (yX3_echoOf).cls yX3_echoOf yX3_echoOf ∈ gw := tbt (tb5 (List.mem_of_getElem? (i := 80) rfl)) rfl
theorem ci_X3_echoOf : CIv yX3_echoOf cX3_echoOf 4 (some .int) 3 := ⟨qc_X3_echoOf, qi_yX3_echoOf, qs_X3_echoOf, qz_X3, by decide +kernel⟩
theorem qm_X11_328 : Cond.methodLink RX11 328 yX3_echoOf ∈ gw := tbt (tb5 (List.mem_of_getElem? (i := 78) rfl)) rfl
theorem qm_X11_265 : Cond.methodLink RX11 265 yJ9_min_7cf53 ∈ gw := tbt (tb4 (List.mem_of_getElem? (i := 137) rfl)) rfl
def fb_X11_answered_0 : List UInt8 := [0x2a, 0x1b, 0x1c, 0xb6, 0x00, 0xed, 0x99, 0x00, 0x0d, 0x1d, 0x11, 0x01, 0xf4, 0xb8, 0x00, 0x67, 0x9a, 0x00, 0x09, 0x2a, 0x04, 0xb6, 0x00, 0x7e, 0xac, 0x1d, 0x11, 0x01, 0x90, 0xb8, 0x01, 0x09, 0x36, 0x04, 0x15, 0x04, 0x9b, 0x00, 0x29, 0x2a, 0xb4, 0x00, 0x3d, 0x1b, 0x15, 0x04, 0x1c, 0xb6, 0x01, 0x48, 0x36, 0x05, 0x15, 0x05, 0x02, 0x9f, 0x00, 0x10, 0x15, 0x05, 0x1d, 0xa3, 0x00, 0x0a]
theorem fl_X11_answered_0 {p j : Nat} {b : UInt8} (e : p = 0 + j) (h : fb_X11_answered_0[j]? = some b) : cX11_answered.data.toList[p]? = some b := fq_l (n := 64) (show (cX11_answered.data.toList.drop 0).take 64 = fb_X11_answered_0 by decide +kernel) e h
theorem dX11_answered_0 : decode cX11_answered 0 = .ok (.aload_n 0, 1) := fq1_42 (fl_X11_answered_0 (j := 0) rfl rfl)
theorem dX11_answered_1 : decode cX11_answered 1 = .ok (.iload_n 1, 1) := fq1_27 (fl_X11_answered_0 (j := 1) rfl rfl)
theorem dX11_answered_2 : decode cX11_answered 2 = .ok (.iload_n 2, 1) := fq1_28 (fl_X11_answered_0 (j := 2) rfl rfl)
theorem dX11_answered_3 : decode cX11_answered 3 = .ok (.invokevirtual 237, 3) := fq3_182 (fl_X11_answered_0 (j := 3) rfl rfl) (fl_X11_answered_0 (j := 4) rfl rfl) (fl_X11_answered_0 (j := 5) rfl rfl) rfl
theorem dX11_answered_6 : decode cX11_answered 6 = .ok (.ifCond .eq 13, 3) := fq3_153 (fl_X11_answered_0 (j := 6) rfl rfl) (fl_X11_answered_0 (j := 7) rfl rfl) (fl_X11_answered_0 (j := 8) rfl rfl) (s2p rfl (bl rfl))
theorem dX11_answered_9 : decode cX11_answered 9 = .ok (.iload_n 3, 1) := fq1_29 (fl_X11_answered_0 (j := 9) rfl rfl)
theorem dX11_answered_10 : decode cX11_answered 10 = .ok (.sipush 500, 3) := fq3_17 (fl_X11_answered_0 (j := 10) rfl rfl) (fl_X11_answered_0 (j := 11) rfl rfl) (fl_X11_answered_0 (j := 12) rfl rfl) (s2p rfl (bl rfl))
theorem dX11_answered_13 : decode cX11_answered 13 = .ok (.invokestatic 103, 3) := fq3_184 (fl_X11_answered_0 (j := 13) rfl rfl) (fl_X11_answered_0 (j := 14) rfl rfl) (fl_X11_answered_0 (j := 15) rfl rfl) rfl
theorem dX11_answered_16 : decode cX11_answered 16 = .ok (.ifCond .ne 9, 3) := fq3_154 (fl_X11_answered_0 (j := 16) rfl rfl) (fl_X11_answered_0 (j := 17) rfl rfl) (fl_X11_answered_0 (j := 18) rfl rfl) (s2p rfl (bl rfl))
theorem dX11_answered_19 : decode cX11_answered 19 = .ok (.aload_n 0, 1) := fq1_42 (fl_X11_answered_0 (j := 19) rfl rfl)
theorem dX11_answered_20 : decode cX11_answered 20 = .ok (.iconst 1, 1) := fq1_4 (fl_X11_answered_0 (j := 20) rfl rfl)
theorem dX11_answered_21 : decode cX11_answered 21 = .ok (.invokevirtual 126, 3) := fq3_182 (fl_X11_answered_0 (j := 21) rfl rfl) (fl_X11_answered_0 (j := 22) rfl rfl) (fl_X11_answered_0 (j := 23) rfl rfl) rfl
theorem dX11_answered_24 : decode cX11_answered 24 = .ok (.ireturn, 1) := fq1_172 (fl_X11_answered_0 (j := 24) rfl rfl)
theorem dX11_answered_25 : decode cX11_answered 25 = .ok (.iload_n 3, 1) := fq1_29 (fl_X11_answered_0 (j := 25) rfl rfl)
theorem dX11_answered_26 : decode cX11_answered 26 = .ok (.sipush 400, 3) := fq3_17 (fl_X11_answered_0 (j := 26) rfl rfl) (fl_X11_answered_0 (j := 27) rfl rfl) (fl_X11_answered_0 (j := 28) rfl rfl) (s2p rfl (bl rfl))
theorem dX11_answered_29 : decode cX11_answered 29 = .ok (.invokestatic 265, 3) := fq3_184 (fl_X11_answered_0 (j := 29) rfl rfl) (fl_X11_answered_0 (j := 30) rfl rfl) (fl_X11_answered_0 (j := 31) rfl rfl) rfl
theorem dX11_answered_32 : decode cX11_answered 32 = .ok (.istore 4, 2) := fq2_54 (fl_X11_answered_0 (j := 32) rfl rfl) (fl_X11_answered_0 (j := 33) rfl rfl) rfl
theorem dX11_answered_34 : decode cX11_answered 34 = .ok (.iload 4, 2) := fq2_21 (fl_X11_answered_0 (j := 34) rfl rfl) (fl_X11_answered_0 (j := 35) rfl rfl) rfl
theorem dX11_answered_36 : decode cX11_answered 36 = .ok (.ifCond .lt 41, 3) := fq3_155 (fl_X11_answered_0 (j := 36) rfl rfl) (fl_X11_answered_0 (j := 37) rfl rfl) (fl_X11_answered_0 (j := 38) rfl rfl) (s2p rfl (bl rfl))
theorem dX11_answered_39 : decode cX11_answered 39 = .ok (.aload_n 0, 1) := fq1_42 (fl_X11_answered_0 (j := 39) rfl rfl)
theorem dX11_answered_40 : decode cX11_answered 40 = .ok (.getfield 61, 3) := fq3_180 (fl_X11_answered_0 (j := 40) rfl rfl) (fl_X11_answered_0 (j := 41) rfl rfl) (fl_X11_answered_0 (j := 42) rfl rfl) rfl
theorem dX11_answered_43 : decode cX11_answered 43 = .ok (.iload_n 1, 1) := fq1_27 (fl_X11_answered_0 (j := 43) rfl rfl)
theorem dX11_answered_44 : decode cX11_answered 44 = .ok (.iload 4, 2) := fq2_21 (fl_X11_answered_0 (j := 44) rfl rfl) (fl_X11_answered_0 (j := 45) rfl rfl) rfl
theorem dX11_answered_46 : decode cX11_answered 46 = .ok (.iload_n 2, 1) := fq1_28 (fl_X11_answered_0 (j := 46) rfl rfl)
theorem dX11_answered_47 : decode cX11_answered 47 = .ok (.invokevirtual 328, 3) := fq3_182 (fl_X11_answered_0 (j := 47) rfl rfl) (fl_X11_answered_0 (j := 48) rfl rfl) (fl_X11_answered_0 (j := 49) rfl rfl) rfl
theorem dX11_answered_50 : decode cX11_answered 50 = .ok (.istore 5, 2) := fq2_54 (fl_X11_answered_0 (j := 50) rfl rfl) (fl_X11_answered_0 (j := 51) rfl rfl) rfl
theorem dX11_answered_52 : decode cX11_answered 52 = .ok (.iload 5, 2) := fq2_21 (fl_X11_answered_0 (j := 52) rfl rfl) (fl_X11_answered_0 (j := 53) rfl rfl) rfl
theorem dX11_answered_54 : decode cX11_answered 54 = .ok (.iconst (-1), 1) := fq1_2 (fl_X11_answered_0 (j := 54) rfl rfl)
theorem dX11_answered_55 : decode cX11_answered 55 = .ok (.if_icmp .eq 16, 3) := fq3_159 (fl_X11_answered_0 (j := 55) rfl rfl) (fl_X11_answered_0 (j := 56) rfl rfl) (fl_X11_answered_0 (j := 57) rfl rfl) (s2p rfl (bl rfl))
theorem dX11_answered_58 : decode cX11_answered 58 = .ok (.iload 5, 2) := fq2_21 (fl_X11_answered_0 (j := 58) rfl rfl) (fl_X11_answered_0 (j := 59) rfl rfl) rfl
theorem dX11_answered_60 : decode cX11_answered 60 = .ok (.iload_n 3, 1) := fq1_29 (fl_X11_answered_0 (j := 60) rfl rfl)
theorem dX11_answered_61 : decode cX11_answered 61 = .ok (.if_icmp .gt 10, 3) := fq3_163 (fl_X11_answered_0 (j := 61) rfl rfl) (fl_X11_answered_0 (j := 62) rfl rfl) (fl_X11_answered_0 (j := 63) rfl rfl) (s2p rfl (bl rfl))
def fb_X11_answered_1 : List UInt8 := [0x2a, 0x15, 0x04, 0xb6, 0x00, 0xae, 0xac, 0x84, 0x04, 0xff, 0xa7, 0xff, 0xd8, 0x2a, 0x10, 0x06, 0xb6, 0x00, 0x7e, 0xac]
theorem fl_X11_answered_1 {p j : Nat} {b : UInt8} (e : p = 64 + j) (h : fb_X11_answered_1[j]? = some b) : cX11_answered.data.toList[p]? = some b := fq_l (n := 64) (show (cX11_answered.data.toList.drop 64).take 64 = fb_X11_answered_1 by decide +kernel) e h
theorem dX11_answered_64 : decode cX11_answered 64 = .ok (.aload_n 0, 1) := fq1_42 (fl_X11_answered_1 (j := 0) rfl rfl)
theorem dX11_answered_65 : decode cX11_answered 65 = .ok (.iload 4, 2) := fq2_21 (fl_X11_answered_1 (j := 1) rfl rfl) (fl_X11_answered_1 (j := 2) rfl rfl) rfl
theorem dX11_answered_67 : decode cX11_answered 67 = .ok (.invokevirtual 174, 3) := fq3_182 (fl_X11_answered_1 (j := 3) rfl rfl) (fl_X11_answered_1 (j := 4) rfl rfl) (fl_X11_answered_1 (j := 5) rfl rfl) rfl
theorem dX11_answered_70 : decode cX11_answered 70 = .ok (.ireturn, 1) := fq1_172 (fl_X11_answered_1 (j := 6) rfl rfl)
theorem dX11_answered_71 : decode cX11_answered 71 = .ok (.iinc 4 (-1), 3) := fq3_132 (fl_X11_answered_1 (j := 7) rfl rfl) (fl_X11_answered_1 (j := 8) rfl rfl) (fl_X11_answered_1 (j := 9) rfl rfl) rfl (by decide)
theorem dX11_answered_74 : decode cX11_answered 74 = .ok (.goto (-40), 3) := fq3_167 (fl_X11_answered_1 (j := 10) rfl rfl) (fl_X11_answered_1 (j := 11) rfl rfl) (fl_X11_answered_1 (j := 12) rfl rfl) (by decide)
theorem dX11_answered_77 : decode cX11_answered 77 = .ok (.aload_n 0, 1) := fq1_42 (fl_X11_answered_1 (j := 13) rfl rfl)
theorem dX11_answered_78 : decode cX11_answered 78 = .ok (.bipush 6, 2) := fq2_16 (fl_X11_answered_1 (j := 14) rfl rfl) (fl_X11_answered_1 (j := 15) rfl rfl) (s1p rfl (bl rfl))
theorem dX11_answered_80 : decode cX11_answered 80 = .ok (.invokevirtual 126, 3) := fq3_182 (fl_X11_answered_1 (j := 16) rfl rfl) (fl_X11_answered_1 (j := 17) rfl rfl) (fl_X11_answered_1 (j := 18) rfl rfl) rfl
theorem dX11_answered_83 : decode cX11_answered 83 = .ok (.ireturn, 1) := fq1_172 (fl_X11_answered_1 (j := 19) rfl rfl)
def fb_X11_blind_0 : List UInt8 := [0x2a, 0x1b, 0xb6, 0x00, 0xdd, 0x9a, 0x00, 0x09, 0x2a, 0x04, 0xb6, 0x00, 0x7e, 0xac, 0x11, 0x01, 0x91, 0x3d, 0x03, 0x3e, 0x1d, 0x2a, 0xb4, 0x00, 0x12, 0xb4, 0x00, 0x36, 0xb4, 0x00, 0xa9, 0xa2, 0x00, 0x37, 0x03, 0x36, 0x04, 0x15, 0x04, 0x1c, 0xa2, 0x00, 0x28, 0x1d, 0x1b, 0x9f, 0x00, 0x23, 0x2a, 0xb4, 0x00, 0x3d, 0x1d, 0x15, 0x04, 0x1b, 0xb6, 0x00, 0xf7, 0x36, 0x05, 0x15, 0x05, 0x02]
theorem fl_X11_blind_0 {p j : Nat} {b : UInt8} (e : p = 0 + j) (h : fb_X11_blind_0[j]? = some b) : cX11_blind.data.toList[p]? = some b := fq_l (n := 64) (show (cX11_blind.data.toList.drop 0).take 64 = fb_X11_blind_0 by decide +kernel) e h
theorem dX11_blind_0 : decode cX11_blind 0 = .ok (.aload_n 0, 1) := fq1_42 (fl_X11_blind_0 (j := 0) rfl rfl)
theorem dX11_blind_1 : decode cX11_blind 1 = .ok (.iload_n 1, 1) := fq1_27 (fl_X11_blind_0 (j := 1) rfl rfl)
theorem dX11_blind_2 : decode cX11_blind 2 = .ok (.invokevirtual 221, 3) := fq3_182 (fl_X11_blind_0 (j := 2) rfl rfl) (fl_X11_blind_0 (j := 3) rfl rfl) (fl_X11_blind_0 (j := 4) rfl rfl) rfl
theorem dX11_blind_5 : decode cX11_blind 5 = .ok (.ifCond .ne 9, 3) := fq3_154 (fl_X11_blind_0 (j := 5) rfl rfl) (fl_X11_blind_0 (j := 6) rfl rfl) (fl_X11_blind_0 (j := 7) rfl rfl) (s2p rfl (bl rfl))
theorem dX11_blind_8 : decode cX11_blind 8 = .ok (.aload_n 0, 1) := fq1_42 (fl_X11_blind_0 (j := 8) rfl rfl)
theorem dX11_blind_9 : decode cX11_blind 9 = .ok (.iconst 1, 1) := fq1_4 (fl_X11_blind_0 (j := 9) rfl rfl)
theorem dX11_blind_10 : decode cX11_blind 10 = .ok (.invokevirtual 126, 3) := fq3_182 (fl_X11_blind_0 (j := 10) rfl rfl) (fl_X11_blind_0 (j := 11) rfl rfl) (fl_X11_blind_0 (j := 12) rfl rfl) rfl
theorem dX11_blind_13 : decode cX11_blind 13 = .ok (.ireturn, 1) := fq1_172 (fl_X11_blind_0 (j := 13) rfl rfl)
theorem dX11_blind_14 : decode cX11_blind 14 = .ok (.sipush 401, 3) := fq3_17 (fl_X11_blind_0 (j := 14) rfl rfl) (fl_X11_blind_0 (j := 15) rfl rfl) (fl_X11_blind_0 (j := 16) rfl rfl) (s2p rfl (bl rfl))
theorem dX11_blind_17 : decode cX11_blind 17 = .ok (.istore_n 2, 1) := fq1_61 (fl_X11_blind_0 (j := 17) rfl rfl)
theorem dX11_blind_18 : decode cX11_blind 18 = .ok (.iconst 0, 1) := fq1_3 (fl_X11_blind_0 (j := 18) rfl rfl)
theorem dX11_blind_19 : decode cX11_blind 19 = .ok (.istore_n 3, 1) := fq1_62 (fl_X11_blind_0 (j := 19) rfl rfl)
theorem dX11_blind_20 : decode cX11_blind 20 = .ok (.iload_n 3, 1) := fq1_29 (fl_X11_blind_0 (j := 20) rfl rfl)
theorem dX11_blind_21 : decode cX11_blind 21 = .ok (.aload_n 0, 1) := fq1_42 (fl_X11_blind_0 (j := 21) rfl rfl)
theorem dX11_blind_22 : decode cX11_blind 22 = .ok (.getfield 18, 3) := fq3_180 (fl_X11_blind_0 (j := 22) rfl rfl) (fl_X11_blind_0 (j := 23) rfl rfl) (fl_X11_blind_0 (j := 24) rfl rfl) rfl
theorem dX11_blind_25 : decode cX11_blind 25 = .ok (.getfield 54, 3) := fq3_180 (fl_X11_blind_0 (j := 25) rfl rfl) (fl_X11_blind_0 (j := 26) rfl rfl) (fl_X11_blind_0 (j := 27) rfl rfl) rfl
theorem dX11_blind_28 : decode cX11_blind 28 = .ok (.getfield 169, 3) := fq3_180 (fl_X11_blind_0 (j := 28) rfl rfl) (fl_X11_blind_0 (j := 29) rfl rfl) (fl_X11_blind_0 (j := 30) rfl rfl) rfl
theorem dX11_blind_31 : decode cX11_blind 31 = .ok (.if_icmp .ge 55, 3) := fq3_162 (fl_X11_blind_0 (j := 31) rfl rfl) (fl_X11_blind_0 (j := 32) rfl rfl) (fl_X11_blind_0 (j := 33) rfl rfl) (s2p rfl (bl rfl))
theorem dX11_blind_34 : decode cX11_blind 34 = .ok (.iconst 0, 1) := fq1_3 (fl_X11_blind_0 (j := 34) rfl rfl)
theorem dX11_blind_35 : decode cX11_blind 35 = .ok (.istore 4, 2) := fq2_54 (fl_X11_blind_0 (j := 35) rfl rfl) (fl_X11_blind_0 (j := 36) rfl rfl) rfl
theorem dX11_blind_37 : decode cX11_blind 37 = .ok (.iload 4, 2) := fq2_21 (fl_X11_blind_0 (j := 37) rfl rfl) (fl_X11_blind_0 (j := 38) rfl rfl) rfl
theorem dX11_blind_39 : decode cX11_blind 39 = .ok (.iload_n 2, 1) := fq1_28 (fl_X11_blind_0 (j := 39) rfl rfl)
theorem dX11_blind_40 : decode cX11_blind 40 = .ok (.if_icmp .ge 40, 3) := fq3_162 (fl_X11_blind_0 (j := 40) rfl rfl) (fl_X11_blind_0 (j := 41) rfl rfl) (fl_X11_blind_0 (j := 42) rfl rfl) (s2p rfl (bl rfl))
theorem dX11_blind_43 : decode cX11_blind 43 = .ok (.iload_n 3, 1) := fq1_29 (fl_X11_blind_0 (j := 43) rfl rfl)
theorem dX11_blind_44 : decode cX11_blind 44 = .ok (.iload_n 1, 1) := fq1_27 (fl_X11_blind_0 (j := 44) rfl rfl)
theorem dX11_blind_45 : decode cX11_blind 45 = .ok (.if_icmp .eq 35, 3) := fq3_159 (fl_X11_blind_0 (j := 45) rfl rfl) (fl_X11_blind_0 (j := 46) rfl rfl) (fl_X11_blind_0 (j := 47) rfl rfl) (s2p rfl (bl rfl))
theorem dX11_blind_48 : decode cX11_blind 48 = .ok (.aload_n 0, 1) := fq1_42 (fl_X11_blind_0 (j := 48) rfl rfl)
theorem dX11_blind_49 : decode cX11_blind 49 = .ok (.getfield 61, 3) := fq3_180 (fl_X11_blind_0 (j := 49) rfl rfl) (fl_X11_blind_0 (j := 50) rfl rfl) (fl_X11_blind_0 (j := 51) rfl rfl) rfl
theorem dX11_blind_52 : decode cX11_blind 52 = .ok (.iload_n 3, 1) := fq1_29 (fl_X11_blind_0 (j := 52) rfl rfl)
theorem dX11_blind_53 : decode cX11_blind 53 = .ok (.iload 4, 2) := fq2_21 (fl_X11_blind_0 (j := 53) rfl rfl) (fl_X11_blind_0 (j := 54) rfl rfl) rfl
theorem dX11_blind_55 : decode cX11_blind 55 = .ok (.iload_n 1, 1) := fq1_27 (fl_X11_blind_0 (j := 55) rfl rfl)
theorem dX11_blind_56 : decode cX11_blind 56 = .ok (.invokevirtual 247, 3) := fq3_182 (fl_X11_blind_0 (j := 56) rfl rfl) (fl_X11_blind_0 (j := 57) rfl rfl) (fl_X11_blind_0 (j := 58) rfl rfl) rfl
theorem dX11_blind_59 : decode cX11_blind 59 = .ok (.istore 5, 2) := fq2_54 (fl_X11_blind_0 (j := 59) rfl rfl) (fl_X11_blind_0 (j := 60) rfl rfl) rfl
theorem dX11_blind_61 : decode cX11_blind 61 = .ok (.iload 5, 2) := fq2_21 (fl_X11_blind_0 (j := 61) rfl rfl) (fl_X11_blind_0 (j := 62) rfl rfl) rfl
theorem dX11_blind_63 : decode cX11_blind 63 = .ok (.iconst (-1), 1) := fq1_2 (fl_X11_blind_0 (j := 63) rfl rfl)
def fb_X11_blind_1 : List UInt8 := [0x9f, 0x00, 0x0a, 0x1c, 0x15, 0x05, 0xb8, 0x01, 0x09, 0x3d, 0x84, 0x04, 0x01, 0xa7, 0xff, 0xd8, 0x84, 0x03, 0x01, 0xa7, 0xff, 0xc1, 0x2a, 0x1c, 0xb6, 0x00, 0xae, 0xac]
theorem fl_X11_blind_1 {p j : Nat} {b : UInt8} (e : p = 64 + j) (h : fb_X11_blind_1[j]? = some b) : cX11_blind.data.toList[p]? = some b := fq_l (n := 64) (show (cX11_blind.data.toList.drop 64).take 64 = fb_X11_blind_1 by decide +kernel) e h
theorem dX11_blind_64 : decode cX11_blind 64 = .ok (.if_icmp .eq 10, 3) := fq3_159 (fl_X11_blind_1 (j := 0) rfl rfl) (fl_X11_blind_1 (j := 1) rfl rfl) (fl_X11_blind_1 (j := 2) rfl rfl) (s2p rfl (bl rfl))
theorem dX11_blind_67 : decode cX11_blind 67 = .ok (.iload_n 2, 1) := fq1_28 (fl_X11_blind_1 (j := 3) rfl rfl)
theorem dX11_blind_68 : decode cX11_blind 68 = .ok (.iload 5, 2) := fq2_21 (fl_X11_blind_1 (j := 4) rfl rfl) (fl_X11_blind_1 (j := 5) rfl rfl) rfl
theorem dX11_blind_70 : decode cX11_blind 70 = .ok (.invokestatic 265, 3) := fq3_184 (fl_X11_blind_1 (j := 6) rfl rfl) (fl_X11_blind_1 (j := 7) rfl rfl) (fl_X11_blind_1 (j := 8) rfl rfl) rfl
theorem dX11_blind_73 : decode cX11_blind 73 = .ok (.istore_n 2, 1) := fq1_61 (fl_X11_blind_1 (j := 9) rfl rfl)
theorem dX11_blind_74 : decode cX11_blind 74 = .ok (.iinc 4 1, 3) := fq3_132 (fl_X11_blind_1 (j := 10) rfl rfl) (fl_X11_blind_1 (j := 11) rfl rfl) (fl_X11_blind_1 (j := 12) rfl rfl) rfl (s1p rfl (bl rfl))
theorem dX11_blind_77 : decode cX11_blind 77 = .ok (.goto (-40), 3) := fq3_167 (fl_X11_blind_1 (j := 13) rfl rfl) (fl_X11_blind_1 (j := 14) rfl rfl) (fl_X11_blind_1 (j := 15) rfl rfl) (by decide)
theorem dX11_blind_80 : decode cX11_blind 80 = .ok (.iinc 3 1, 3) := fq3_132 (fl_X11_blind_1 (j := 16) rfl rfl) (fl_X11_blind_1 (j := 17) rfl rfl) (fl_X11_blind_1 (j := 18) rfl rfl) rfl (s1p rfl (bl rfl))
theorem dX11_blind_83 : decode cX11_blind 83 = .ok (.goto (-63), 3) := fq3_167 (fl_X11_blind_1 (j := 19) rfl rfl) (fl_X11_blind_1 (j := 20) rfl rfl) (fl_X11_blind_1 (j := 21) rfl rfl) (by decide)
theorem dX11_blind_86 : decode cX11_blind 86 = .ok (.aload_n 0, 1) := fq1_42 (fl_X11_blind_1 (j := 22) rfl rfl)
theorem dX11_blind_87 : decode cX11_blind 87 = .ok (.iload_n 2, 1) := fq1_28 (fl_X11_blind_1 (j := 23) rfl rfl)
theorem dX11_blind_88 : decode cX11_blind 88 = .ok (.invokevirtual 174, 3) := fq3_182 (fl_X11_blind_1 (j := 24) rfl rfl) (fl_X11_blind_1 (j := 25) rfl rfl) (fl_X11_blind_1 (j := 26) rfl rfl) rfl
theorem dX11_blind_91 : decode cX11_blind 91 = .ok (.ireturn, 1) := fq1_172 (fl_X11_blind_1 (j := 27) rfl rfl)