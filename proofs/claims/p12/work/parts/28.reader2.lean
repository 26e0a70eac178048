section
theorem qf_X4_9 : Cond.fieldLink RX4 9 "SlowWorlds$Reader" "text" "[B" ∈ gw := tbt (tb2 (List.mem_of_getElem? (i := 2) rfl)) rfl
theorem iX4 : ∀ w ∈ u_ws RX4 TX4 12, w ∈ gw := by
  intro w hw
  obtain ⟨k, hk, rfl⟩ := List.mem_map.mp hw
  have hk := List.mem_range.mp hk
  match k, hk with
  | 0, _ => exact tbt (tb2 (List.mem_of_getElem? (i := 20) rfl)) rfl
  | 1, _ => exact tbt (tb2 (List.mem_of_getElem? (i := 22) rfl)) rfl
  | 2, _ => exact tbt (tb2 (List.mem_of_getElem? (i := 24) rfl)) rfl
  | 3, _ => exact tbt (tb2 (List.mem_of_getElem? (i := 26) rfl)) rfl
  | 4, _ => exact tbt (tb2 (List.mem_of_getElem? (i := 28) rfl)) rfl
  | 5, _ => exact tbt (tb2 (List.mem_of_getElem? (i := 30) rfl)) rfl
  | 6, _ => exact tbt (tb2 (List.mem_of_getElem? (i := 32) rfl)) rfl
  | 7, _ => exact tbt (tb2 (List.mem_of_getElem? (i := 34) rfl)) rfl
  | 8, _ => exact tbt (tb2 (List.mem_of_getElem? (i := 36) rfl)) rfl
  | 9, _ => exact tbt (tb2 (List.mem_of_getElem? (i := 38) rfl)) rfl
  | 10, _ => exact tbt (tb2 (List.mem_of_getElem? (i := 40) rfl)) rfl
  | 11, _ => exact tbt (tb2 (List.mem_of_getElem? (i := 42) rfl)) rfl
  | (k + 12), hk => exact absurd hk (by omega)
theorem qf_X4_47 : Cond.fieldLink RX4 47 "SlowWorlds$Reader" "end" "I" ∈ gw := tbt (tb2 (List.mem_of_getElem? (i := 8) rfl)) rfl
theorem qf_X4_68 : Cond.fieldLink RX4 68 "SlowWorlds$Reader" "kind" "I" ∈ gw := tbt (tb2 (List.mem_of_getElem? (i := 9) rfl)) rfl
theorem qf_X4_65 : Cond.fieldLink RX4 65 "SlowWorlds$Reader" "value" "I" ∈ gw := tbt (tb2 (List.mem_of_getElem? (i := 10) rfl)) rfl
theorem qf_X4_45 : Cond.fieldLink RX4 45 "SlowWorlds$Reader" "length" "I" ∈ gw := tbt (tb2 (List.mem_of_getElem? (i := 6) rfl)) rfl
theorem qf_X4_53 : Cond.fieldLink RX4 53 "SlowWorlds$Reader" "place" "I" ∈ gw := tbt (tb2 (List.mem_of_getElem? (i := 7) rfl)) rfl
theorem qf_X4_61 : Cond.fieldLink RX4 61 "SlowWorlds$Reader" "name" "J" ∈ gw := tbt (tb2 (List.mem_of_getElem? (i := 15) rfl)) rfl
theorem qf_X4_15 : Cond.fieldLink RX4 15 "SlowWorlds$Reader" "keywords" "[J" ∈ gw := tbt (tb2 (List.mem_of_getElem? (i := 3) rfl)) rfl
theorem qf_X4_56 : Cond.fieldLink RX4 56 "SlowWorlds$Reader" "keyword" "I" ∈ gw := tbt (tb2 (List.mem_of_getElem? (i := 13) rfl)) rfl
theorem qk_X4_59 : Cond.constantLong RX4 59 (-1) ∈ gw := tbt (tb3 (List.mem_of_getElem? (i := 97) rfl)) rfl
theorem qk_X4_38 : Cond.constantLong RX4 38 (32) ∈ gw := tbt (tb2 (List.mem_of_getElem? (i := 0) rfl)) rfl
theorem qk_X4_40 : Cond.constantLong RX4 40 (97) ∈ gw := tbt (tb2 (List.mem_of_getElem? (i := 1) rfl)) rfl
theorem qc_X4_readSign : Cond.code yX4_readSign cX4_readSign 2 none ∈ gw := tbt (tb3 (List.mem_of_getElem? (i := 109) rfl)) rfl
theorem qi_yX4_readSign : Cond.instanceMethod yX4_readSign ∈ gw := tbt (tb3 (List.mem_of_getElem? (i := 108) rfl)) rfl
theorem qs_X4_readSign : Cond.selects (yX4_readSign).cls yX4_readSign yX4_readSign ∈ gw := tb0 (List.mem_of_getElem? (i := 6) rfl) rfl
theorem qz_X4 : Cond.initialized RX4 ∈ gw := tbt (tb1 (List.mem_of_getElem? (i := 6) rfl)) rfl
theorem ci_X4_readSign : CIv yX4_readSign cX4_readSign 2 none 0 := ⟨qc_X4_readSign, qi_yX4_readSign, qs_X4_readSign, qz_X4, by decide +kernel⟩
theorem qm_X4_77 : Cond.methodLink RX4 77 yX4_readSign ∈ gw := tbt (tb3 (List.mem_of_getElem? (i := 106) rfl)) rfl
theorem qc_X4_readNumber : Cond.code yX4_readNumber cX4_readNumber 2 none ∈ gw := tbt (tb3 (List.mem_of_getElem? (i := 105) rfl)) rfl
theorem qi_yX4_readNumber : Cond.instanceMethod yX4_readNumber ∈ gw := tbt (tb3 (List.mem_of_getElem? (i := 104) rfl)) rfl
theorem qs_X4_readNumber : Cond.selects (yX4_readNumber).cls yX4_readNumber yX4_readNumber ∈ gw := tb0 (List.mem_of_getElem? (i := 5) rfl) rfl
theorem ci_X4_readNumber : CIv yX4_readNumber cX4_readNumber 2 none 0 := ⟨qc_X4_readNumber, qi_yX4_readNumber, qs_X4_readNumber, qz_X4, by decide +kernel⟩
theorem qm_X4_74 : Cond.methodLink RX4 74 yX4_readNumber ∈ gw := tbt (tb3 (List.mem_of_getElem? (i := 102) rfl)) rfl
theorem qc_X4_readWord : Cond.code yX4_readWord cX4_readWord 4 none ∈ gw := tbt (tb3 (List.mem_of_getElem? (i := 101) rfl)) rfl
theorem qi_yX4_readWord : Cond.instanceMethod yX4_readWord ∈ gw := tbt (tb3 (List.mem_of_getElem? (i := 100) rfl)) rfl
theorem qs_X4_readWord : Cond.selects (yX4_readWord).cls yX4_readWord yX4_readWord ∈ gw := tb0 (List.mem_of_getElem? (i := 4) rfl) rfl
theorem ci_X4_readWord : CIv yX4_readWord cX4_readWord 4 none 0 := ⟨qc_X4_readWord, qi_yX4_readWord, qs_X4_readWord, qz_X4, by decide +kernel⟩
theorem qm_X4_71 : Cond.methodLink RX4 71 yX4_readWord ∈ gw := tbt (tb3 (List.mem_of_getElem? (i := 98) rfl)) rfl
def fb_X4_next_0 : List UInt8 := [0x2a, 0xb4, 0x00, 0x2f, 0x2a, 0xb4, 0x00, 0x2d, 0xa2, 0x00, 0x2c, 0x2a, 0xb4, 0x00, 0x09, 0x2a, 0xb4, 0x00, 0x2f, 0x33, 0x10, 0x0a, 0x9f, 0x00, 0x11, 0x2a, 0xb4, 0x00, 0x09, 0x2a, 0xb4, 0x00, 0x2f, 0x33, 0x10, 0x20, 0xa0, 0x00, 0x10, 0x2a, 0x59, 0xb4, 0x00, 0x2f, 0x04, 0x60, 0xb5, 0x00, 0x2f, 0xa7, 0xff, 0xcf, 0x2a, 0x2a, 0xb4, 0x00, 0x2f, 0xb5, 0x00, 0x35, 0x2a, 0x02, 0xb5, 0x00]
theorem fl_X4_next_0 {p j : Nat} {b : UInt8} (e : p = 0 + j) (h : fb_X4_next_0[j]? = some b) : cX4_next.data.toList[p]? = some b := fq_l (n := 64) (show (cX4_next.data.toList.drop 0).take 64 = fb_X4_next_0 by decide +kernel) e h
theorem dX4_next_0 : decode cX4_next 0 = .ok (.aload_n 0, 1) := fq1_42 (fl_X4_next_0 (j := 0) rfl rfl)
theorem dX4_next_1 : decode cX4_next 1 = .ok (.getfield 47, 3) := fq3_180 (fl_X4_next_0 (j := 1) rfl rfl) (fl_X4_next_0 (j := 2) rfl rfl) (fl_X4_next_0 (j := 3) rfl rfl) rfl
theorem dX4_next_4 : decode cX4_next 4 = .ok (.aload_n 0, 1) := fq1_42 (fl_X4_next_0 (j := 4) rfl rfl)
theorem dX4_next_5 : decode cX4_next 5 = .ok (.getfield 45, 3) := fq3_180 (fl_X4_next_0 (j := 5) rfl rfl) (fl_X4_next_0 (j := 6) rfl rfl) (fl_X4_next_0 (j := 7) rfl rfl) rfl
theorem dX4_next_8 : decode cX4_next 8 = .ok (.if_icmp .ge 44, 3) := fq3_162 (fl_X4_next_0 (j := 8) rfl rfl) (fl_X4_next_0 (j := 9) rfl rfl) (fl_X4_next_0 (j := 10) rfl rfl) (s2p rfl (bl rfl))
theorem dX4_next_11 : decode cX4_next 11 = .ok (.aload_n 0, 1) := fq1_42 (fl_X4_next_0 (j := 11) rfl rfl)
theorem dX4_next_12 : decode cX4_next 12 = .ok (.getfield 9, 3) := fq3_180 (fl_X4_next_0 (j := 12) rfl rfl) (fl_X4_next_0 (j := 13) rfl rfl) (fl_X4_next_0 (j := 14) rfl rfl) rfl
theorem dX4_next_15 : decode cX4_next 15 = .ok (.aload_n 0, 1) := fq1_42 (fl_X4_next_0 (j := 15) rfl rfl)
theorem dX4_next_16 : decode cX4_next 16 = .ok (.getfield 47, 3) := fq3_180 (fl_X4_next_0 (j := 16) rfl rfl) (fl_X4_next_0 (j := 17) rfl rfl) (fl_X4_next_0 (j := 18) rfl rfl) rfl
theorem dX4_next_19 : decode cX4_next 19 = .ok (.baload, 1) := fq1_51 (fl_X4_next_0 (j := 19) rfl rfl)
theorem dX4_next_20 : decode cX4_next 20 = .ok (.bipush 10, 2) := fq2_16 (fl_X4_next_0 (j := 20) rfl rfl) (fl_X4_next_0 (j := 21) rfl rfl) (s1p rfl (bl rfl))
theorem dX4_next_22 : decode cX4_next 22 = .ok (.if_icmp .eq 17, 3) := fq3_159 (fl_X4_next_0 (j := 22) rfl rfl) (fl_X4_next_0 (j := 23) rfl rfl) (fl_X4_next_0 (j := 24) rfl rfl) (s2p rfl (bl rfl))
theorem dX4_next_25 : decode cX4_next 25 = .ok (.aload_n 0, 1) := fq1_42 (fl_X4_next_0 (j := 25) rfl rfl)
theorem dX4_next_26 : decode cX4_next 26 = .ok (.getfield 9, 3) := fq3_180 (fl_X4_next_0 (j := 26) rfl rfl) (fl_X4_next_0 (j := 27) rfl rfl) (fl_X4_next_0 (j := 28) rfl rfl) rfl
theorem dX4_next_29 : decode cX4_next 29 = .ok (.aload_n 0, 1) := fq1_42 (fl_X4_next_0 (j := 29) rfl rfl)
theorem dX4_next_30 : decode cX4_next 30 = .ok (.getfield 47, 3) := fq3_180 (fl_X4_next_0 (j := 30) rfl rfl) (fl_X4_next_0 (j := 31) rfl rfl) (fl_X4_next_0 (j := 32) rfl rfl) rfl
theorem dX4_next_33 : decode cX4_next 33 = .ok (.baload, 1) := fq1_51 (fl_X4_next_0 (j := 33) rfl rfl)
theorem dX4_next_34 : decode cX4_next 34 = .ok (.bipush 32, 2) := fq2_16 (fl_X4_next_0 (j := 34) rfl rfl) (fl_X4_next_0 (j := 35) rfl rfl) (s1p rfl (bl rfl))
theorem dX4_next_36 : decode cX4_next 36 = .ok (.if_icmp .ne 16, 3) := fq3_160 (fl_X4_next_0 (j := 36) rfl rfl) (fl_X4_next_0 (j := 37) rfl rfl) (fl_X4_next_0 (j := 38) rfl rfl) (s2p rfl (bl rfl))
theorem dX4_next_39 : decode cX4_next 39 = .ok (.aload_n 0, 1) := fq1_42 (fl_X4_next_0 (j := 39) rfl rfl)
theorem dX4_next_40 : decode cX4_next 40 = .ok (.dup, 1) := fq1_89 (fl_X4_next_0 (j := 40) rfl rfl)
theorem dX4_next_41 : decode cX4_next 41 = .ok (.getfield 47, 3) := fq3_180 (fl_X4_next_0 (j := 41) rfl rfl) (fl_X4_next_0 (j := 42) rfl rfl) (fl_X4_next_0 (j := 43) rfl rfl) rfl
theorem dX4_next_44 : decode cX4_next 44 = .ok (.iconst 1, 1) := fq1_4 (fl_X4_next_0 (j := 44) rfl rfl)
theorem dX4_next_45 : decode cX4_next 45 = .ok (.iadd, 1) := fq1_96 (fl_X4_next_0 (j := 45) rfl rfl)
theorem dX4_next_46 : decode cX4_next 46 = .ok (.putfield 47, 3) := fq3_181 (fl_X4_next_0 (j := 46) rfl rfl) (fl_X4_next_0 (j := 47) rfl rfl) (fl_X4_next_0 (j := 48) rfl rfl) rfl
theorem dX4_next_49 : decode cX4_next 49 = .ok (.goto (-49), 3) := fq3_167 (fl_X4_next_0 (j := 49) rfl rfl) (fl_X4_next_0 (j := 50) rfl rfl) (fl_X4_next_0 (j := 51) rfl rfl) (by decide)
theorem dX4_next_52 : decode cX4_next 52 = .ok (.aload_n 0, 1) := fq1_42 (fl_X4_next_0 (j := 52) rfl rfl)
theorem dX4_next_53 : decode cX4_next 53 = .ok (.aload_n 0, 1) := fq1_42 (fl_X4_next_0 (j := 53) rfl rfl)
theorem dX4_next_54 : decode cX4_next 54 = .ok (.getfield 47, 3) := fq3_180 (fl_X4_next_0 (j := 54) rfl rfl) (fl_X4_next_0 (j := 55) rfl rfl) (fl_X4_next_0 (j := 56) rfl rfl) rfl
theorem dX4_next_57 : decode cX4_next 57 = .ok (.putfield 53, 3) := fq3_181 (fl_X4_next_0 (j := 57) rfl rfl) (fl_X4_next_0 (j := 58) rfl rfl) (fl_X4_next_0 (j := 59) rfl rfl) rfl
theorem dX4_next_60 : decode cX4_next 60 = .ok (.aload_n 0, 1) := fq1_42 (fl_X4_next_0 (j := 60) rfl rfl)
theorem dX4_next_61 : decode cX4_next 61 = .ok (.iconst (-1), 1) := fq1_2 (fl_X4_next_0 (j := 61) rfl rfl)
def fb_X4_next_1 : List UInt8 := [0x38, 0x2a, 0x14, 0x00, 0x3b, 0xb5, 0x00, 0x3d, 0x2a, 0x02, 0xb5, 0x00, 0x41, 0x2a, 0xb4, 0x00, 0x2f, 0x2a, 0xb4, 0x00, 0x2d, 0xa1, 0x00, 0x0b, 0x2a, 0x03, 0xb5, 0x00, 0x44, 0xa7, 0x00, 0x4d, 0x2a, 0xb4, 0x00, 0x09, 0x2a, 0xb4, 0x00, 0x2f, 0x33, 0x10, 0x61, 0xa1, 0x00, 0x18, 0x2a, 0xb4, 0x00, 0x09, 0x2a, 0xb4, 0x00, 0x2f, 0x33, 0x10, 0x7a, 0xa3, 0x00, 0x0a, 0x2a, 0xb6, 0x00, 0x47]
theorem fl_X4_next_1 {p j : Nat} {b : UInt8} (e : p = 64 + j) (h : fb_X4_next_1[j]? = some b) : cX4_next.data.toList[p]? = some b := fq_l (n := 64) (show (cX4_next.data.toList.drop 64).take 64 = fb_X4_next_1 by decide +kernel) e h
theorem dX4_next_62 : decode cX4_next 62 = .ok (.putfield 56, 3) := fq3_181 (fl_X4_next_0 (j := 62) rfl rfl) (fl_X4_next_0 (j := 63) rfl rfl) (fl_X4_next_1 (j := 0) rfl rfl) rfl
theorem dX4_next_65 : decode cX4_next 65 = .ok (.aload_n 0, 1) := fq1_42 (fl_X4_next_1 (j := 1) rfl rfl)
theorem dX4_next_66 : decode cX4_next 66 = .ok (.ldc2_w 59, 3) := fq3_20 (fl_X4_next_1 (j := 2) rfl rfl) (fl_X4_next_1 (j := 3) rfl rfl) (fl_X4_next_1 (j := 4) rfl rfl) rfl
theorem dX4_next_69 : decode cX4_next 69 = .ok (.putfield 61, 3) := fq3_181 (fl_X4_next_1 (j := 5) rfl rfl) (fl_X4_next_1 (j := 6) rfl rfl) (fl_X4_next_1 (j := 7) rfl rfl) rfl
theorem dX4_next_72 : decode cX4_next 72 = .ok (.aload_n 0, 1) := fq1_42 (fl_X4_next_1 (j := 8) rfl rfl)
theorem dX4_next_73 : decode cX4_next 73 = .ok (.iconst (-1), 1) := fq1_2 (fl_X4_next_1 (j := 9) rfl rfl)
theorem dX4_next_74 : decode cX4_next 74 = .ok (.putfield 65, 3) := fq3_181 (fl_X4_next_1 (j := 10) rfl rfl) (fl_X4_next_1 (j := 11) rfl rfl) (fl_X4_next_1 (j := 12) rfl rfl) rfl
theorem dX4_next_77 : decode cX4_next 77 = .ok (.aload_n 0, 1) := fq1_42 (fl_X4_next_1 (j := 13) rfl rfl)
theorem dX4_next_78 : decode cX4_next 78 = .ok (.getfield 47, 3) := fq3_180 (fl_X4_next_1 (j := 14) rfl rfl) (fl_X4_next_1 (j := 15) rfl rfl) (fl_X4_next_1 (j := 16) rfl rfl) rfl
theorem dX4_next_81 : decode cX4_next 81 = .ok (.aload_n 0, 1) := fq1_42 (fl_X4_next_1 (j := 17) rfl rfl)
theorem dX4_next_82 : decode cX4_next 82 = .ok (.getfield 45, 3) := fq3_180 (fl_X4_next_1 (j := 18) rfl rfl) (fl_X4_next_1 (j := 19) rfl rfl) (fl_X4_next_1 (j := 20) rfl rfl) rfl
theorem dX4_next_85 : decode cX4_next 85 = .ok (.if_icmp .lt 11, 3) := fq3_161 (fl_X4_next_1 (j := 21) rfl rfl) (fl_X4_next_1 (j := 22) rfl rfl) (fl_X4_next_1 (j := 23) rfl rfl) (s2p rfl (bl rfl))
theorem dX4_next_88 : decode cX4_next 88 = .ok (.aload_n 0, 1) := fq1_42 (fl_X4_next_1 (j := 24) rfl rfl)
theorem dX4_next_89 : decode cX4_next 89 = .ok (.iconst 0, 1) := fq1_3 (fl_X4_next_1 (j := 25) rfl rfl)
theorem dX4_next_90 : decode cX4_next 90 = .ok (.putfield 68, 3) := fq3_181 (fl_X4_next_1 (j := 26) rfl rfl) (fl_X4_next_1 (j := 27) rfl rfl) (fl_X4_next_1 (j := 28) rfl rfl) rfl
theorem dX4_next_93 : decode cX4_next 93 = .ok (.goto 77, 3) := fq3_167 (fl_X4_next_1 (j := 29) rfl rfl) (fl_X4_next_1 (j := 30) rfl rfl) (fl_X4_next_1 (j := 31) rfl rfl) (s2p rfl (bl rfl))
theorem dX4_next_96 : decode cX4_next 96 = .ok (.aload_n 0, 1) := fq1_42 (fl_X4_next_1 (j := 32) rfl rfl)
theorem dX4_next_97 : decode cX4_next 97 = .ok (.getfield 9, 3) := fq3_180 (fl_X4_next_1 (j := 33) rfl rfl) (fl_X4_next_1 (j := 34) rfl rfl) (fl_X4_next_1 (j := 35) rfl rfl) rfl
theorem dX4_next_100 : decode cX4_next 100 = .ok (.aload_n 0, 1) := fq1_42 (fl_X4_next_1 (j := 36) rfl rfl)
theorem dX4_next_101 : decode cX4_next 101 = .ok (.getfield 47, 3) := fq3_180 (fl_X4_next_1 (j := 37) rfl rfl) (fl_X4_next_1 (j := 38) rfl rfl) (fl_X4_next_1 (j := 39) rfl rfl) rfl
theorem dX4_next_104 : decode cX4_next 104 = .ok (.baload, 1) := fq1_51 (fl_X4_next_1 (j := 40) rfl rfl)
theorem dX4_next_105 : decode cX4_next 105 = .ok (.bipush 97, 2) := fq2_16 (fl_X4_next_1 (j := 41) rfl rfl) (fl_X4_next_1 (j := 42) rfl rfl) (s1p rfl (bl rfl))
theorem dX4_next_107 : decode cX4_next 107 = .ok (.if_icmp .lt 24, 3) := fq3_161 (fl_X4_next_1 (j := 43) rfl rfl) (fl_X4_next_1 (j := 44) rfl rfl) (fl_X4_next_1 (j := 45) rfl rfl) (s2p rfl (bl rfl))
theorem dX4_next_110 : decode cX4_next 110 = .ok (.aload_n 0, 1) := fq1_42 (fl_X4_next_1 (j := 46) rfl rfl)
theorem dX4_next_111 : decode cX4_next 111 = .ok (.getfield 9, 3) := fq3_180 (fl_X4_next_1 (j := 47) rfl rfl) (fl_X4_next_1 (j := 48) rfl rfl) (fl_X4_next_1 (j := 49) rfl rfl) rfl
theorem dX4_next_114 : decode cX4_next 114 = .ok (.aload_n 0, 1) := fq1_42 (fl_X4_next_1 (j := 50) rfl rfl)
theorem dX4_next_115 : decode cX4_next 115 = .ok (.getfield 47, 3) := fq3_180 (fl_X4_next_1 (j := 51) rfl rfl) (fl_X4_next_1 (j := 52) rfl rfl) (fl_X4_next_1 (j := 53) rfl rfl) rfl
theorem dX4_next_118 : decode cX4_next 118 = .ok (.baload, 1) := fq1_51 (fl_X4_next_1 (j := 54) rfl rfl)
theorem dX4_next_119 : decode cX4_next 119 = .ok (.bipush 122, 2) := fq2_16 (fl_X4_next_1 (j := 55) rfl rfl) (fl_X4_next_1 (j := 56) rfl rfl) (s1p rfl (bl rfl))
theorem dX4_next_121 : decode cX4_next 121 = .ok (.if_icmp .gt 10, 3) := fq3_163 (fl_X4_next_1 (j := 57) rfl rfl) (fl_X4_next_1 (j := 58) rfl rfl) (fl_X4_next_1 (j := 59) rfl rfl) (s2p rfl (bl rfl))
theorem dX4_next_124 : decode cX4_next 124 = .ok (.aload_n 0, 1) := fq1_42 (fl_X4_next_1 (j := 60) rfl rfl)
theorem dX4_next_125 : decode cX4_next 125 = .ok (.invokevirtual 71, 3) := fq3_182 (fl_X4_next_1 (j := 61) rfl rfl) (fl_X4_next_1 (j := 62) rfl rfl) (fl_X4_next_1 (j := 63) rfl rfl) rfl
def fb_X4_next_2 : List UInt8 := [0xa7, 0x00, 0x2a, 0x2a, 0xb4, 0x00, 0x09, 0x2a, 0xb4, 0x00, 0x2f, 0x33, 0x10, 0x30, 0xa1, 0x00, 0x18, 0x2a, 0xb4, 0x00, 0x09, 0x2a, 0xb4, 0x00, 0x2f, 0x33, 0x10, 0x39, 0xa3, 0x00, 0x0a, 0x2a, 0xb6, 0x00, 0x4a, 0xa7, 0x00, 0x07, 0x2a, 0xb6, 0x00, 0x4d, 0xb1]
theorem fl_X4_next_2 {p j : Nat} {b : UInt8} (e : p = 128 + j) (h : fb_X4_next_2[j]? = some b) : cX4_next.data.toList[p]? = some b := fq_l (n := 64) (show (cX4_next.data.toList.drop 128).take 64 = fb_X4_next_2 by decide +kernel) e h
theorem dX4_next_128 : decode cX4_next 128 = .ok (.goto 42, 3) := fq3_167 (fl_X4_next_2 (j := 0) rfl rfl) (fl_X4_next_2 (j := 1) rfl rfl) (fl_X4_next_2 (j := 2) rfl rfl) (s2p rfl (bl rfl))
theorem dX4_next_131 : decode cX4_next 131 = .ok (.aload_n 0, 1) := fq1_42 (fl_X4_next_2 (j := 3) rfl rfl)
theorem dX4_next_132 : decode cX4_next 132 = .ok (.getfield 9, 3) := fq3_180 (fl_X4_next_2 (j := 4) rfl rfl) (fl_X4_next_2 (j := 5) rfl rfl) (fl_X4_next_2 (j := 6) rfl rfl) rfl
theorem dX4_next_135 : decode cX4_next 135 = .ok (.aload_n 0, 1) := fq1_42 (fl_X4_next_2 (j := 7) rfl rfl)
theorem dX4_next_136 : decode cX4_next 136 = .ok (.getfield 47, 3) := fq3_180 (fl_X4_next_2 (j := 8) rfl rfl) (fl_X4_next_2 (j := 9) rfl rfl) (fl_X4_next_2 (j := 10) rfl rfl) rfl
theorem dX4_next_139 : decode cX4_next 139 = .ok (.baload, 1) := fq1_51 (fl_X4_next_2 (j := 11) rfl rfl)
theorem dX4_next_140 : decode cX4_next 140 = .ok (.bipush 48, 2) := fq2_16 (fl_X4_next_2 (j := 12) rfl rfl) (fl_X4_next_2 (j := 13) rfl rfl) (s1p rfl (bl rfl))
theorem dX4_next_142 : decode cX4_next 142 = .ok (.if_icmp .lt 24, 3) := fq3_161 (fl_X4_next_2 (j := 14) rfl rfl) (fl_X4_next_2 (j := 15) rfl rfl) (fl_X4_next_2 (j := 16) rfl rfl) (s2p rfl (bl rfl))
theorem dX4_next_145 : decode cX4_next 145 = .ok (.aload_n 0, 1) := fq1_42 (fl_X4_next_2 (j := 17) rfl rfl)
theorem dX4_next_146 : decode cX4_next 146 = .ok (.getfield 9, 3) := fq3_180 (fl_X4_next_2 (j := 18) rfl rfl) (fl_X4_next_2 (j := 19) rfl rfl) (fl_X4_next_2 (j := 20) rfl rfl) rfl
theorem dX4_next_149 : decode cX4_next 149 = .ok (.aload_n 0, 1) := fq1_42 (fl_X4_next_2 (j := 21) rfl rfl)
theorem dX4_next_150 : decode cX4_next 150 = .ok (.getfield 47, 3) := fq3_180 (fl_X4_next_2 (j := 22) rfl rfl) (fl_X4_next_2 (j := 23) rfl rfl) (fl_X4_next_2 (j := 24) rfl rfl) rfl
theorem dX4_next_153 : decode cX4_next 153 = .ok (.baload, 1) := fq1_51 (fl_X4_next_2 (j := 25) rfl rfl)
theorem dX4_next_154 : decode cX4_next 154 = .ok (.bipush 57, 2) := fq2_16 (fl_X4_next_2 (j := 26) rfl rfl) (fl_X4_next_2 (j := 27) rfl rfl) (s1p rfl (bl rfl))
theorem dX4_next_156 : decode cX4_next 156 = .ok (.if_icmp .gt 10, 3) := fq3_163 (fl_X4_next_2 (j := 28) rfl rfl) (fl_X4_next_2 (j := 29) rfl rfl) (fl_X4_next_2 (j := 30) rfl rfl) (s2p rfl (bl rfl))
theorem dX4_next_159 : decode cX4_next 159 = .ok (.aload_n 0, 1) := fq1_42 (fl_X4_next_2 (j := 31) rfl rfl)
theorem dX4_next_160 : decode cX4_next 160 = .ok (.invokevirtual 74, 3) := fq3_182 (fl_X4_next_2 (j := 32) rfl rfl) (fl_X4_next_2 (j := 33) rfl rfl) (fl_X4_next_2 (j := 34) rfl rfl) rfl
theorem dX4_next_163 : decode cX4_next 163 = .ok (.goto 7, 3) := fq3_167 (fl_X4_next_2 (j := 35) rfl rfl) (fl_X4_next_2 (j := 36) rfl rfl) (fl_X4_next_2 (j := 37) rfl rfl) (s2p rfl (bl rfl))
theorem dX4_next_166 : decode cX4_next 166 = .ok (.aload_n 0, 1) := fq1_42 (fl_X4_next_2 (j := 38) rfl rfl)
theorem dX4_next_167 : decode cX4_next 167 = .ok (.invokevirtual 77, 3) := fq3_182 (fl_X4_next_2 (j := 39) rfl rfl) (fl_X4_next_2 (j := 40) rfl rfl) (fl_X4_next_2 (j := 41) rfl rfl) rfl
theorem dX4_next_170 : decode cX4_next 170 = .ok (.return_, 1) := fq1_177 (fl_X4_next_2 (j := 42) rfl rfl)
def fb_X4_readNumber_0 : List UInt8 := [0x03, 0x3c, 0x2a, 0xb4, 0x00, 0x2f, 0x2a, 0xb4, 0x00, 0x2d, 0xa2, 0x00, 0x4f, 0x2a, 0xb4, 0x00, 0x09, 0x2a, 0xb4, 0x00, 0x2f, 0x33, 0x10, 0x30, 0xa1, 0x00, 0x41, 0x2a, 0xb4, 0x00, 0x09, 0x2a, 0xb4, 0x00, 0x2f, 0x33, 0x10, 0x39, 0xa3, 0x00, 0x33, 0x2a, 0xb4, 0x00, 0x2f, 0x2a, 0xb4, 0x00, 0x35, 0x64, 0x07, 0xa2, 0x00, 0x17, 0x1b, 0x10, 0x0a, 0x68, 0x2a, 0xb4, 0x00, 0x09, 0x2a, 0xb4]
theorem fl_X4_readNumber_0 {p j : Nat} {b : UInt8} (e : p = 0 + j) (h : fb_X4_readNumber_0[j]? = some b) : cX4_readNumber.data.toList[p]? = some b := fq_l (n := 64) (show (cX4_readNumber.data.toList.drop 0).take 64 = fb_X4_readNumber_0 by decide +kernel) e h
theorem dX4_readNumber_0 : decode cX4_readNumber 0 = .ok (.iconst 0, 1) := fq1_3 (fl_X4_readNumber_0 (j := 0) rfl rfl)
theorem dX4_readNumber_1 : decode cX4_readNumber 1 = .ok (.istore_n 1, 1) := fq1_60 (fl_X4_readNumber_0 (j := 1) rfl rfl)
theorem dX4_readNumber_2 : decode cX4_readNumber 2 = .ok (.aload_n 0, 1) := fq1_42 (fl_X4_readNumber_0 (j := 2) rfl rfl)
theorem dX4_readNumber_3 : decode cX4_readNumber 3 = .ok (.getfield 47, 3) := fq3_180 (fl_X4_readNumber_0 (j := 3) rfl rfl) (fl_X4_readNumber_0 (j := 4) rfl rfl) (fl_X4_readNumber_0 (j := 5) rfl rfl) rfl
theorem dX4_readNumber_6 : decode cX4_readNumber 6 = .ok (.aload_n 0, 1) := fq1_42 (fl_X4_readNumber_0 (j := 6) rfl rfl)
theorem dX4_readNumber_7 : decode cX4_readNumber 7 = .ok (.getfield 45, 3) := fq3_180 (fl_X4_readNumber_0 (j := 7) rfl rfl) (fl_X4_readNumber_0 (j := 8) rfl rfl) (fl_X4_readNumber_0 (j := 9) rfl rfl) rfl
theorem dX4_readNumber_10 : decode cX4_readNumber 10 = .ok (.if_icmp .ge 79, 3) := fq3_162 (fl_X4_readNumber_0 (j := 10) rfl rfl) (fl_X4_readNumber_0 (j := 11) rfl rfl) (fl_X4_readNumber_0 (j := 12) rfl rfl) (s2p rfl (bl rfl))
theorem dX4_readNumber_13 : decode cX4_readNumber 13 = .ok (.aload_n 0, 1) := fq1_42 (fl_X4_readNumber_0 (j := 13) rfl rfl)
theorem dX4_readNumber_14 : decode cX4_readNumber 14 = .ok (.getfield 9, 3) := fq3_180 (fl_X4_readNumber_0 (j := 14) rfl rfl) (fl_X4_readNumber_0 (j := 15) rfl rfl) (fl_X4_readNumber_0 (j := 16) rfl rfl) rfl
theorem dX4_readNumber_17 : decode cX4_readNumber 17 = .ok (.aload_n 0, 1) := fq1_42 (fl_X4_readNumber_0 (j := 17) rfl rfl)
theorem dX4_readNumber_18 : decode cX4_readNumber 18 = .ok (.getfield 47, 3) := fq3_180 (fl_X4_readNumber_0 (j := 18) rfl rfl) (fl_X4_readNumber_0 (j := 19) rfl rfl) (fl_X4_readNumber_0 (j := 20) rfl rfl) rfl
theorem dX4_readNumber_21 : decode cX4_readNumber 21 = .ok (.baload, 1) := fq1_51 (fl_X4_readNumber_0 (j := 21) rfl rfl)
theorem dX4_readNumber_22 : decode cX4_readNumber 22 = .ok (.bipush 48, 2) := fq2_16 (fl_X4_readNumber_0 (j := 22) rfl rfl) (fl_X4_readNumber_0 (j := 23) rfl rfl) (s1p rfl (bl rfl))
theorem dX4_readNumber_24 : decode cX4_readNumber 24 = .ok (.if_icmp .lt 65, 3) := fq3_161 (fl_X4_readNumber_0 (j := 24) rfl rfl) (fl_X4_readNumber_0 (j := 25) rfl rfl) (fl_X4_readNumber_0 (j := 26) rfl rfl) (s2p rfl (bl rfl))
theorem dX4_readNumber_27 : decode cX4_readNumber 27 = .ok (.aload_n 0, 1) := fq1_42 (fl_X4_readNumber_0 (j := 27) rfl rfl)
theorem dX4_readNumber_28 : decode cX4_readNumber 28 = .ok (.getfield 9, 3) := fq3_180 (fl_X4_readNumber_0 (j := 28) rfl rfl) (fl_X4_readNumber_0 (j := 29) rfl rfl) (fl_X4_readNumber_0 (j := 30) rfl rfl) rfl
theorem dX4_readNumber_31 : decode cX4_readNumber 31 = .ok (.aload_n 0, 1) := fq1_42 (fl_X4_readNumber_0 (j := 31) rfl rfl)
theorem dX4_readNumber_32 : decode cX4_readNumber 32 = .ok (.getfield 47, 3) := fq3_180 (fl_X4_readNumber_0 (j := 32) rfl rfl) (fl_X4_readNumber_0 (j := 33) rfl rfl) (fl_X4_readNumber_0 (j := 34) rfl rfl) rfl
theorem dX4_readNumber_35 : decode cX4_readNumber 35 = .ok (.baload, 1) := fq1_51 (fl_X4_readNumber_0 (j := 35) rfl rfl)
theorem dX4_readNumber_36 : decode cX4_readNumber 36 = .ok (.bipush 57, 2) := fq2_16 (fl_X4_readNumber_0 (j := 36) rfl rfl) (fl_X4_readNumber_0 (j := 37) rfl rfl) (s1p rfl (bl rfl))
theorem dX4_readNumber_38 : decode cX4_readNumber 38 = .ok (.if_icmp .gt 51, 3) := fq3_163 (fl_X4_readNumber_0 (j := 38) rfl rfl) (fl_X4_readNumber_0 (j := 39) rfl rfl) (fl_X4_readNumber_0 (j := 40) rfl rfl) (s2p rfl (bl rfl))
theorem dX4_readNumber_41 : decode cX4_readNumber 41 = .ok (.aload_n 0, 1) := fq1_42 (fl_X4_readNumber_0 (j := 41) rfl rfl)
theorem dX4_readNumber_42 : decode cX4_readNumber 42 = .ok (.getfield 47, 3) := fq3_180 (fl_X4_readNumber_0 (j := 42) rfl rfl) (fl_X4_readNumber_0 (j := 43) rfl rfl) (fl_X4_readNumber_0 (j := 44) rfl rfl) rfl
theorem dX4_readNumber_45 : decode cX4_readNumber 45 = .ok (.aload_n 0, 1) := fq1_42 (fl_X4_readNumber_0 (j := 45) rfl rfl)
theorem dX4_readNumber_46 : decode cX4_readNumber 46 = .ok (.getfield 53, 3) := fq3_180 (fl_X4_readNumber_0 (j := 46) rfl rfl) (fl_X4_readNumber_0 (j := 47) rfl rfl) (fl_X4_readNumber_0 (j := 48) rfl rfl) rfl
theorem dX4_readNumber_49 : decode cX4_readNumber 49 = .ok (.isub, 1) := fq1_100 (fl_X4_readNumber_0 (j := 49) rfl rfl)
theorem dX4_readNumber_50 : decode cX4_readNumber 50 = .ok (.iconst 4, 1) := fq1_7 (fl_X4_readNumber_0 (j := 50) rfl rfl)
theorem dX4_readNumber_51 : decode cX4_readNumber 51 = .ok (.if_icmp .ge 23, 3) := fq3_162 (fl_X4_readNumber_0 (j := 51) rfl rfl) (fl_X4_readNumber_0 (j := 52) rfl rfl) (fl_X4_readNumber_0 (j := 53) rfl rfl) (s2p rfl (bl rfl))
theorem dX4_readNumber_54 : decode cX4_readNumber 54 = .ok (.iload_n 1, 1) := fq1_27 (fl_X4_readNumber_0 (j := 54) rfl rfl)
theorem dX4_readNumber_55 : decode cX4_readNumber 55 = .ok (.bipush 10, 2) := fq2_16 (fl_X4_readNumber_0 (j := 55) rfl rfl) (fl_X4_readNumber_0 (j := 56) rfl rfl) (s1p rfl (bl rfl))
theorem dX4_readNumber_57 : decode cX4_readNumber 57 = .ok (.imul, 1) := fq1_104 (fl_X4_readNumber_0 (j := 57) rfl rfl)
theorem dX4_readNumber_58 : decode cX4_readNumber 58 = .ok (.aload_n 0, 1) := fq1_42 (fl_X4_readNumber_0 (j := 58) rfl rfl)
theorem dX4_readNumber_59 : decode cX4_readNumber 59 = .ok (.getfield 9, 3) := fq3_180 (fl_X4_readNumber_0 (j := 59) rfl rfl) (fl_X4_readNumber_0 (j := 60) rfl rfl) (fl_X4_readNumber_0 (j := 61) rfl rfl) rfl
theorem dX4_readNumber_62 : decode cX4_readNumber 62 = .ok (.aload_n 0, 1) := fq1_42 (fl_X4_readNumber_0 (j := 62) rfl rfl)
def fb_X4_readNumber_1 : List UInt8 := [0x00, 0x2f, 0x33, 0x60, 0x10, 0x30, 0x64, 0xa7, 0x00, 0x04, 0x1b, 0x3c, 0x2a, 0x59, 0xb4, 0x00, 0x2f, 0x04, 0x60, 0xb5, 0x00, 0x2f, 0xa7, 0xff, 0xac, 0x2a, 0x2a, 0xb4, 0x00, 0x2f, 0x2a, 0xb4, 0x00, 0x35, 0x64, 0x07, 0xa4, 0x00, 0x07, 0x07, 0xa7, 0x00, 0x04, 0x05, 0xb5, 0x00, 0x44, 0x2a, 0x1b, 0xb5, 0x00, 0x41, 0xb1]
theorem fl_X4_readNumber_1 {p j : Nat} {b : UInt8} (e : p = 64 + j) (h : fb_X4_readNumber_1[j]? = some b) : cX4_readNumber.data.toList[p]? = some b := fq_l (n := 64) (show (cX4_readNumber.data.toList.drop 64).take 64 = fb_X4_readNumber_1 by decide +kernel) e h
theorem dX4_readNumber_63 : decode cX4_readNumber 63 = .ok (.getfield 47, 3) := fq3_180 (fl_X4_readNumber_0 (j := 63) rfl rfl) (fl_X4_readNumber_1 (j := 0) rfl rfl) (fl_X4_readNumber_1 (j := 1) rfl rfl) rfl
theorem dX4_readNumber_66 : decode cX4_readNumber 66 = .ok (.baload, 1) := fq1_51 (fl_X4_readNumber_1 (j := 2) rfl rfl)
theorem dX4_readNumber_67 : decode cX4_readNumber 67 = .ok (.iadd, 1) := fq1_96 (fl_X4_readNumber_1 (j := 3) rfl rfl)
theorem dX4_readNumber_68 : decode cX4_readNumber 68 = .ok (.bipush 48, 2) := fq2_16 (fl_X4_readNumber_1 (j := 4) rfl rfl) (fl_X4_readNumber_1 (j := 5) rfl rfl) (s1p rfl (bl rfl))
theorem dX4_readNumber_70 : decode cX4_readNumber 70 = .ok (.isub, 1) := fq1_100 (fl_X4_readNumber_1 (j := 6) rfl rfl)
theorem dX4_readNumber_71 : decode cX4_readNumber 71 = .ok (.goto 4, 3) := fq3_167 (fl_X4_readNumber_1 (j := 7) rfl rfl) (fl_X4_readNumber_1 (j := 8) rfl rfl) (fl_X4_readNumber_1 (j := 9) rfl rfl) (s2p rfl (bl rfl))
theorem dX4_readNumber_74 : decode cX4_readNumber 74 = .ok (.iload_n 1, 1) := fq1_27 (fl_X4_readNumber_1 (j := 10) rfl rfl)
theorem dX4_readNumber_75 : decode cX4_readNumber 75 = .ok (.istore_n 1, 1) := fq1_60 (fl_X4_readNumber_1 (j := 11) rfl rfl)
theorem dX4_readNumber_76 : decode cX4_readNumber 76 = .ok (.aload_n 0, 1) := fq1_42 (fl_X4_readNumber_1 (j := 12) rfl rfl)
theorem dX4_readNumber_77 : decode cX4_readNumber 77 = .ok (.dup, 1) := fq1_89 (fl_X4_readNumber_1 (j := 13) rfl rfl)
theorem dX4_readNumber_78 : decode cX4_readNumber 78 = .ok (.getfield 47, 3) := fq3_180 (fl_X4_readNumber_1 (j := 14) rfl rfl) (fl_X4_readNumber_1 (j := 15) rfl rfl) (fl_X4_readNumber_1 (j := 16) rfl rfl) rfl
theorem dX4_readNumber_81 : decode cX4_readNumber 81 = .ok (.iconst 1, 1) := fq1_4 (fl_X4_readNumber_1 (j := 17) rfl rfl)
theorem dX4_readNumber_82 : decode cX4_readNumber 82 = .ok (.iadd, 1) := fq1_96 (fl_X4_readNumber_1 (j := 18) rfl rfl)
theorem dX4_readNumber_83 : decode cX4_readNumber 83 = .ok (.putfield 47, 3) := fq3_181 (fl_X4_readNumber_1 (j := 19) rfl rfl) (fl_X4_readNumber_1 (j := 20) rfl rfl) (fl_X4_readNumber_1 (j := 21) rfl rfl) rfl
theorem dX4_readNumber_86 : decode cX4_readNumber 86 = .ok (.goto (-84), 3) := fq3_167 (fl_X4_readNumber_1 (j := 22) rfl rfl) (fl_X4_readNumber_1 (j := 23) rfl rfl) (fl_X4_readNumber_1 (j := 24) rfl rfl) (by decide)
theorem dX4_readNumber_89 : decode cX4_readNumber 89 = .ok (.aload_n 0, 1) := fq1_42 (fl_X4_readNumber_1 (j := 25) rfl rfl)
theorem dX4_readNumber_90 : decode cX4_readNumber 90 = .ok (.aload_n 0, 1) := fq1_42 (fl_X4_readNumber_1 (j := 26) rfl rfl)
theorem dX4_readNumber_91 : decode cX4_readNumber 91 = .ok (.getfield 47, 3) := fq3_180 (fl_X4_readNumber_1 (j := 27) rfl rfl) (fl_X4_readNumber_1 (j := 28) rfl rfl) (fl_X4_readNumber_1 (j := 29) rfl rfl) rfl
theorem dX4_readNumber_94 : decode cX4_readNumber 94 = .ok (.aload_n 0, 1) := fq1_42 (fl_X4_readNumber_1 (j := 30) rfl rfl)
theorem dX4_readNumber_95 : decode cX4_readNumber 95 = .ok (.getfield 53, 3) := fq3_180 (fl_X4_readNumber_1 (j := 31) rfl rfl) (fl_X4_readNumber_1 (j := 32) rfl rfl) (fl_X4_readNumber_1 (j := 33) rfl rfl) rfl
theorem dX4_readNumber_98 : decode cX4_readNumber 98 = .ok (.isub, 1) := fq1_100 (fl_X4_readNumber_1 (j := 34) rfl rfl)
theorem dX4_readNumber_99 : decode cX4_readNumber 99 = .ok (.iconst 4, 1) := fq1_7 (fl_X4_readNumber_1 (j := 35) rfl rfl)
theorem dX4_readNumber_100 : decode cX4_readNumber 100 = .ok (.if_icmp .le 7, 3) := fq3_164 (fl_X4_readNumber_1 (j := 36) rfl rfl) (fl_X4_readNumber_1 (j := 37) rfl rfl) (fl_X4_readNumber_1 (j := 38) rfl rfl) (s2p rfl (bl rfl))
theorem dX4_readNumber_103 : decode cX4_readNumber 103 = .ok (.iconst 4, 1) := fq1_7 (fl_X4_readNumber_1 (j := 39) rfl rfl)
theorem dX4_readNumber_104 : decode cX4_readNumber 104 = .ok (.goto 4, 3) := fq3_167 (fl_X4_readNumber_1 (j := 40) rfl rfl) (fl_X4_readNumber_1 (j := 41) rfl rfl) (fl_X4_readNumber_1 (j := 42) rfl rfl) (s2p rfl (bl rfl))
theorem dX4_readNumber_107 : decode cX4_readNumber 107 = .ok (.iconst 2, 1) := fq1_5 (fl_X4_readNumber_1 (j := 43) rfl rfl)
theorem dX4_readNumber_108 : decode cX4_readNumber 108 = .ok (.putfield 68, 3) := fq3_181 (fl_X4_readNumber_1 (j := 44) rfl rfl) (fl_X4_readNumber_1 (j := 45) rfl rfl) (fl_X4_readNumber_1 (j := 46) rfl rfl) rfl
theorem dX4_readNumber_111 : decode cX4_readNumber 111 = .ok (.aload_n 0, 1) := fq1_42 (fl_X4_readNumber_1 (j := 47) rfl rfl)
theorem dX4_readNumber_112 : decode cX4_readNumber 112 = .ok (.iload_n 1, 1) := fq1_27 (fl_X4_readNumber_1 (j := 48) rfl rfl)
theorem dX4_readNumber_113 : decode cX4_readNumber 113 = .ok (.putfield 65, 3) := fq3_181 (fl_X4_readNumber_1 (j := 49) rfl rfl) (fl_X4_readNumber_1 (j := 50) rfl rfl) (fl_X4_readNumber_1 (j := 51) rfl rfl) rfl
theorem dX4_readNumber_116 : decode cX4_readNumber 116 = .ok (.return_, 1) := fq1_177 (fl_X4_readNumber_1 (j := 52) rfl rfl)
def fb_X4_readSign_0 : List UInt8 := [0x2a, 0xb4, 0x00, 0x09, 0x2a, 0xb4, 0x00, 0x2f, 0x33, 0x3c, 0x2a, 0x1b, 0x10, 0x3b, 0x9f, 0x00, 0x15, 0x1b, 0x10, 0x3c, 0x9f, 0x00, 0x0f, 0x1b, 0x10, 0x3e, 0x9f, 0x00, 0x09, 0x1b, 0x10, 0x3d, 0xa0, 0x00, 0x07, 0x06, 0xa7, 0x00, 0x04, 0x07, 0xb5, 0x00, 0x44, 0x2a, 0x1b, 0xb5, 0x00, 0x41, 0x2a, 0x59, 0xb4, 0x00, 0x2f, 0x04, 0x60, 0xb5, 0x00, 0x2f, 0xb1]
theorem fl_X4_readSign_0 {p j : Nat} {b : UInt8} (e : p = 0 + j) (h : fb_X4_readSign_0[j]? = some b) : cX4_readSign.data.toList[p]? = some b := fq_l (n := 64) (show (cX4_readSign.data.toList.drop 0).take 64 = fb_X4_readSign_0 by decide +kernel) e h
theorem dX4_readSign_0 : decode cX4_readSign 0 = .ok (.aload_n 0, 1) := fq1_42 (fl_X4_readSign_0 (j := 0) rfl rfl)
theorem dX4_readSign_1 : decode cX4_readSign 1 = .ok (.getfield 9, 3) := fq3_180 (fl_X4_readSign_0 (j := 1) rfl rfl) (fl_X4_readSign_0 (j := 2) rfl rfl) (fl_X4_readSign_0 (j := 3) rfl rfl) rfl
theorem dX4_readSign_4 : decode cX4_readSign 4 = .ok (.aload_n 0, 1) := fq1_42 (fl_X4_readSign_0 (j := 4) rfl rfl)
theorem dX4_readSign_5 : decode cX4_readSign 5 = .ok (.getfield 47, 3) := fq3_180 (fl_X4_readSign_0 (j := 5) rfl rfl) (fl_X4_readSign_0 (j := 6) rfl rfl) (fl_X4_readSign_0 (j := 7) rfl rfl) rfl
theorem dX4_readSign_8 : decode cX4_readSign 8 = .ok (.baload, 1) := fq1_51 (fl_X4_readSign_0 (j := 8) rfl rfl)
theorem dX4_readSign_9 : decode cX4_readSign 9 = .ok (.istore_n 1, 1) := fq1_60 (fl_X4_readSign_0 (j := 9) rfl rfl)
theorem dX4_readSign_10 : decode cX4_readSign 10 = .ok (.aload_n 0, 1) := fq1_42 (fl_X4_readSign_0 (j := 10) rfl rfl)
theorem dX4_readSign_11 : decode cX4_readSign 11 = .ok (.iload_n 1, 1) := fq1_27 (fl_X4_readSign_0 (j := 11) rfl rfl)
theorem dX4_readSign_12 : decode cX4_readSign 12 = .ok (.bipush 59, 2) := fq2_16 (fl_X4_readSign_0 (j := 12) rfl rfl) (fl_X4_readSign_0 (j := 13) rfl rfl) (s1p rfl (bl rfl))
theorem dX4_readSign_14 : decode cX4_readSign 14 = .ok (.if_icmp .eq 21, 3) := fq3_159 (fl_X4_readSign_0 (j := 14) rfl rfl) (fl_X4_readSign_0 (j := 15) rfl rfl) (fl_X4_readSign_0 (j := 16) rfl rfl) (s2p rfl (bl rfl))
theorem dX4_readSign_17 : decode cX4_readSign 17 = .ok (.iload_n 1, 1) := fq1_27 (fl_X4_readSign_0 (j := 17) rfl rfl)
theorem dX4_readSign_18 : decode cX4_readSign 18 = .ok (.bipush 60, 2) := fq2_16 (fl_X4_readSign_0 (j := 18) rfl rfl) (fl_X4_readSign_0 (j := 19) rfl rfl) (s1p rfl (bl rfl))
theorem dX4_readSign_20 : decode cX4_readSign 20 = .ok (.if_icmp .eq 15, 3) := fq3_159 (fl_X4_readSign_0 (j := 20) rfl rfl) (fl_X4_readSign_0 (j := 21) rfl rfl) (fl_X4_readSign_0 (j := 22) rfl rfl) (s2p rfl (bl rfl))
theorem dX4_readSign_23 : decode cX4_readSign 23 = .ok (.iload_n 1, 1) := fq1_27 (fl_X4_readSign_0 (j := 23) rfl rfl)
theorem dX4_readSign_24 : decode cX4_readSign 24 = .ok (.bipush 62, 2) := fq2_16 (fl_X4_readSign_0 (j := 24) rfl rfl) (fl_X4_readSign_0 (j := 25) rfl rfl) (s1p rfl (bl rfl))
theorem dX4_readSign_26 : decode cX4_readSign 26 = .ok (.if_icmp .eq 9, 3) := fq3_159 (fl_X4_readSign_0 (j := 26) rfl rfl) (fl_X4_readSign_0 (j := 27) rfl rfl) (fl_X4_readSign_0 (j := 28) rfl rfl) (s2p rfl (bl rfl))
theorem dX4_readSign_29 : decode cX4_readSign 29 = .ok (.iload_n 1, 1) := fq1_27 (fl_X4_readSign_0 (j := 29) rfl rfl)
theorem dX4_readSign_30 : decode cX4_readSign 30 = .ok (.bipush 61, 2) := fq2_16 (fl_X4_readSign_0 (j := 30) rfl rfl) (fl_X4_readSign_0 (j := 31) rfl rfl) (s1p rfl (bl rfl))
theorem dX4_readSign_32 : decode cX4_readSign 32 = .ok (.if_icmp .ne 7, 3) := fq3_160 (fl_X4_readSign_0 (j := 32) rfl rfl) (fl_X4_readSign_0 (j := 33) rfl rfl) (fl_X4_readSign_0 (j := 34) rfl rfl) (s2p rfl (bl rfl))
theorem dX4_readSign_35 : decode cX4_readSign 35 = .ok (.iconst 3, 1) := fq1_6 (fl_X4_readSign_0 (j := 35) rfl rfl)
theorem dX4_readSign_36 : decode cX4_readSign 36 = .ok (.goto 4, 3) := fq3_167 (fl_X4_readSign_0 (j := 36) rfl rfl) (fl_X4_readSign_0 (j := 37) rfl rfl) (fl_X4_readSign_0 (j := 38) rfl rfl) (s2p rfl (bl rfl))
theorem dX4_readSign_39 : decode cX4_readSign 39 = .ok (.iconst 4, 1) := fq1_7 (fl_X4_readSign_0 (j := 39) rfl rfl)
theorem dX4_readSign_40 : decode cX4_readSign 40 = .ok (.putfield 68, 3) := fq3_181 (fl_X4_readSign_0 (j := 40) rfl rfl) (fl_X4_readSign_0 (j := 41) rfl rfl) (fl_X4_readSign_0 (j := 42) rfl rfl) rfl
theorem dX4_readSign_43 : decode cX4_readSign 43 = .ok (.aload_n 0, 1) := fq1_42 (fl_X4_readSign_0 (j := 43) rfl rfl)
theorem dX4_readSign_44 : decode cX4_readSign 44 = .ok (.iload_n 1, 1) := fq1_27 (fl_X4_readSign_0 (j := 44) rfl rfl)
theorem dX4_readSign_45 : decode cX4_readSign 45 = .ok (.putfield 65, 3) := fq3_181 (fl_X4_readSign_0 (j := 45) rfl rfl) (fl_X4_readSign_0 (j := 46) rfl rfl) (fl_X4_readSign_0 (j := 47) rfl rfl) rfl
theorem dX4_readSign_48 : decode cX4_readSign 48 = .ok (.aload_n 0, 1) := fq1_42 (fl_X4_readSign_0 (j := 48) rfl rfl)
theorem dX4_readSign_49 : decode cX4_readSign 49 = .ok (.dup, 1) := fq1_89 (fl_X4_readSign_0 (j := 49) rfl rfl)
theorem dX4_readSign_50 : decode cX4_readSign 50 = .ok (.getfield 47, 3) := fq3_180 (fl_X4_readSign_0 (j := 50) rfl rfl) (fl_X4_readSign_0 (j := 51) rfl rfl) (fl_X4_readSign_0 (j := 52) rfl rfl) rfl
theorem dX4_readSign_53 : decode cX4_readSign 53 = .ok (.iconst 1, 1) := fq1_4 (fl_X4_readSign_0 (j := 53) rfl rfl)
theorem dX4_readSign_54 : decode cX4_readSign 54 = .ok (.iadd, 1) := fq1_96 (fl_X4_readSign_0 (j := 54) rfl rfl)
theorem dX4_readSign_55 : decode cX4_readSign 55 = .ok (.putfield 47, 3) := fq3_181 (fl_X4_readSign_0 (j := 55) rfl rfl) (fl_X4_readSign_0 (j := 56) rfl rfl) (fl_X4_readSign_0 (j := 57) rfl rfl) rfl
theorem dX4_readSign_58 : decode cX4_readSign 58 = .ok (.return_, 1) := fq1_177 (fl_X4_readSign_0 (j := 58) rfl rfl)
def fb_X4_readWord_0 : List UInt8 := [0x2a, 0x04, 0xb5, 0x00, 0x44, 0x09, 0x40, 0x2a, 0xb4, 0x00, 0x2f, 0x2a, 0xb4, 0x00, 0x2d, 0xa2, 0x00, 0x57, 0x2a, 0xb4, 0x00, 0x09, 0x2a, 0xb4, 0x00, 0x2f, 0x33, 0x10, 0x61, 0xa1, 0x00, 0x49, 0x2a, 0xb4, 0x00, 0x09, 0x2a, 0xb4, 0x00, 0x2f, 0x33, 0x10, 0x7a, 0xa3, 0x00, 0x3b, 0x2a, 0xb4, 0x00, 0x2f, 0x2a, 0xb4, 0x00, 0x35, 0x64, 0x10, 0x08, 0xa2, 0x00, 0x1c, 0x1f, 0x14, 0x00, 0x26]
theorem fl_X4_readWord_0 {p j : Nat} {b : UInt8} (e : p = 0 + j) (h : fb_X4_readWord_0[j]? = some b) : cX4_readWord.data.toList[p]? = some b := fq_l (n := 64) (show (cX4_readWord.data.toList.drop 0).take 64 = fb_X4_readWord_0 by decide +kernel) e h
theorem dX4_readWord_0 : decode cX4_readWord 0 = .ok (.aload_n 0, 1) := fq1_42 (fl_X4_readWord_0 (j := 0) rfl rfl)
theorem dX4_readWord_1 : decode cX4_readWord 1 = .ok (.iconst 1, 1) := fq1_4 (fl_X4_readWord_0 (j := 1) rfl rfl)
theorem dX4_readWord_2 : decode cX4_readWord 2 = .ok (.putfield 68, 3) := fq3_181 (fl_X4_readWord_0 (j := 2) rfl rfl) (fl_X4_readWord_0 (j := 3) rfl rfl) (fl_X4_readWord_0 (j := 4) rfl rfl) rfl
theorem dX4_readWord_5 : decode cX4_readWord 5 = .ok (.lconst 0, 1) := fq1_9 (fl_X4_readWord_0 (j := 5) rfl rfl)
theorem dX4_readWord_6 : decode cX4_readWord 6 = .ok (.lstore_n 1, 1) := fq1_64 (fl_X4_readWord_0 (j := 6) rfl rfl)
theorem dX4_readWord_7 : decode cX4_readWord 7 = .ok (.aload_n 0, 1) := fq1_42 (fl_X4_readWord_0 (j := 7) rfl rfl)
theorem dX4_readWord_8 : decode cX4_readWord 8 = .ok (.getfield 47, 3) := fq3_180 (fl_X4_readWord_0 (j := 8) rfl rfl) (fl_X4_readWord_0 (j := 9) rfl rfl) (fl_X4_readWord_0 (j := 10) rfl rfl) rfl
theorem dX4_readWord_11 : decode cX4_readWord 11 = .ok (.aload_n 0, 1) := fq1_42 (fl_X4_readWord_0 (j := 11) rfl rfl)
theorem dX4_readWord_12 : decode cX4_readWord 12 = .ok (.getfield 45, 3) := fq3_180 (fl_X4_readWord_0 (j := 12) rfl rfl) (fl_X4_readWord_0 (j := 13) rfl rfl) (fl_X4_readWord_0 (j := 14) rfl rfl) rfl
theorem dX4_readWord_15 : decode cX4_readWord 15 = .ok (.if_icmp .ge 87, 3) := fq3_162 (fl_X4_readWord_0 (j := 15) rfl rfl) (fl_X4_readWord_0 (j := 16) rfl rfl) (fl_X4_readWord_0 (j := 17) rfl rfl) (s2p rfl (bl rfl))
theorem dX4_readWord_18 : decode cX4_readWord 18 = .ok (.aload_n 0, 1) := fq1_42 (fl_X4_readWord_0 (j := 18) rfl rfl)
theorem dX4_readWord_19 : decode cX4_readWord 19 = .ok (.getfield 9, 3) := fq3_180 (fl_X4_readWord_0 (j := 19) rfl rfl) (fl_X4_readWord_0 (j := 20) rfl rfl) (fl_X4_readWord_0 (j := 21) rfl rfl) rfl
theorem dX4_readWord_22 : decode cX4_readWord 22 = .ok (.aload_n 0, 1) := fq1_42 (fl_X4_readWord_0 (j := 22) rfl rfl)
theorem dX4_readWord_23 : decode cX4_readWord 23 = .ok (.getfield 47, 3) := fq3_180 (fl_X4_readWord_0 (j := 23) rfl rfl) (fl_X4_readWord_0 (j := 24) rfl rfl) (fl_X4_readWord_0 (j := 25) rfl rfl) rfl
theorem dX4_readWord_26 : decode cX4_readWord 26 = .ok (.baload, 1) := fq1_51 (fl_X4_readWord_0 (j := 26) rfl rfl)
theorem dX4_readWord_27 : decode cX4_readWord 27 = .ok (.bipush 97, 2) := fq2_16 (fl_X4_readWord_0 (j := 27) rfl rfl) (fl_X4_readWord_0 (j := 28) rfl rfl) (s1p rfl (bl rfl))
theorem dX4_readWord_29 : decode cX4_readWord 29 = .ok (.if_icmp .lt 73, 3) := fq3_161 (fl_X4_readWord_0 (j := 29) rfl rfl) (fl_X4_readWord_0 (j := 30) rfl rfl) (fl_X4_readWord_0 (j := 31) rfl rfl) (s2p rfl (bl rfl))
theorem dX4_readWord_32 : decode cX4_readWord 32 = .ok (.aload_n 0, 1) := fq1_42 (fl_X4_readWord_0 (j := 32) rfl rfl)
theorem dX4_readWord_33 : decode cX4_readWord 33 = .ok (.getfield 9, 3) := fq3_180 (fl_X4_readWord_0 (j := 33) rfl rfl) (fl_X4_readWord_0 (j := 34) rfl rfl) (fl_X4_readWord_0 (j := 35) rfl rfl) rfl
theorem dX4_readWord_36 : decode cX4_readWord 36 = .ok (.aload_n 0, 1) := fq1_42 (fl_X4_readWord_0 (j := 36) rfl rfl)
theorem dX4_readWord_37 : decode cX4_readWord 37 = .ok (.getfield 47, 3) := fq3_180 (fl_X4_readWord_0 (j := 37) rfl rfl) (fl_X4_readWord_0 (j := 38) rfl rfl) (fl_X4_readWord_0 (j := 39) rfl rfl) rfl
theorem dX4_readWord_40 : decode cX4_readWord 40 = .ok (.baload, 1) := fq1_51 (fl_X4_readWord_0 (j := 40) rfl rfl)
theorem dX4_readWord_41 : decode cX4_readWord 41 = .ok (.bipush 122, 2) := fq2_16 (fl_X4_readWord_0 (j := 41) rfl rfl) (fl_X4_readWord_0 (j := 42) rfl rfl) (s1p rfl (bl rfl))
theorem dX4_readWord_43 : decode cX4_readWord 43 = .ok (.if_icmp .gt 59, 3) := fq3_163 (fl_X4_readWord_0 (j := 43) rfl rfl) (fl_X4_readWord_0 (j := 44) rfl rfl) (fl_X4_readWord_0 (j := 45) rfl rfl) (s2p rfl (bl rfl))
theorem dX4_readWord_46 : decode cX4_readWord 46 = .ok (.aload_n 0, 1) := fq1_42 (fl_X4_readWord_0 (j := 46) rfl rfl)
theorem dX4_readWord_47 : decode cX4_readWord 47 = .ok (.getfield 47, 3) := fq3_180 (fl_X4_readWord_0 (j := 47) rfl rfl) (fl_X4_readWord_0 (j := 48) rfl rfl) (fl_X4_readWord_0 (j := 49) rfl rfl) rfl
theorem dX4_readWord_50 : decode cX4_readWord 50 = .ok (.aload_n 0, 1) := fq1_42 (fl_X4_readWord_0 (j := 50) rfl rfl)
theorem dX4_readWord_51 : decode cX4_readWord 51 = .ok (.getfield 53, 3) := fq3_180 (fl_X4_readWord_0 (j := 51) rfl rfl) (fl_X4_readWord_0 (j := 52) rfl rfl) (fl_X4_readWord_0 (j := 53) rfl rfl) rfl
theorem dX4_readWord_54 : decode cX4_readWord 54 = .ok (.isub, 1) := fq1_100 (fl_X4_readWord_0 (j := 54) rfl rfl)
theorem dX4_readWord_55 : decode cX4_readWord 55 = .ok (.bipush 8, 2) := fq2_16 (fl_X4_readWord_0 (j := 55) rfl rfl) (fl_X4_readWord_0 (j := 56) rfl rfl) (s1p rfl (bl rfl))
theorem dX4_readWord_57 : decode cX4_readWord 57 = .ok (.if_icmp .ge 28, 3) := fq3_162 (fl_X4_readWord_0 (j := 57) rfl rfl) (fl_X4_readWord_0 (j := 58) rfl rfl) (fl_X4_readWord_0 (j := 59) rfl rfl) (s2p rfl (bl rfl))
theorem dX4_readWord_60 : decode cX4_readWord 60 = .ok (.lload_n 1, 1) := fq1_31 (fl_X4_readWord_0 (j := 60) rfl rfl)
theorem dX4_readWord_61 : decode cX4_readWord 61 = .ok (.ldc2_w 38, 3) := fq3_20 (fl_X4_readWord_0 (j := 61) rfl rfl) (fl_X4_readWord_0 (j := 62) rfl rfl) (fl_X4_readWord_0 (j := 63) rfl rfl) rfl
def fb_X4_readWord_1 : List UInt8 := [0x69, 0x2a, 0xb4, 0x00, 0x09, 0x2a, 0xb4, 0x00, 0x2f, 0x33, 0x85, 0x61, 0x14, 0x00, 0x28, 0x65, 0x0a, 0x61, 0xa7, 0x00, 0x06, 0x14, 0x00, 0x3b, 0x40, 0x2a, 0x59, 0xb4, 0x00, 0x2f, 0x04, 0x60, 0xb5, 0x00, 0x2f, 0xa7, 0xff, 0xa4, 0x2a, 0x1f, 0xb5, 0x00, 0x3d, 0x03, 0x3e, 0x1d, 0x10, 0x19, 0xa2, 0x00, 0x19, 0x2a, 0xb4, 0x00, 0x0f, 0x1d, 0x2f, 0x1f, 0x94, 0x9a, 0x00, 0x08, 0x2a, 0x1d]
theorem fl_X4_readWord_1 {p j : Nat} {b : UInt8} (e : p = 64 + j) (h : fb_X4_readWord_1[j]? = some b) : cX4_readWord.data.toList[p]? = some b := fq_l (n := 64) (show (cX4_readWord.data.toList.drop 64).take 64 = fb_X4_readWord_1 by decide +kernel) e h
theorem dX4_readWord_64 : decode cX4_readWord 64 = .ok (.lmul, 1) := fq1_105 (fl_X4_readWord_1 (j := 0) rfl rfl)
theorem dX4_readWord_65 : decode cX4_readWord 65 = .ok (.aload_n 0, 1) := fq1_42 (fl_X4_readWord_1 (j := 1) rfl rfl)
theorem dX4_readWord_66 : decode cX4_readWord 66 = .ok (.getfield 9, 3) := fq3_180 (fl_X4_readWord_1 (j := 2) rfl rfl) (fl_X4_readWord_1 (j := 3) rfl rfl) (fl_X4_readWord_1 (j := 4) rfl rfl) rfl
theorem dX4_readWord_69 : decode cX4_readWord 69 = .ok (.aload_n 0, 1) := fq1_42 (fl_X4_readWord_1 (j := 5) rfl rfl)
theorem dX4_readWord_70 : decode cX4_readWord 70 = .ok (.getfield 47, 3) := fq3_180 (fl_X4_readWord_1 (j := 6) rfl rfl) (fl_X4_readWord_1 (j := 7) rfl rfl) (fl_X4_readWord_1 (j := 8) rfl rfl) rfl
theorem dX4_readWord_73 : decode cX4_readWord 73 = .ok (.baload, 1) := fq1_51 (fl_X4_readWord_1 (j := 9) rfl rfl)
theorem dX4_readWord_74 : decode cX4_readWord 74 = .ok (.i2l, 1) := fq1_133 (fl_X4_readWord_1 (j := 10) rfl rfl)
theorem dX4_readWord_75 : decode cX4_readWord 75 = .ok (.ladd, 1) := fq1_97 (fl_X4_readWord_1 (j := 11) rfl rfl)
theorem dX4_readWord_76 : decode cX4_readWord 76 = .ok (.ldc2_w 40, 3) := fq3_20 (fl_X4_readWord_1 (j := 12) rfl rfl) (fl_X4_readWord_1 (j := 13) rfl rfl) (fl_X4_readWord_1 (j := 14) rfl rfl) rfl
theorem dX4_readWord_79 : decode cX4_readWord 79 = .ok (.lsub, 1) := fq1_101 (fl_X4_readWord_1 (j := 15) rfl rfl)
theorem dX4_readWord_80 : decode cX4_readWord 80 = .ok (.lconst 1, 1) := fq1_10 (fl_X4_readWord_1 (j := 16) rfl rfl)
theorem dX4_readWord_81 : decode cX4_readWord 81 = .ok (.ladd, 1) := fq1_97 (fl_X4_readWord_1 (j := 17) rfl rfl)
theorem dX4_readWord_82 : decode cX4_readWord 82 = .ok (.goto 6, 3) := fq3_167 (fl_X4_readWord_1 (j := 18) rfl rfl) (fl_X4_readWord_1 (j := 19) rfl rfl) (fl_X4_readWord_1 (j := 20) rfl rfl) (s2p rfl (bl rfl))
theorem dX4_readWord_85 : decode cX4_readWord 85 = .ok (.ldc2_w 59, 3) := fq3_20 (fl_X4_readWord_1 (j := 21) rfl rfl) (fl_X4_readWord_1 (j := 22) rfl rfl) (fl_X4_readWord_1 (j := 23) rfl rfl) rfl
theorem dX4_readWord_88 : decode cX4_readWord 88 = .ok (.lstore_n 1, 1) := fq1_64 (fl_X4_readWord_1 (j := 24) rfl rfl)
theorem dX4_readWord_89 : decode cX4_readWord 89 = .ok (.aload_n 0, 1) := fq1_42 (fl_X4_readWord_1 (j := 25) rfl rfl)
theorem dX4_readWord_90 : decode cX4_readWord 90 = .ok (.dup, 1) := fq1_89 (fl_X4_readWord_1 (j := 26) rfl rfl)
theorem dX4_readWord_91 : decode cX4_readWord 91 = .ok (.getfield 47, 3) := fq3_180 (fl_X4_readWord_1 (j := 27) rfl rfl) (fl_X4_readWord_1 (j := 28) rfl rfl) (fl_X4_readWord_1 (j := 29) rfl rfl) rfl
theorem dX4_readWord_94 : decode cX4_readWord 94 = .ok (.iconst 1, 1) := fq1_4 (fl_X4_readWord_1 (j := 30) rfl rfl)
theorem dX4_readWord_95 : decode cX4_readWord 95 = .ok (.iadd, 1) := fq1_96 (fl_X4_readWord_1 (j := 31) rfl rfl)
theorem dX4_readWord_96 : decode cX4_readWord 96 = .ok (.putfield 47, 3) := fq3_181 (fl_X4_readWord_1 (j := 32) rfl rfl) (fl_X4_readWord_1 (j := 33) rfl rfl) (fl_X4_readWord_1 (j := 34) rfl rfl) rfl
theorem dX4_readWord_99 : decode cX4_readWord 99 = .ok (.goto (-92), 3) := fq3_167 (fl_X4_readWord_1 (j := 35) rfl rfl) (fl_X4_readWord_1 (j := 36) rfl rfl) (fl_X4_readWord_1 (j := 37) rfl rfl) (by decide)
theorem dX4_readWord_102 : decode cX4_readWord 102 = .ok (.aload_n 0, 1) := fq1_42 (fl_X4_readWord_1 (j := 38) rfl rfl)
theorem dX4_readWord_103 : decode cX4_readWord 103 = .ok (.lload_n 1, 1) := fq1_31 (fl_X4_readWord_1 (j := 39) rfl rfl)
theorem dX4_readWord_104 : decode cX4_readWord 104 = .ok (.putfield 61, 3) := fq3_181 (fl_X4_readWord_1 (j := 40) rfl rfl) (fl_X4_readWord_1 (j := 41) rfl rfl) (fl_X4_readWord_1 (j := 42) rfl rfl) rfl
theorem dX4_readWord_107 : decode cX4_readWord 107 = .ok (.iconst 0, 1) := fq1_3 (fl_X4_readWord_1 (j := 43) rfl rfl)
theorem dX4_readWord_108 : decode cX4_readWord 108 = .ok (.istore_n 3, 1) := fq1_62 (fl_X4_readWord_1 (j := 44) rfl rfl)
theorem dX4_readWord_109 : decode cX4_readWord 109 = .ok (.iload_n 3, 1) := fq1_29 (fl_X4_readWord_1 (j := 45) rfl rfl)
theorem dX4_readWord_110 : decode cX4_readWord 110 = .ok (.bipush 25, 2) := fq2_16 (fl_X4_readWord_1 (j := 46) rfl rfl) (fl_X4_readWord_1 (j := 47) rfl rfl) (s1p rfl (bl rfl))
theorem dX4_readWord_112 : decode cX4_readWord 112 = .ok (.if_icmp .ge 25, 3) := fq3_162 (fl_X4_readWord_1 (j := 48) rfl rfl) (fl_X4_readWord_1 (j := 49) rfl rfl) (fl_X4_readWord_1 (j := 50) rfl rfl) (s2p rfl (bl rfl))
theorem dX4_readWord_115 : decode cX4_readWord 115 = .ok (.aload_n 0, 1) := fq1_42 (fl_X4_readWord_1 (j := 51) rfl rfl)
theorem dX4_readWord_116 : decode cX4_readWord 116 = .ok (.getfield 15, 3) := fq3_180 (fl_X4_readWord_1 (j := 52) rfl rfl) (fl_X4_readWord_1 (j := 53) rfl rfl) (fl_X4_readWord_1 (j := 54) rfl rfl) rfl
theorem dX4_readWord_119 : decode cX4_readWord 119 = .ok (.iload_n 3, 1) := fq1_29 (fl_X4_readWord_1 (j := 55) rfl rfl)
theorem dX4_readWord_120 : decode cX4_readWord 120 = .ok (.laload, 1) := fq1_47 (fl_X4_readWord_1 (j := 56) rfl rfl)
theorem dX4_readWord_121 : decode cX4_readWord 121 = .ok (.lload_n 1, 1) := fq1_31 (fl_X4_readWord_1 (j := 57) rfl rfl)
theorem dX4_readWord_122 : decode cX4_readWord 122 = .ok (.lcmp, 1) := fq1_148 (fl_X4_readWord_1 (j := 58) rfl rfl)
theorem dX4_readWord_123 : decode cX4_readWord 123 = .ok (.ifCond .ne 8, 3) := fq3_154 (fl_X4_readWord_1 (j := 59) rfl rfl) (fl_X4_readWord_1 (j := 60) rfl rfl) (fl_X4_readWord_1 (j := 61) rfl rfl) (s2p rfl (bl rfl))
theorem dX4_readWord_126 : decode cX4_readWord 126 = .ok (.aload_n 0, 1) := fq1_42 (fl_X4_readWord_1 (j := 62) rfl rfl)
theorem dX4_readWord_127 : decode cX4_readWord 127 = .ok (.iload_n 3, 1) := fq1_29 (fl_X4_readWord_1 (j := 63) rfl rfl)
def fb_X4_readWord_2 : List UInt8 := [0xb5, 0x00, 0x38, 0x84, 0x03, 0x01, 0xa7, 0xff, 0xe7, 0xb1]
theorem fl_X4_readWord_2 {p j : Nat} {b : UInt8} (e : p = 128 + j) (h : fb_X4_readWord_2[j]? = some b) : cX4_readWord.data.toList[p]? = some b := fq_l (n := 64) (show (cX4_readWord.data.toList.drop 128).take 64 = fb_X4_readWord_2 by decide +kernel) e h
theorem dX4_readWord_128 : decode cX4_readWord 128 = .ok (.putfield 56, 3) := fq3_181 (fl_X4_readWord_2 (j := 0) rfl rfl) (fl_X4_readWord_2 (j := 1) rfl rfl) (fl_X4_readWord_2 (j := 2) rfl rfl) rfl
theorem dX4_readWord_131 : decode cX4_readWord 131 = .ok (.iinc 3 1, 3) := fq3_132 (fl_X4_readWord_2 (j := 3) rfl rfl) (fl_X4_readWord_2 (j := 4) rfl rfl) (fl_X4_readWord_2 (j := 5) rfl rfl) rfl (s1p rfl (bl rfl))
theorem dX4_readWord_134 : decode cX4_readWord 134 = .ok (.goto (-25), 3) := fq3_167 (fl_X4_readWord_2 (j := 6) rfl rfl) (fl_X4_readWord_2 (j := 7) rfl rfl) (fl_X4_readWord_2 (j := 8) rfl rfl) (by decide)
theorem dX4_readWord_137 : decode cX4_readWord 137 = .ok (.return_, 1) := fq1_177 (fl_X4_readWord_2 (j := 9) rfl rfl)
end

section
theorem qf_X4_42 : Cond.fieldLink RX4 42 "SlowWorlds$Reader" "taped" "I" ∈ gw := tbt (tb2 (List.mem_of_getElem? (i := 4) rfl)) rfl
theorem qf_X4_19 : Cond.fieldLink RX4 19 "SlowWorlds$Reader" "faultKind" "I" ∈ gw := tbt (tb2 (List.mem_of_getElem? (i := 16) rfl)) rfl
theorem qf_X4_23 : Cond.fieldLink RX4 23 "SlowWorlds$Reader" "faultPlace" "I" ∈ gw := tbt (tb2 (List.mem_of_getElem? (i := 18) rfl)) rfl
theorem qc_X4_next : Cond.code yX4_next cX4_next 1 none ∈ gw := tbt (tb3 (List.mem_of_getElem? (i := 96) rfl)) rfl
theorem qi_yX4_next : Cond.instanceMethod yX4_next ∈ gw := tbt (tb3 (List.mem_of_getElem? (i := 94) rfl)) rfl
theorem qs_X4_next : Cond.selects (yX4_next).cls yX4_next yX4_next ∈ gw := tbt (tb3 (List.mem_of_getElem? (i := 95) rfl)) rfl
theorem ci_X4_next : CIv yX4_next cX4_next 1 none 0 := ⟨qc_X4_next, qi_yX4_next, qs_X4_next, qz_X4, by decide +kernel⟩
theorem qm_X4_50 : Cond.methodLink RX4 50 yX4_next ∈ gw := tbt (tb3 (List.mem_of_getElem? (i := 93) rfl)) rfl
theorem qc_X4_fail : Cond.code yX4_fail cX4_fail 2 (some .boolean) ∈ gw := tbt (tb3 (List.mem_of_getElem? (i := 132) rfl)) rfl
theorem qi_yX4_fail : Cond.instanceMethod yX4_fail ∈ gw := tbt (tb3 (List.mem_of_getElem? (i := 130) rfl)) rfl
theorem qs_X4_fail : Cond.selects (yX4_fail).cls yX4_fail yX4_fail ∈ gw := tbt (tb3 (List.mem_of_getElem? (i := 131) rfl)) rfl
theorem ci_X4_fail : CIv yX4_fail cX4_fail 2 (some .boolean) 1 := ⟨qc_X4_fail, qi_yX4_fail, qs_X4_fail, qz_X4, by decide +kernel⟩
theorem qm_X4_80 : Cond.methodLink RX4 80 yX4_fail ∈ gw := tbt (tb3 (List.mem_of_getElem? (i := 154) rfl)) rfl
theorem qc_X4_isName : Cond.code yX4_isName cX4_isName 1 (some .boolean) ∈ gw := tbt (tb3 (List.mem_of_getElem? (i := 141) rfl)) rfl
theorem qi_yX4_isName : Cond.instanceMethod yX4_isName ∈ gw := tbt (tb3 (List.mem_of_getElem? (i := 139) rfl)) rfl
theorem qs_X4_isName : Cond.selects (yX4_isName).cls yX4_isName yX4_isName ∈ gw := tbt (tb3 (List.mem_of_getElem? (i := 140) rfl)) rfl
theorem ci_X4_isName : CIv yX4_isName cX4_isName 1 (some .boolean) 0 := ⟨qc_X4_isName, qi_yX4_isName, qs_X4_isName, qz_X4, by decide +kernel⟩
theorem qm_X4_84 : Cond.methodLink RX4 84 yX4_isName ∈ gw := tbt (tb3 (List.mem_of_getElem? (i := 171) rfl)) rfl
theorem qc_X5_named : Cond.code yX5_named cX5_named 4 (some .int) ∈ gw := tbt (tb3 (List.mem_of_getElem? (i := 145) rfl)) rfl
theorem qi_yX5_named : Cond.instanceMethod yX5_named ∈ gw := tbt (tb3 (List.mem_of_getElem? (i := 143) rfl)) rfl
theorem qs_X5_named : Cond.selects (yX5_named).cls yX5_named yX5_named ∈ gw := tbt (tb3 (List.mem_of_getElem? (i := 144) rfl)) rfl
theorem ci_X5_named : CIv yX5_named cX5_named 4 (some .int) 1 := ⟨qc_X5_named, qi_yX5_named, qs_X5_named, qz_X5, by decide +kernel⟩
theorem qm_X4_88 : Cond.methodLink RX4 88 yX5_named ∈ gw := tbt (tb3 (List.mem_of_getElem? (i := 172) rfl)) rfl
def fb_X4_fail_0 : List UInt8 := [0x2a, 0x2a, 0xb4, 0x00, 0x44, 0x07, 0xa0, 0x00, 0x07, 0x04, 0xa7, 0x00, 0x04, 0x1b, 0xb5, 0x00, 0x13, 0x2a, 0x2a, 0xb4, 0x00, 0x35, 0xb5, 0x00, 0x17, 0x03, 0xac]
theorem fl_X4_fail_0 {p j : Nat} {b : UInt8} (e : p = 0 + j) (h : fb_X4_fail_0[j]? = some b) : cX4_fail.data.toList[p]? = some b := fq_l (n := 64) (show (cX4_fail.data.toList.drop 0).take 64 = fb_X4_fail_0 by decide +kernel) e h
theorem dX4_fail_0 : decode cX4_fail 0 = .ok (.aload_n 0, 1) := fq1_42 (fl_X4_fail_0 (j := 0) rfl rfl)
theorem dX4_fail_1 : decode cX4_fail 1 = .ok (.aload_n 0, 1) := fq1_42 (fl_X4_fail_0 (j := 1) rfl rfl)
theorem dX4_fail_2 : decode cX4_fail 2 = .ok (.getfield 68, 3) := fq3_180 (fl_X4_fail_0 (j := 2) rfl rfl) (fl_X4_fail_0 (j := 3) rfl rfl) (fl_X4_fail_0 (j := 4) rfl rfl) rfl
theorem dX4_fail_5 : decode cX4_fail 5 = .ok (.iconst 4, 1) := fq1_7 (fl_X4_fail_0 (j := 5) rfl rfl)
theorem dX4_fail_6 : decode cX4_fail 6 = .ok (.if_icmp .ne 7, 3) := fq3_160 (fl_X4_fail_0 (j := 6) rfl rfl) (fl_X4_fail_0 (j := 7) rfl rfl) (fl_X4_fail_0 (j := 8) rfl rfl) (s2p rfl (bl rfl))
theorem dX4_fail_9 : decode cX4_fail 9 = .ok (.iconst 1, 1) := fq1_4 (fl_X4_fail_0 (j := 9) rfl rfl)
theorem dX4_fail_10 : decode cX4_fail 10 = .ok (.goto 4, 3) := fq3_167 (fl_X4_fail_0 (j := 10) rfl rfl) (fl_X4_fail_0 (j := 11) rfl rfl) (fl_X4_fail_0 (j := 12) rfl rfl) (s2p rfl (bl rfl))
theorem dX4_fail_13 : decode cX4_fail 13 = .ok (.iload_n 1, 1) := fq1_27 (fl_X4_fail_0 (j := 13) rfl rfl)
theorem dX4_fail_14 : decode cX4_fail 14 = .ok (.putfield 19, 3) := fq3_181 (fl_X4_fail_0 (j := 14) rfl rfl) (fl_X4_fail_0 (j := 15) rfl rfl) (fl_X4_fail_0 (j := 16) rfl rfl) rfl
theorem dX4_fail_17 : decode cX4_fail 17 = .ok (.aload_n 0, 1) := fq1_42 (fl_X4_fail_0 (j := 17) rfl rfl)
theorem dX4_fail_18 : decode cX4_fail 18 = .ok (.aload_n 0, 1) := fq1_42 (fl_X4_fail_0 (j := 18) rfl rfl)
theorem dX4_fail_19 : decode cX4_fail 19 = .ok (.getfield 53, 3) := fq3_180 (fl_X4_fail_0 (j := 19) rfl rfl) (fl_X4_fail_0 (j := 20) rfl rfl) (fl_X4_fail_0 (j := 21) rfl rfl) rfl
theorem dX4_fail_22 : decode cX4_fail 22 = .ok (.putfield 23, 3) := fq3_181 (fl_X4_fail_0 (j := 22) rfl rfl) (fl_X4_fail_0 (j := 23) rfl rfl) (fl_X4_fail_0 (j := 24) rfl rfl) rfl
theorem dX4_fail_25 : decode cX4_fail 25 = .ok (.iconst 0, 1) := fq1_3 (fl_X4_fail_0 (j := 25) rfl rfl)
theorem dX4_fail_26 : decode cX4_fail 26 = .ok (.ireturn, 1) := fq1_172 (fl_X4_fail_0 (j := 26) rfl rfl)
def fb_X4_isAtEnd_0 : List UInt8 := [0x2a, 0xb4, 0x00, 0x44, 0x9a, 0x00, 0x07, 0x04, 0xa7, 0x00, 0x04, 0x03, 0xac]
theorem fl_X4_isAtEnd_0 {p j : Nat} {b : UInt8} (e : p = 0 + j) (h : fb_X4_isAtEnd_0[j]? = some b) : cX4_isAtEnd.data.toList[p]? = some b := fq_l (n := 64) (show (cX4_isAtEnd.data.toList.drop 0).take 64 = fb_X4_isAtEnd_0 by decide +kernel) e h
theorem dX4_isAtEnd_0 : decode cX4_isAtEnd 0 = .ok (.aload_n 0, 1) := fq1_42 (fl_X4_isAtEnd_0 (j := 0) rfl rfl)
theorem dX4_isAtEnd_1 : decode cX4_isAtEnd 1 = .ok (.getfield 68, 3) := fq3_180 (fl_X4_isAtEnd_0 (j := 1) rfl rfl) (fl_X4_isAtEnd_0 (j := 2) rfl rfl) (fl_X4_isAtEnd_0 (j := 3) rfl rfl) rfl
theorem dX4_isAtEnd_4 : decode cX4_isAtEnd 4 = .ok (.ifCond .ne 7, 3) := fq3_154 (fl_X4_isAtEnd_0 (j := 4) rfl rfl) (fl_X4_isAtEnd_0 (j := 5) rfl rfl) (fl_X4_isAtEnd_0 (j := 6) rfl rfl) (s2p rfl (bl rfl))
theorem dX4_isAtEnd_7 : decode cX4_isAtEnd 7 = .ok (.iconst 1, 1) := fq1_4 (fl_X4_isAtEnd_0 (j := 7) rfl rfl)
theorem dX4_isAtEnd_8 : decode cX4_isAtEnd 8 = .ok (.goto 4, 3) := fq3_167 (fl_X4_isAtEnd_0 (j := 8) rfl rfl) (fl_X4_isAtEnd_0 (j := 9) rfl rfl) (fl_X4_isAtEnd_0 (j := 10) rfl rfl) (s2p rfl (bl rfl))
theorem dX4_isAtEnd_11 : decode cX4_isAtEnd 11 = .ok (.iconst 0, 1) := fq1_3 (fl_X4_isAtEnd_0 (j := 11) rfl rfl)
theorem dX4_isAtEnd_12 : decode cX4_isAtEnd 12 = .ok (.ireturn, 1) := fq1_172 (fl_X4_isAtEnd_0 (j := 12) rfl rfl)
def fb_X4_isName_0 : List UInt8 := [0x2a, 0xb4, 0x00, 0x44, 0x04, 0xa0, 0x00, 0x1a, 0x2a, 0xb4, 0x00, 0x38, 0x02, 0xa0, 0x00, 0x12, 0x2a, 0xb4, 0x00, 0x3d, 0x14, 0x00, 0x3b, 0x94, 0x99, 0x00, 0x07, 0x04, 0xa7, 0x00, 0x04, 0x03, 0xac]
theorem fl_X4_isName_0 {p j : Nat} {b : UInt8} (e : p = 0 + j) (h : fb_X4_isName_0[j]? = some b) : cX4_isName.data.toList[p]? = some b := fq_l (n := 64) (show (cX4_isName.data.toList.drop 0).take 64 = fb_X4_isName_0 by decide +kernel) e h
theorem dX4_isName_0 : decode cX4_isName 0 = .ok (.aload_n 0, 1) := fq1_42 (fl_X4_isName_0 (j := 0) rfl rfl)
theorem dX4_isName_1 : decode cX4_isName 1 = .ok (.getfield 68, 3) := fq3_180 (fl_X4_isName_0 (j := 1) rfl rfl) (fl_X4_isName_0 (j := 2) rfl rfl) (fl_X4_isName_0 (j := 3) rfl rfl) rfl
theorem dX4_isName_4 : decode cX4_isName 4 = .ok (.iconst 1, 1) := fq1_4 (fl_X4_isName_0 (j := 4) rfl rfl)
theorem dX4_isName_5 : decode cX4_isName 5 = .ok (.if_icmp .ne 26, 3) := fq3_160 (fl_X4_isName_0 (j := 5) rfl rfl) (fl_X4_isName_0 (j := 6) rfl rfl) (fl_X4_isName_0 (j := 7) rfl rfl) (s2p rfl (bl rfl))
theorem dX4_isName_8 : decode cX4_isName 8 = .ok (.aload_n 0, 1) := fq1_42 (fl_X4_isName_0 (j := 8) rfl rfl)
theorem dX4_isName_9 : decode cX4_isName 9 = .ok (.getfield 56, 3) := fq3_180 (fl_X4_isName_0 (j := 9) rfl rfl) (fl_X4_isName_0 (j := 10) rfl rfl) (fl_X4_isName_0 (j := 11) rfl rfl) rfl
theorem dX4_isName_12 : decode cX4_isName 12 = .ok (.iconst (-1), 1) := fq1_2 (fl_X4_isName_0 (j := 12) rfl rfl)
theorem dX4_isName_13 : decode cX4_isName 13 = .ok (.if_icmp .ne 18, 3) := fq3_160 (fl_X4_isName_0 (j := 13) rfl rfl) (fl_X4_isName_0 (j := 14) rfl rfl) (fl_X4_isName_0 (j := 15) rfl rfl) (s2p rfl (bl rfl))
theorem dX4_isName_16 : decode cX4_isName 16 = .ok (.aload_n 0, 1) := fq1_42 (fl_X4_isName_0 (j := 16) rfl rfl)
theorem dX4_isName_17 : decode cX4_isName 17 = .ok (.getfield 61, 3) := fq3_180 (fl_X4_isName_0 (j := 17) rfl rfl) (fl_X4_isName_0 (j := 18) rfl rfl) (fl_X4_isName_0 (j := 19) rfl rfl) rfl
theorem dX4_isName_20 : decode cX4_isName 20 = .ok (.ldc2_w 59, 3) := fq3_20 (fl_X4_isName_0 (j := 20) rfl rfl) (fl_X4_isName_0 (j := 21) rfl rfl) (fl_X4_isName_0 (j := 22) rfl rfl) rfl
theorem dX4_isName_23 : decode cX4_isName 23 = .ok (.lcmp, 1) := fq1_148 (fl_X4_isName_0 (j := 23) rfl rfl)
theorem dX4_isName_24 : decode cX4_isName 24 = .ok (.ifCond .eq 7, 3) := fq3_153 (fl_X4_isName_0 (j := 24) rfl rfl) (fl_X4_isName_0 (j := 25) rfl rfl) (fl_X4_isName_0 (j := 26) rfl rfl) (s2p rfl (bl rfl))
theorem dX4_isName_27 : decode cX4_isName 27 = .ok (.iconst 1, 1) := fq1_4 (fl_X4_isName_0 (j := 27) rfl rfl)
theorem dX4_isName_28 : decode cX4_isName 28 = .ok (.goto 4, 3) := fq3_167 (fl_X4_isName_0 (j := 28) rfl rfl) (fl_X4_isName_0 (j := 29) rfl rfl) (fl_X4_isName_0 (j := 30) rfl rfl) (s2p rfl (bl rfl))
theorem dX4_isName_31 : decode cX4_isName 31 = .ok (.iconst 0, 1) := fq1_3 (fl_X4_isName_0 (j := 31) rfl rfl)
theorem dX4_isName_32 : decode cX4_isName 32 = .ok (.ireturn, 1) := fq1_172 (fl_X4_isName_0 (j := 32) rfl rfl)
def fb_X4_open_0 : List UInt8 := [0x2a, 0x1b, 0xb5, 0x00, 0x2d, 0x2a, 0x03, 0xb5, 0x00, 0x2a, 0x2a, 0x03, 0xb5, 0x00, 0x2f, 0x2a, 0x03, 0xb5, 0x00, 0x13, 0x2a, 0x02, 0xb5, 0x00, 0x17, 0x2a, 0xb6, 0x00, 0x32, 0xb1]
theorem fl_X4_open_0 {p j : Nat} {b : UInt8} (e : p = 0 + j) (h : fb_X4_open_0[j]? = some b) : cX4_open.data.toList[p]? = some b := fq_l (n := 64) (show (cX4_open.data.toList.drop 0).take 64 = fb_X4_open_0 by decide +kernel) e h
theorem dX4_open_0 : decode cX4_open 0 = .ok (.aload_n 0, 1) := fq1_42 (fl_X4_open_0 (j := 0) rfl rfl)
theorem dX4_open_1 : decode cX4_open 1 = .ok (.iload_n 1, 1) := fq1_27 (fl_X4_open_0 (j := 1) rfl rfl)
theorem dX4_open_2 : decode cX4_open 2 = .ok (.putfield 45, 3) := fq3_181 (fl_X4_open_0 (j := 2) rfl rfl) (fl_X4_open_0 (j := 3) rfl rfl) (fl_X4_open_0 (j := 4) rfl rfl) rfl
theorem dX4_open_5 : decode cX4_open 5 = .ok (.aload_n 0, 1) := fq1_42 (fl_X4_open_0 (j := 5) rfl rfl)
theorem dX4_open_6 : decode cX4_open 6 = .ok (.iconst 0, 1) := fq1_3 (fl_X4_open_0 (j := 6) rfl rfl)
theorem dX4_open_7 : decode cX4_open 7 = .ok (.putfield 42, 3) := fq3_181 (fl_X4_open_0 (j := 7) rfl rfl) (fl_X4_open_0 (j := 8) rfl rfl) (fl_X4_open_0 (j := 9) rfl rfl) rfl
theorem dX4_open_10 : decode cX4_open 10 = .ok (.aload_n 0, 1) := fq1_42 (fl_X4_open_0 (j := 10) rfl rfl)
theorem dX4_open_11 : decode cX4_open 11 = .ok (.iconst 0, 1) := fq1_3 (fl_X4_open_0 (j := 11) rfl rfl)
theorem dX4_open_12 : decode cX4_open 12 = .ok (.putfield 47, 3) := fq3_181 (fl_X4_open_0 (j := 12) rfl rfl) (fl_X4_open_0 (j := 13) rfl rfl) (fl_X4_open_0 (j := 14) rfl rfl) rfl
theorem dX4_open_15 : decode cX4_open 15 = .ok (.aload_n 0, 1) := fq1_42 (fl_X4_open_0 (j := 15) rfl rfl)
theorem dX4_open_16 : decode cX4_open 16 = .ok (.iconst 0, 1) := fq1_3 (fl_X4_open_0 (j := 16) rfl rfl)
theorem dX4_open_17 : decode cX4_open 17 = .ok (.putfield 19, 3) := fq3_181 (fl_X4_open_0 (j := 17) rfl rfl) (fl_X4_open_0 (j := 18) rfl rfl) (fl_X4_open_0 (j := 19) rfl rfl) rfl
theorem dX4_open_20 : decode cX4_open 20 = .ok (.aload_n 0, 1) := fq1_42 (fl_X4_open_0 (j := 20) rfl rfl)
theorem dX4_open_21 : decode cX4_open 21 = .ok (.iconst (-1), 1) := fq1_2 (fl_X4_open_0 (j := 21) rfl rfl)
theorem dX4_open_22 : decode cX4_open 22 = .ok (.putfield 23, 3) := fq3_181 (fl_X4_open_0 (j := 22) rfl rfl) (fl_X4_open_0 (j := 23) rfl rfl) (fl_X4_open_0 (j := 24) rfl rfl) rfl
theorem dX4_open_25 : decode cX4_open 25 = .ok (.aload_n 0, 1) := fq1_42 (fl_X4_open_0 (j := 25) rfl rfl)
theorem dX4_open_26 : decode cX4_open 26 = .ok (.invokevirtual 50, 3) := fq3_182 (fl_X4_open_0 (j := 26) rfl rfl) (fl_X4_open_0 (j := 27) rfl rfl) (fl_X4_open_0 (j := 28) rfl rfl) rfl
theorem dX4_open_29 : decode cX4_open 29 = .ok (.return_, 1) := fq1_177 (fl_X4_open_0 (j := 29) rfl rfl)
def fb_X4_putOnTape_0 : List UInt8 := [0x10, 0x18, 0x3d, 0x1c, 0x9b, 0x00, 0x20, 0x2a, 0xb4, 0x00, 0x09, 0x2a, 0xb4, 0x00, 0x2a, 0x1b, 0x1c, 0x7a, 0x91, 0x54, 0x2a, 0x59, 0xb4, 0x00, 0x2a, 0x04, 0x60, 0xb5, 0x00, 0x2a, 0x84, 0x02, 0xf8, 0xa7, 0xff, 0xe2, 0xb1]
theorem fl_X4_putOnTape_0 {p j : Nat} {b : UInt8} (e : p = 0 + j) (h : fb_X4_putOnTape_0[j]? = some b) : cX4_putOnTape.data.toList[p]? = some b := fq_l (n := 64) (show (cX4_putOnTape.data.toList.drop 0).take 64 = fb_X4_putOnTape_0 by decide +kernel) e h
theorem dX4_putOnTape_0 : decode cX4_putOnTape 0 = .ok (.bipush 24, 2) := fq2_16 (fl_X4_putOnTape_0 (j := 0) rfl rfl) (fl_X4_putOnTape_0 (j := 1) rfl rfl) (s1p rfl (bl rfl))
theorem dX4_putOnTape_2 : decode cX4_putOnTape 2 = .ok (.istore_n 2, 1) := fq1_61 (fl_X4_putOnTape_0 (j := 2) rfl rfl)
theorem dX4_putOnTape_3 : decode cX4_putOnTape 3 = .ok (.iload_n 2, 1) := fq1_28 (fl_X4_putOnTape_0 (j := 3) rfl rfl)
theorem dX4_putOnTape_4 : decode cX4_putOnTape 4 = .ok (.ifCond .lt 32, 3) := fq3_155 (fl_X4_putOnTape_0 (j := 4) rfl rfl) (fl_X4_putOnTape_0 (j := 5) rfl rfl) (fl_X4_putOnTape_0 (j := 6) rfl rfl) (s2p rfl (bl rfl))
theorem dX4_putOnTape_7 : decode cX4_putOnTape 7 = .ok (.aload_n 0, 1) := fq1_42 (fl_X4_putOnTape_0 (j := 7) rfl rfl)
theorem dX4_putOnTape_8 : decode cX4_putOnTape 8 = .ok (.getfield 9, 3) := fq3_180 (fl_X4_putOnTape_0 (j := 8) rfl rfl) (fl_X4_putOnTape_0 (j := 9) rfl rfl) (fl_X4_putOnTape_0 (j := 10) rfl rfl) rfl
theorem dX4_putOnTape_11 : decode cX4_putOnTape 11 = .ok (.aload_n 0, 1) := fq1_42 (fl_X4_putOnTape_0 (j := 11) rfl rfl)
theorem dX4_putOnTape_12 : decode cX4_putOnTape 12 = .ok (.getfield 42, 3) := fq3_180 (fl_X4_putOnTape_0 (j := 12) rfl rfl) (fl_X4_putOnTape_0 (j := 13) rfl rfl) (fl_X4_putOnTape_0 (j := 14) rfl rfl) rfl
theorem dX4_putOnTape_15 : decode cX4_putOnTape 15 = .ok (.iload_n 1, 1) := fq1_27 (fl_X4_putOnTape_0 (j := 15) rfl rfl)
theorem dX4_putOnTape_16 : decode cX4_putOnTape 16 = .ok (.iload_n 2, 1) := fq1_28 (fl_X4_putOnTape_0 (j := 16) rfl rfl)
theorem dX4_putOnTape_17 : decode cX4_putOnTape 17 = .ok (.ishr, 1) := fq1_122 (fl_X4_putOnTape_0 (j := 17) rfl rfl)
theorem dX4_putOnTape_18 : decode cX4_putOnTape 18 = .ok (.i2b, 1) := fq1_145 (fl_X4_putOnTape_0 (j := 18) rfl rfl)
theorem dX4_putOnTape_19 : decode cX4_putOnTape 19 = .ok (.bastore, 1) := fq1_84 (fl_X4_putOnTape_0 (j := 19) rfl rfl)
theorem dX4_putOnTape_20 : decode cX4_putOnTape 20 = .ok (.aload_n 0, 1) := fq1_42 (fl_X4_putOnTape_0 (j := 20) rfl rfl)
theorem dX4_putOnTape_21 : decode cX4_putOnTape 21 = .ok (.dup, 1) := fq1_89 (fl_X4_putOnTape_0 (j := 21) rfl rfl)
theorem dX4_putOnTape_22 : decode cX4_putOnTape 22 = .ok (.getfield 42, 3) := fq3_180 (fl_X4_putOnTape_0 (j := 22) rfl rfl) (fl_X4_putOnTape_0 (j := 23) rfl rfl) (fl_X4_putOnTape_0 (j := 24) rfl rfl) rfl
theorem dX4_putOnTape_25 : decode cX4_putOnTape 25 = .ok (.iconst 1, 1) := fq1_4 (fl_X4_putOnTape_0 (j := 25) rfl rfl)
theorem dX4_putOnTape_26 : decode cX4_putOnTape 26 = .ok (.iadd, 1) := fq1_96 (fl_X4_putOnTape_0 (j := 26) rfl rfl)
theorem dX4_putOnTape_27 : decode cX4_putOnTape 27 = .ok (.putfield 42, 3) := fq3_181 (fl_X4_putOnTape_0 (j := 27) rfl rfl) (fl_X4_putOnTape_0 (j := 28) rfl rfl) (fl_X4_putOnTape_0 (j := 29) rfl rfl) rfl
theorem dX4_putOnTape_30 : decode cX4_putOnTape 30 = .ok (.iinc 2 (-8), 3) := fq3_132 (fl_X4_putOnTape_0 (j := 30) rfl rfl) (fl_X4_putOnTape_0 (j := 31) rfl rfl) (fl_X4_putOnTape_0 (j := 32) rfl rfl) rfl (by decide)
theorem dX4_putOnTape_33 : decode cX4_putOnTape 33 = .ok (.goto (-30), 3) := fq3_167 (fl_X4_putOnTape_0 (j := 33) rfl rfl) (fl_X4_putOnTape_0 (j := 34) rfl rfl) (fl_X4_putOnTape_0 (j := 35) rfl rfl) (by decide)
theorem dX4_putOnTape_36 : decode cX4_putOnTape 36 = .ok (.return_, 1) := fq1_177 (fl_X4_putOnTape_0 (j := 36) rfl rfl)
def fb_X4_takeCompares_0 : List UInt8 := [0x2a, 0xb4, 0x00, 0x41, 0x3c, 0x2a, 0xb4, 0x00, 0x44, 0x06, 0xa0, 0x00, 0x09, 0x1b, 0x10, 0x3b, 0xa0, 0x00, 0x0b, 0x2a, 0x05, 0xb6, 0x00, 0x50, 0x57, 0x02, 0xac, 0x2a, 0xb6, 0x00, 0x32, 0x1b, 0xac]
theorem fl_X4_takeCompares_0 {p j : Nat} {b : UInt8} (e : p = 0 + j) (h : fb_X4_takeCompares_0[j]? = some b) : cX4_takeCompares.data.toList[p]? = some b := fq_l (n := 64) (show (cX4_takeCompares.data.toList.drop 0).take 64 = fb_X4_takeCompares_0 by decide +kernel) e h
theorem dX4_takeCompares_0 : decode cX4_takeCompares 0 = .ok (.aload_n 0, 1) := fq1_42 (fl_X4_takeCompares_0 (j := 0) rfl rfl)
theorem dX4_takeCompares_1 : decode cX4_takeCompares 1 = .ok (.getfield 65, 3) := fq3_180 (fl_X4_takeCompares_0 (j := 1) rfl rfl) (fl_X4_takeCompares_0 (j := 2) rfl rfl) (fl_X4_takeCompares_0 (j := 3) rfl rfl) rfl
theorem dX4_takeCompares_4 : decode cX4_takeCompares 4 = .ok (.istore_n 1, 1) := fq1_60 (fl_X4_takeCompares_0 (j := 4) rfl rfl)
theorem dX4_takeCompares_5 : decode cX4_takeCompares 5 = .ok (.aload_n 0, 1) := fq1_42 (fl_X4_takeCompares_0 (j := 5) rfl rfl)
theorem dX4_takeCompares_6 : decode cX4_takeCompares 6 = .ok (.getfield 68, 3) := fq3_180 (fl_X4_takeCompares_0 (j := 6) rfl rfl) (fl_X4_takeCompares_0 (j := 7) rfl rfl) (fl_X4_takeCompares_0 (j := 8) rfl rfl) rfl
theorem dX4_takeCompares_9 : decode cX4_takeCompares 9 = .ok (.iconst 3, 1) := fq1_6 (fl_X4_takeCompares_0 (j := 9) rfl rfl)
theorem dX4_takeCompares_10 : decode cX4_takeCompares 10 = .ok (.if_icmp .ne 9, 3) := fq3_160 (fl_X4_takeCompares_0 (j := 10) rfl rfl) (fl_X4_takeCompares_0 (j := 11) rfl rfl) (fl_X4_takeCompares_0 (j := 12) rfl rfl) (s2p rfl (bl rfl))
theorem dX4_takeCompares_13 : decode cX4_takeCompares 13 = .ok (.iload_n 1, 1) := fq1_27 (fl_X4_takeCompares_0 (j := 13) rfl rfl)
theorem dX4_takeCompares_14 : decode cX4_takeCompares 14 = .ok (.bipush 59, 2) := fq2_16 (fl_X4_takeCompares_0 (j := 14) rfl rfl) (fl_X4_takeCompares_0 (j := 15) rfl rfl) (s1p rfl (bl rfl))
theorem dX4_takeCompares_16 : decode cX4_takeCompares 16 = .ok (.if_icmp .ne 11, 3) := fq3_160 (fl_X4_takeCompares_0 (j := 16) rfl rfl) (fl_X4_takeCompares_0 (j := 17) rfl rfl) (fl_X4_takeCompares_0 (j := 18) rfl rfl) (s2p rfl (bl rfl))
theorem dX4_takeCompares_19 : decode cX4_takeCompares 19 = .ok (.aload_n 0, 1) := fq1_42 (fl_X4_takeCompares_0 (j := 19) rfl rfl)
theorem dX4_takeCompares_20 : decode cX4_takeCompares 20 = .ok (.iconst 2, 1) := fq1_5 (fl_X4_takeCompares_0 (j := 20) rfl rfl)
theorem dX4_takeCompares_21 : decode cX4_takeCompares 21 = .ok (.invokevirtual 80, 3) := fq3_182 (fl_X4_takeCompares_0 (j := 21) rfl rfl) (fl_X4_takeCompares_0 (j := 22) rfl rfl) (fl_X4_takeCompares_0 (j := 23) rfl rfl) rfl
theorem dX4_takeCompares_24 : decode cX4_takeCompares 24 = .ok (.pop, 1) := fq1_87 (fl_X4_takeCompares_0 (j := 24) rfl rfl)
theorem dX4_takeCompares_25 : decode cX4_takeCompares 25 = .ok (.iconst (-1), 1) := fq1_2 (fl_X4_takeCompares_0 (j := 25) rfl rfl)
theorem dX4_takeCompares_26 : decode cX4_takeCompares 26 = .ok (.ireturn, 1) := fq1_172 (fl_X4_takeCompares_0 (j := 26) rfl rfl)
theorem dX4_takeCompares_27 : decode cX4_takeCompares 27 = .ok (.aload_n 0, 1) := fq1_42 (fl_X4_takeCompares_0 (j := 27) rfl rfl)
theorem dX4_takeCompares_28 : decode cX4_takeCompares 28 = .ok (.invokevirtual 50, 3) := fq3_182 (fl_X4_takeCompares_0 (j := 28) rfl rfl) (fl_X4_takeCompares_0 (j := 29) rfl rfl) (fl_X4_takeCompares_0 (j := 30) rfl rfl) rfl
theorem dX4_takeCompares_31 : decode cX4_takeCompares 31 = .ok (.iload_n 1, 1) := fq1_27 (fl_X4_takeCompares_0 (j := 31) rfl rfl)
theorem dX4_takeCompares_32 : decode cX4_takeCompares 32 = .ok (.ireturn, 1) := fq1_172 (fl_X4_takeCompares_0 (j := 32) rfl rfl)
def fb_X4_takeNumber_0 : List UInt8 := [0x2a, 0xb4, 0x00, 0x41, 0x3e, 0x2a, 0xb4, 0x00, 0x44, 0x05, 0xa0, 0x00, 0x0d, 0x1d, 0x1b, 0xa1, 0x00, 0x08, 0x1d, 0x1c, 0xa4, 0x00, 0x17, 0x2a, 0x2a, 0xb4, 0x00, 0x44, 0x05, 0xa0, 0x00, 0x07, 0x07, 0xa7, 0x00, 0x04, 0x05, 0xb6, 0x00, 0x50, 0x57, 0x02, 0xac, 0x2a, 0xb6, 0x00, 0x32, 0x1d, 0xac]
theorem fl_X4_takeNumber_0 {p j : Nat} {b : UInt8} (e : p = 0 + j) (h : fb_X4_takeNumber_0[j]? = some b) : cX4_takeNumber.data.toList[p]? = some b := fq_l (n := 64) (show (cX4_takeNumber.data.toList.drop 0).take 64 = fb_X4_takeNumber_0 by decide +kernel) e h
theorem dX4_takeNumber_0 : decode cX4_takeNumber 0 = .ok (.aload_n 0, 1) := fq1_42 (fl_X4_takeNumber_0 (j := 0) rfl rfl)
theorem dX4_takeNumber_1 : decode cX4_takeNumber 1 = .ok (.getfield 65, 3) := fq3_180 (fl_X4_takeNumber_0 (j := 1) rfl rfl) (fl_X4_takeNumber_0 (j := 2) rfl rfl) (fl_X4_takeNumber_0 (j := 3) rfl rfl) rfl
theorem dX4_takeNumber_4 : decode cX4_takeNumber 4 = .ok (.istore_n 3, 1) := fq1_62 (fl_X4_takeNumber_0 (j := 4) rfl rfl)
theorem dX4_takeNumber_5 : decode cX4_takeNumber 5 = .ok (.aload_n 0, 1) := fq1_42 (fl_X4_takeNumber_0 (j := 5) rfl rfl)
theorem dX4_takeNumber_6 : decode cX4_takeNumber 6 = .ok (.getfield 68, 3) := fq3_180 (fl_X4_takeNumber_0 (j := 6) rfl rfl) (fl_X4_takeNumber_0 (j := 7) rfl rfl) (fl_X4_takeNumber_0 (j := 8) rfl rfl) rfl
theorem dX4_takeNumber_9 : decode cX4_takeNumber 9 = .ok (.iconst 2, 1) := fq1_5 (fl_X4_takeNumber_0 (j := 9) rfl rfl)
theorem dX4_takeNumber_10 : decode cX4_takeNumber 10 = .ok (.if_icmp .ne 13, 3) := fq3_160 (fl_X4_takeNumber_0 (j := 10) rfl rfl) (fl_X4_takeNumber_0 (j := 11) rfl rfl) (fl_X4_takeNumber_0 (j := 12) rfl rfl) (s2p rfl (bl rfl))
theorem dX4_takeNumber_13 : decode cX4_takeNumber 13 = .ok (.iload_n 3, 1) := fq1_29 (fl_X4_takeNumber_0 (j := 13) rfl rfl)
theorem dX4_takeNumber_14 : decode cX4_takeNumber 14 = .ok (.iload_n 1, 1) := fq1_27 (fl_X4_takeNumber_0 (j := 14) rfl rfl)
theorem dX4_takeNumber_15 : decode cX4_takeNumber 15 = .ok (.if_icmp .lt 8, 3) := fq3_161 (fl_X4_takeNumber_0 (j := 15) rfl rfl) (fl_X4_takeNumber_0 (j := 16) rfl rfl) (fl_X4_takeNumber_0 (j := 17) rfl rfl) (s2p rfl (bl rfl))
theorem dX4_takeNumber_18 : decode cX4_takeNumber 18 = .ok (.iload_n 3, 1) := fq1_29 (fl_X4_takeNumber_0 (j := 18) rfl rfl)
theorem dX4_takeNumber_19 : decode cX4_takeNumber 19 = .ok (.iload_n 2, 1) := fq1_28 (fl_X4_takeNumber_0 (j := 19) rfl rfl)
theorem dX4_takeNumber_20 : decode cX4_takeNumber 20 = .ok (.if_icmp .le 23, 3) := fq3_164 (fl_X4_takeNumber_0 (j := 20) rfl rfl) (fl_X4_takeNumber_0 (j := 21) rfl rfl) (fl_X4_takeNumber_0 (j := 22) rfl rfl) (s2p rfl (bl rfl))
theorem dX4_takeNumber_23 : decode cX4_takeNumber 23 = .ok (.aload_n 0, 1) := fq1_42 (fl_X4_takeNumber_0 (j := 23) rfl rfl)
theorem dX4_takeNumber_24 : decode cX4_takeNumber 24 = .ok (.aload_n 0, 1) := fq1_42 (fl_X4_takeNumber_0 (j := 24) rfl rfl)
theorem dX4_takeNumber_25 : decode cX4_takeNumber 25 = .ok (.getfield 68, 3) := fq3_180 (fl_X4_takeNumber_0 (j := 25) rfl rfl) (fl_X4_takeNumber_0 (j := 26) rfl rfl) (fl_X4_takeNumber_0 (j := 27) rfl rfl) rfl
theorem dX4_takeNumber_28 : decode cX4_takeNumber 28 = .ok (.iconst 2, 1) := fq1_5 (fl_X4_takeNumber_0 (j := 28) rfl rfl)
theorem dX4_takeNumber_29 : decode cX4_takeNumber 29 = .ok (.if_icmp .ne 7, 3) := fq3_160 (fl_X4_takeNumber_0 (j := 29) rfl rfl) (fl_X4_takeNumber_0 (j := 30) rfl rfl) (fl_X4_takeNumber_0 (j := 31) rfl rfl) (s2p rfl (bl rfl))
theorem dX4_takeNumber_32 : decode cX4_takeNumber 32 = .ok (.iconst 4, 1) := fq1_7 (fl_X4_takeNumber_0 (j := 32) rfl rfl)
theorem dX4_takeNumber_33 : decode cX4_takeNumber 33 = .ok (.goto 4, 3) := fq3_167 (fl_X4_takeNumber_0 (j := 33) rfl rfl) (fl_X4_takeNumber_0 (j := 34) rfl rfl) (fl_X4_takeNumber_0 (j := 35) rfl rfl) (s2p rfl (bl rfl))
theorem dX4_takeNumber_36 : decode cX4_takeNumber 36 = .ok (.iconst 2, 1) := fq1_5 (fl_X4_takeNumber_0 (j := 36) rfl rfl)
theorem dX4_takeNumber_37 : decode cX4_takeNumber 37 = .ok (.invokevirtual 80, 3) := fq3_182 (fl_X4_takeNumber_0 (j := 37) rfl rfl) (fl_X4_takeNumber_0 (j := 38) rfl rfl) (fl_X4_takeNumber_0 (j := 39) rfl rfl) rfl
theorem dX4_takeNumber_40 : decode cX4_takeNumber 40 = .ok (.pop, 1) := fq1_87 (fl_X4_takeNumber_0 (j := 40) rfl rfl)
theorem dX4_takeNumber_41 : decode cX4_takeNumber 41 = .ok (.iconst (-1), 1) := fq1_2 (fl_X4_takeNumber_0 (j := 41) rfl rfl)
theorem dX4_takeNumber_42 : decode cX4_takeNumber 42 = .ok (.ireturn, 1) := fq1_172 (fl_X4_takeNumber_0 (j := 42) rfl rfl)
theorem dX4_takeNumber_43 : decode cX4_takeNumber 43 = .ok (.aload_n 0, 1) := fq1_42 (fl_X4_takeNumber_0 (j := 43) rfl rfl)
theorem dX4_takeNumber_44 : decode cX4_takeNumber 44 = .ok (.invokevirtual 50, 3) := fq3_182 (fl_X4_takeNumber_0 (j := 44) rfl rfl) (fl_X4_takeNumber_0 (j := 45) rfl rfl) (fl_X4_takeNumber_0 (j := 46) rfl rfl) rfl
theorem dX4_takeNumber_47 : decode cX4_takeNumber 47 = .ok (.iload_n 3, 1) := fq1_29 (fl_X4_takeNumber_0 (j := 47) rfl rfl)
theorem dX4_takeNumber_48 : decode cX4_takeNumber 48 = .ok (.ireturn, 1) := fq1_172 (fl_X4_takeNumber_0 (j := 48) rfl rfl)
def fb_X4_takeRock_0 : List UInt8 := [0x2a, 0xb6, 0x00, 0x54, 0x99, 0x00, 0x0e, 0x2b, 0x2a, 0xb4, 0x00, 0x3d, 0xb6, 0x00, 0x58, 0xa7, 0x00, 0x04, 0x02, 0x3e, 0x1d, 0x02, 0x9f, 0x00, 0x08, 0x1d, 0x1c, 0xa0, 0x00, 0x23, 0x1d, 0x02, 0xa0, 0x00, 0x07, 0x06, 0xa7, 0x00, 0x04, 0x08, 0x36, 0x04, 0x2a, 0x2a, 0xb6, 0x00, 0x54, 0x99, 0x00, 0x08, 0x15, 0x04, 0xa7, 0x00, 0x04, 0x05, 0xb6, 0x00, 0x50, 0x57, 0x02, 0xac, 0x2a, 0xb6]
theorem fl_X4_takeRock_0 {p j : Nat} {b : UInt8} (e : p = 0 + j) (h : fb_X4_takeRock_0[j]? = some b) : cX4_takeRock.data.toList[p]? = some b := fq_l (n := 64) (show (cX4_takeRock.data.toList.drop 0).take 64 = fb_X4_takeRock_0 by decide +kernel) e h
theorem dX4_takeRock_0 : decode cX4_takeRock 0 = .ok (.aload_n 0, 1) := fq1_42 (fl_X4_takeRock_0 (j := 0) rfl rfl)
theorem dX4_takeRock_1 : decode cX4_takeRock 1 = .ok (.invokevirtual 84, 3) := fq3_182 (fl_X4_takeRock_0 (j := 1) rfl rfl) (fl_X4_takeRock_0 (j := 2) rfl rfl) (fl_X4_takeRock_0 (j := 3) rfl rfl) rfl
theorem dX4_takeRock_4 : decode cX4_takeRock 4 = .ok (.ifCond .eq 14, 3) := fq3_153 (fl_X4_takeRock_0 (j := 4) rfl rfl) (fl_X4_takeRock_0 (j := 5) rfl rfl) (fl_X4_takeRock_0 (j := 6) rfl rfl) (s2p rfl (bl rfl))
theorem dX4_takeRock_7 : decode cX4_takeRock 7 = .ok (.aload_n 1, 1) := fq1_43 (fl_X4_takeRock_0 (j := 7) rfl rfl)
theorem dX4_takeRock_8 : decode cX4_takeRock 8 = .ok (.aload_n 0, 1) := fq1_42 (fl_X4_takeRock_0 (j := 8) rfl rfl)
theorem dX4_takeRock_9 : decode cX4_takeRock 9 = .ok (.getfield 61, 3) := fq3_180 (fl_X4_takeRock_0 (j := 9) rfl rfl) (fl_X4_takeRock_0 (j := 10) rfl rfl) (fl_X4_takeRock_0 (j := 11) rfl rfl) rfl
theorem dX4_takeRock_12 : decode cX4_takeRock 12 = .ok (.invokevirtual 88, 3) := fq3_182 (fl_X4_takeRock_0 (j := 12) rfl rfl) (fl_X4_takeRock_0 (j := 13) rfl rfl) (fl_X4_takeRock_0 (j := 14) rfl rfl) rfl
theorem dX4_takeRock_15 : decode cX4_takeRock 15 = .ok (.goto 4, 3) := fq3_167 (fl_X4_takeRock_0 (j := 15) rfl rfl) (fl_X4_takeRock_0 (j := 16) rfl rfl) (fl_X4_takeRock_0 (j := 17) rfl rfl) (s2p rfl (bl rfl))
theorem dX4_takeRock_18 : decode cX4_takeRock 18 = .ok (.iconst (-1), 1) := fq1_2 (fl_X4_takeRock_0 (j := 18) rfl rfl)
theorem dX4_takeRock_19 : decode cX4_takeRock 19 = .ok (.istore_n 3, 1) := fq1_62 (fl_X4_takeRock_0 (j := 19) rfl rfl)
theorem dX4_takeRock_20 : decode cX4_takeRock 20 = .ok (.iload_n 3, 1) := fq1_29 (fl_X4_takeRock_0 (j := 20) rfl rfl)
theorem dX4_takeRock_21 : decode cX4_takeRock 21 = .ok (.iconst (-1), 1) := fq1_2 (fl_X4_takeRock_0 (j := 21) rfl rfl)
theorem dX4_takeRock_22 : decode cX4_takeRock 22 = .ok (.if_icmp .eq 8, 3) := fq3_159 (fl_X4_takeRock_0 (j := 22) rfl rfl) (fl_X4_takeRock_0 (j := 23) rfl rfl) (fl_X4_takeRock_0 (j := 24) rfl rfl) (s2p rfl (bl rfl))
theorem dX4_takeRock_25 : decode cX4_takeRock 25 = .ok (.iload_n 3, 1) := fq1_29 (fl_X4_takeRock_0 (j := 25) rfl rfl)
theorem dX4_takeRock_26 : decode cX4_takeRock 26 = .ok (.iload_n 2, 1) := fq1_28 (fl_X4_takeRock_0 (j := 26) rfl rfl)
theorem dX4_takeRock_27 : decode cX4_takeRock 27 = .ok (.if_icmp .ne 35, 3) := fq3_160 (fl_X4_takeRock_0 (j := 27) rfl rfl) (fl_X4_takeRock_0 (j := 28) rfl rfl) (fl_X4_takeRock_0 (j := 29) rfl rfl) (s2p rfl (bl rfl))
theorem dX4_takeRock_30 : decode cX4_takeRock 30 = .ok (.iload_n 3, 1) := fq1_29 (fl_X4_takeRock_0 (j := 30) rfl rfl)
theorem dX4_takeRock_31 : decode cX4_takeRock 31 = .ok (.iconst (-1), 1) := fq1_2 (fl_X4_takeRock_0 (j := 31) rfl rfl)
theorem dX4_takeRock_32 : decode cX4_takeRock 32 = .ok (.if_icmp .ne 7, 3) := fq3_160 (fl_X4_takeRock_0 (j := 32) rfl rfl) (fl_X4_takeRock_0 (j := 33) rfl rfl) (fl_X4_takeRock_0 (j := 34) rfl rfl) (s2p rfl (bl rfl))
theorem dX4_takeRock_35 : decode cX4_takeRock 35 = .ok (.iconst 3, 1) := fq1_6 (fl_X4_takeRock_0 (j := 35) rfl rfl)
theorem dX4_takeRock_36 : decode cX4_takeRock 36 = .ok (.goto 4, 3) := fq3_167 (fl_X4_takeRock_0 (j := 36) rfl rfl) (fl_X4_takeRock_0 (j := 37) rfl rfl) (fl_X4_takeRock_0 (j := 38) rfl rfl) (s2p rfl (bl rfl))
theorem dX4_takeRock_39 : decode cX4_takeRock 39 = .ok (.iconst 5, 1) := fq1_8 (fl_X4_takeRock_0 (j := 39) rfl rfl)
theorem dX4_takeRock_40 : decode cX4_takeRock 40 = .ok (.istore 4, 2) := fq2_54 (fl_X4_takeRock_0 (j := 40) rfl rfl) (fl_X4_takeRock_0 (j := 41) rfl rfl) rfl
theorem dX4_takeRock_42 : decode cX4_takeRock 42 = .ok (.aload_n 0, 1) := fq1_42 (fl_X4_takeRock_0 (j := 42) rfl rfl)
theorem dX4_takeRock_43 : decode cX4_takeRock 43 = .ok (.aload_n 0, 1) := fq1_42 (fl_X4_takeRock_0 (j := 43) rfl rfl)
theorem dX4_takeRock_44 : decode cX4_takeRock 44 = .ok (.invokevirtual 84, 3) := fq3_182 (fl_X4_takeRock_0 (j := 44) rfl rfl) (fl_X4_takeRock_0 (j := 45) rfl rfl) (fl_X4_takeRock_0 (j := 46) rfl rfl) rfl
theorem dX4_takeRock_47 : decode cX4_takeRock 47 = .ok (.ifCond .eq 8, 3) := fq3_153 (fl_X4_takeRock_0 (j := 47) rfl rfl) (fl_X4_takeRock_0 (j := 48) rfl rfl) (fl_X4_takeRock_0 (j := 49) rfl rfl) (s2p rfl (bl rfl))
theorem dX4_takeRock_50 : decode cX4_takeRock 50 = .ok (.iload 4, 2) := fq2_21 (fl_X4_takeRock_0 (j := 50) rfl rfl) (fl_X4_takeRock_0 (j := 51) rfl rfl) rfl
theorem dX4_takeRock_52 : decode cX4_takeRock 52 = .ok (.goto 4, 3) := fq3_167 (fl_X4_takeRock_0 (j := 52) rfl rfl) (fl_X4_takeRock_0 (j := 53) rfl rfl) (fl_X4_takeRock_0 (j := 54) rfl rfl) (s2p rfl (bl rfl))
theorem dX4_takeRock_55 : decode cX4_takeRock 55 = .ok (.iconst 2, 1) := fq1_5 (fl_X4_takeRock_0 (j := 55) rfl rfl)
theorem dX4_takeRock_56 : decode cX4_takeRock 56 = .ok (.invokevirtual 80, 3) := fq3_182 (fl_X4_takeRock_0 (j := 56) rfl rfl) (fl_X4_takeRock_0 (j := 57) rfl rfl) (fl_X4_takeRock_0 (j := 58) rfl rfl) rfl
theorem dX4_takeRock_59 : decode cX4_takeRock 59 = .ok (.pop, 1) := fq1_87 (fl_X4_takeRock_0 (j := 59) rfl rfl)
theorem dX4_takeRock_60 : decode cX4_takeRock 60 = .ok (.iconst (-1), 1) := fq1_2 (fl_X4_takeRock_0 (j := 60) rfl rfl)
theorem dX4_takeRock_61 : decode cX4_takeRock 61 = .ok (.ireturn, 1) := fq1_172 (fl_X4_takeRock_0 (j := 61) rfl rfl)
theorem dX4_takeRock_62 : decode cX4_takeRock 62 = .ok (.aload_n 0, 1) := fq1_42 (fl_X4_takeRock_0 (j := 62) rfl rfl)
def fb_X4_takeRock_1 : List UInt8 := [0x00, 0x32, 0x1d, 0xac]
theorem fl_X4_takeRock_1 {p j : Nat} {b : UInt8} (e : p = 64 + j) (h : fb_X4_takeRock_1[j]? = some b) : cX4_takeRock.data.toList[p]? = some b := fq_l (n := 64) (show (cX4_takeRock.data.toList.drop 64).take 64 = fb_X4_takeRock_1 by decide +kernel) e h
theorem dX4_takeRock_63 : decode cX4_takeRock 63 = .ok (.invokevirtual 50, 3) := fq3_182 (fl_X4_takeRock_0 (j := 63) rfl rfl) (fl_X4_takeRock_1 (j := 0) rfl rfl) (fl_X4_takeRock_1 (j := 1) rfl rfl) rfl
theorem dX4_takeRock_66 : decode cX4_takeRock 66 = .ok (.iload_n 3, 1) := fq1_29 (fl_X4_takeRock_1 (j := 2) rfl rfl)
theorem dX4_takeRock_67 : decode cX4_takeRock 67 = .ok (.ireturn, 1) := fq1_172 (fl_X4_takeRock_1 (j := 3) rfl rfl)
def fb_X4_takeSign_0 : List UInt8 := [0x2a, 0xb4, 0x00, 0x44, 0x06, 0xa0, 0x00, 0x0b, 0x2a, 0xb4, 0x00, 0x41, 0x1b, 0x9f, 0x00, 0x09, 0x2a, 0x05, 0xb6, 0x00, 0x50, 0xac, 0x2a, 0xb6, 0x00, 0x32, 0x04, 0xac]
theorem fl_X4_takeSign_0 {p j : Nat} {b : UInt8} (e : p = 0 + j) (h : fb_X4_takeSign_0[j]? = some b) : cX4_takeSign.data.toList[p]? = some b := fq_l (n := 64) (show (cX4_takeSign.data.toList.drop 0).take 64 = fb_X4_takeSign_0 by decide +kernel) e h
theorem dX4_takeSign_0 : decode cX4_takeSign 0 = .ok (.aload_n 0, 1) := fq1_42 (fl_X4_takeSign_0 (j := 0) rfl rfl)
theorem dX4_takeSign_1 : decode cX4_takeSign 1 = .ok (.getfield 68, 3) := fq3_180 (fl_X4_takeSign_0 (j := 1) rfl rfl) (fl_X4_takeSign_0 (j := 2) rfl rfl) (fl_X4_takeSign_0 (j := 3) rfl rfl) rfl
theorem dX4_takeSign_4 : decode cX4_takeSign 4 = .ok (.iconst 3, 1) := fq1_6 (fl_X4_takeSign_0 (j := 4) rfl rfl)
theorem dX4_takeSign_5 : decode cX4_takeSign 5 = .ok (.if_icmp .ne 11, 3) := fq3_160 (fl_X4_takeSign_0 (j := 5) rfl rfl) (fl_X4_takeSign_0 (j := 6) rfl rfl) (fl_X4_takeSign_0 (j := 7) rfl rfl) (s2p rfl (bl rfl))
theorem dX4_takeSign_8 : decode cX4_takeSign 8 = .ok (.aload_n 0, 1) := fq1_42 (fl_X4_takeSign_0 (j := 8) rfl rfl)
theorem dX4_takeSign_9 : decode cX4_takeSign 9 = .ok (.getfield 65, 3) := fq3_180 (fl_X4_takeSign_0 (j := 9) rfl rfl) (fl_X4_takeSign_0 (j := 10) rfl rfl) (fl_X4_takeSign_0 (j := 11) rfl rfl) rfl
theorem dX4_takeSign_12 : decode cX4_takeSign 12 = .ok (.iload_n 1, 1) := fq1_27 (fl_X4_takeSign_0 (j := 12) rfl rfl)
theorem dX4_takeSign_13 : decode cX4_takeSign 13 = .ok (.if_icmp .eq 9, 3) := fq3_159 (fl_X4_takeSign_0 (j := 13) rfl rfl) (fl_X4_takeSign_0 (j := 14) rfl rfl) (fl_X4_takeSign_0 (j := 15) rfl rfl) (s2p rfl (bl rfl))
theorem dX4_takeSign_16 : decode cX4_takeSign 16 = .ok (.aload_n 0, 1) := fq1_42 (fl_X4_takeSign_0 (j := 16) rfl rfl)
theorem dX4_takeSign_17 : decode cX4_takeSign 17 = .ok (.iconst 2, 1) := fq1_5 (fl_X4_takeSign_0 (j := 17) rfl rfl)
theorem dX4_takeSign_18 : decode cX4_takeSign 18 = .ok (.invokevirtual 80, 3) := fq3_182 (fl_X4_takeSign_0 (j := 18) rfl rfl) (fl_X4_takeSign_0 (j := 19) rfl rfl) (fl_X4_takeSign_0 (j := 20) rfl rfl) rfl
theorem dX4_takeSign_21 : decode cX4_takeSign 21 = .ok (.ireturn, 1) := fq1_172 (fl_X4_takeSign_0 (j := 21) rfl rfl)
theorem dX4_takeSign_22 : decode cX4_takeSign 22 = .ok (.aload_n 0, 1) := fq1_42 (fl_X4_takeSign_0 (j := 22) rfl rfl)
theorem dX4_takeSign_23 : decode cX4_takeSign 23 = .ok (.invokevirtual 50, 3) := fq3_182 (fl_X4_takeSign_0 (j := 23) rfl rfl) (fl_X4_takeSign_0 (j := 24) rfl rfl) (fl_X4_takeSign_0 (j := 25) rfl rfl) rfl
theorem dX4_takeSign_26 : decode cX4_takeSign 26 = .ok (.iconst 1, 1) := fq1_4 (fl_X4_takeSign_0 (j := 26) rfl rfl)
theorem dX4_takeSign_27 : decode cX4_takeSign 27 = .ok (.ireturn, 1) := fq1_172 (fl_X4_takeSign_0 (j := 27) rfl rfl)
def fb_X4_takeWord_0 : List UInt8 := [0x2a, 0xb4, 0x00, 0x38, 0x1b, 0x9f, 0x00, 0x09, 0x2a, 0x05, 0xb6, 0x00, 0x50, 0xac, 0x2a, 0xb6, 0x00, 0x32, 0x04, 0xac]
theorem fl_X4_takeWord_0 {p j : Nat} {b : UInt8} (e : p = 0 + j) (h : fb_X4_takeWord_0[j]? = some b) : cX4_takeWord.data.toList[p]? = some b := fq_l (n := 64) (show (cX4_takeWord.data.toList.drop 0).take 64 = fb_X4_takeWord_0 by decide +kernel) e h
theorem dX4_takeWord_0 : decode cX4_takeWord 0 = .ok (.aload_n 0, 1) := fq1_42 (fl_X4_takeWord_0 (j := 0) rfl rfl)
theorem dX4_takeWord_1 : decode cX4_takeWord 1 = .ok (.getfield 56, 3) := fq3_180 (fl_X4_takeWord_0 (j := 1) rfl rfl) (fl_X4_takeWord_0 (j := 2) rfl rfl) (fl_X4_takeWord_0 (j := 3) rfl rfl) rfl
theorem dX4_takeWord_4 : decode cX4_takeWord 4 = .ok (.iload_n 1, 1) := fq1_27 (fl_X4_takeWord_0 (j := 4) rfl rfl)
theorem dX4_takeWord_5 : decode cX4_takeWord 5 = .ok (.if_icmp .eq 9, 3) := fq3_159 (fl_X4_takeWord_0 (j := 5) rfl rfl) (fl_X4_takeWord_0 (j := 6) rfl rfl) (fl_X4_takeWord_0 (j := 7) rfl rfl) (s2p rfl (bl rfl))
theorem dX4_takeWord_8 : decode cX4_takeWord 8 = .ok (.aload_n 0, 1) := fq1_42 (fl_X4_takeWord_0 (j := 8) rfl rfl)
theorem dX4_takeWord_9 : decode cX4_takeWord 9 = .ok (.iconst 2, 1) := fq1_5 (fl_X4_takeWord_0 (j := 9) rfl rfl)
theorem dX4_takeWord_10 : decode cX4_takeWord 10 = .ok (.invokevirtual 80, 3) := fq3_182 (fl_X4_takeWord_0 (j := 10) rfl rfl) (fl_X4_takeWord_0 (j := 11) rfl rfl) (fl_X4_takeWord_0 (j := 12) rfl rfl) rfl
theorem dX4_takeWord_13 : decode cX4_takeWord 13 = .ok (.ireturn, 1) := fq1_172 (fl_X4_takeWord_0 (j := 13) rfl rfl)
theorem dX4_takeWord_14 : decode cX4_takeWord 14 = .ok (.aload_n 0, 1) := fq1_42 (fl_X4_takeWord_0 (j := 14) rfl rfl)
theorem dX4_takeWord_15 : decode cX4_takeWord 15 = .ok (.invokevirtual 50, 3) := fq3_182 (fl_X4_takeWord_0 (j := 15) rfl rfl) (fl_X4_takeWord_0 (j := 16) rfl rfl) (fl_X4_takeWord_0 (j := 17) rfl rfl) rfl
theorem dX4_takeWord_18 : decode cX4_takeWord 18 = .ok (.iconst 1, 1) := fq1_4 (fl_X4_takeWord_0 (j := 18) rfl rfl)
theorem dX4_takeWord_19 : decode cX4_takeWord 19 = .ok (.ireturn, 1) := fq1_172 (fl_X4_takeWord_0 (j := 19) rfl rfl)
end

section
set_option maxHeartbeats 4000000 in
set_option maxRecDepth 100000 in
theorem k_isAtEnd (l : Launch) (D : va_G) (k : Nat → ClassId) (hr1 : Nat) (fs : List Value) (ki : Int) (f6 : fs[6]? = some (.int (iZ ki))) (hki : 0 ≤ ki ∧ ki ≤ 4) : RP l yX4_isAtEnd cX4_isAtEnd 1 (some .boolean) 0 D k [.ref hr1] [(hr1, .inr (4, fs))] (fun z => (z = 1 ∧ ki = 0) ∨ (z = 0 ∧ ¬ ki = 0)) := by
  refine MRP (by decide) (Nat.le_of_ble_eq_true rfl) (fun p e s m below meth c ls hx hb hml hr hlocks hts hown hKK hP hl => ?_)
  have hK := hKK.1
  have hl : lv_has ls 1 [(0, .ref hr1)] := hl
  refine lv_aload_n hx hb dX4_isAtEnd_0 rfl (lv_at hl 0 rfl) ?_
  refine va_get (D := D) (ci := 4) (v := .int (iZ ki)) (C := RX4) (T := TX4) (N := 12) hx hb hts iX4 hown hK hP 0 rfl rfl 6 (bl rfl) (hts _ qf_X4_68) (fun _ h => h) f6 dX4_isAtEnd_1 ?_
  refine lv_if_ne (tgt := 11) hx hb dX4_isAtEnd_4 rfl (fun c_1 => ?_) (fun c_1 => ?_)
  ·
    have c_1 := mt (zeq (x := iZ ki) (y := iZ 0) rfl rfl ⟨by omega, by omega⟩ wn_0).mpr c_1
    refine lv_iconst (v := iZ 0) hx hb dX4_isAtEnd_11 rfl ?_
    exact EPz hx hb hr hlocks (by omega) (by omega) dX4_isAtEnd_12
  ·
    have c_1 := (zeq (x := iZ ki) (y := iZ 0) rfl rfl ⟨by omega, by omega⟩ wn_0).mp c_1
    refine lv_iconst (v := iZ 1) hx hb dX4_isAtEnd_7 rfl ?_
    refine lv_goto (tgt := 12) hx hb dX4_isAtEnd_8 rfl ?_
    exact EPz hx hb hr hlocks (by omega) (by omega) dX4_isAtEnd_12
theorem nm_rg {g : Nat → Int64} {n : Int} {v : Int64} {z : Int} (h : isNm g n v z) : z = -1 ∨ (0 ≤ z ∧ z < n) := by
  rcases h with ⟨h, -⟩ | ⟨h1, h2, -⟩
  · exact Or.inl h
  · exact Or.inr ⟨h1, h2⟩
end
