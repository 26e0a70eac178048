section
theorem qf_X4_9 : Cond.fieldLink RX4 9 "SlowWorlds$Reader" "text" "[B" ∈ gw := tbt (tb2 (List.mem_of_getElem? (i := 2) rfl)) rfl
theorem iX4 : ∀ w ∈ u_ws RX4 TX4 12, w ∈ gw := by
  intro w hw
  obtain ⟨k, hk, rfl⟩ := List.mem_map.mp hw
  have hk := List.mem_range.mp hk
  match k, hk with
  | 0, _ => exact tbt (tb2 (List.mem_of_getElem? (i := 20) rfl)) rfl
  | 1, _ => exact tbt (tb2 (List.mem_of_getElem? (i := 22) rfl)) rfl
  | 2, _ => exact tbt (tb2 (List.mem_of_getElem? (i := 24) rfl)) rfl
  | 3, _ => exact tbt (tb2 (List.mem_of_getElem? (i := 26) rfl)) rfl
  | 4, _ => exact tbt (tb2 (List.mem_of_getElem? (i := 28) rfl)) rfl
  | 5, _ => exact tbt (tb2 (List.mem_of_getElem? (i := 30) rfl)) rfl
  | 6, _ => exact tbt (tb2 (List.mem_of_getElem? (i := 32) rfl)) rfl
  | 7, _ => exact tbt (tb2 (List.mem_of_getElem? (i := 34) rfl)) rfl
  | 8, _ => exact tbt (tb2 (List.mem_of_getElem? (i := 36) rfl)) rfl
  | 9, _ => exact tbt (tb2 (List.mem_of_getElem? (i := 38) rfl)) rfl
  | 10, _ => exact tbt (tb2 (List.mem_of_getElem? (i := 40) rfl)) rfl
  | 11, _ => exact tbt (tb2 (List.mem_of_getElem? (i := 42) rfl)) rfl
  | (k + 12), hk => exact absurd hk (by omega)
theorem qf_X4_47 : Cond.fieldLink RX4 47 "SlowWorlds$Reader" "end" "I" ∈ gw := tbt (tb2 (List.mem_of_getElem? (i := 8) rfl)) rfl
theorem qf_X4_68 : Cond.fieldLink RX4 68 "SlowWorlds$Reader" "kind" "I" ∈ gw := tbt (tb2 (List.mem_of_getElem? (i := 9) rfl)) rfl
theorem qf_X4_65 : Cond.fieldLink RX4 65 "SlowWorlds$Reader" "value" "I" ∈ gw := tbt (tb2 (List.mem_of_getElem? (i := 10) rfl)) rfl
theorem qf_X4_45 : Cond.fieldLink RX4 45 "SlowWorlds$Reader" "length" "I" ∈ gw := tbt (tb2 (List.mem_of_getElem? (i := 6) rfl)) rfl
theorem qf_X4_53 : Cond.fieldLink RX4 53 "SlowWorlds$Reader" "place" "I" ∈ gw := tbt (tb2 (List.mem_of_getElem? (i := 7) rfl)) rfl
theorem qf_X4_61 : Cond.fieldLink RX4 61 "SlowWorlds$Reader" "name" "J" ∈ gw := tbt (tb2 (List.mem_of_getElem? (i := 15) rfl)) rfl
theorem qf_X4_15 : Cond.fieldLink RX4 15 "SlowWorlds$Reader" "keywords" "[J" ∈ gw := tbt (tb2 (List.mem_of_getElem? (i := 3) rfl)) rfl
theorem qf_X4_56 : Cond.fieldLink RX4 56 "SlowWorlds$Reader" "keyword" "I" ∈ gw := tbt (tb2 (List.mem_of_getElem? (i := 13) rfl)) rfl
theorem qk_X4_59 : Cond.constantLong RX4 59 (-1) ∈ gw := tbt (tb3 (List.mem_of_getElem? (i := 97) rfl)) rfl
theorem qk_X4_38 : Cond.constantLong RX4 38 (32) ∈ gw := tbt (tb2 (List.mem_of_getElem? (i := 0) rfl)) rfl
theorem qk_X4_40 : Cond.constantLong RX4 40 (97) ∈ gw := tbt (tb2 (List.mem_of_getElem? (i := 1) rfl)) rfl
theorem qc_X4_readSign : Cond.code yX4_readSign cX4_readSign 2 none ∈ gw := tbt (tb3 (List.mem_of_getElem? (i := 109) rfl)) rfl
theorem qi_yX4_readSign : Cond.instanceMethod yX4_readSign ∈ gw := tbt (tb3 (List.mem_of_getElem? (i := 108) rfl)) rfl
theorem qs_X4_readSign : Cond.selects (yX4_readSign).cls yX4_readSign yX4_readSign ∈ gw := tb0 (List.mem_of_getElem? (i := 6) rfl) rfl
theorem qz_X4 : Cond.initialized RX4 ∈ gw := tbt (tb1 (List.mem_of_getElem? (i := 6) rfl)) rfl
theorem ci_X4_readSign : CIv yX4_readSign cX4_readSign 2 none 0 := ⟨qc_X4_readSign, qi_yX4_readSign, qs_X4_readSign, qz_X4, by decide +kernel⟩
theorem qm_X4_77 : Cond.methodLink RX4 77 yX4_readSign ∈ gw := tbt (tb3 (List.mem_of_getElem? (i := 106) rfl)) rfl
theorem qc_X4_readNumber : Cond.code yX4_readNumber cX4_readNumber 2 none ∈ gw := tbt (tb3 (List.mem_of_getElem? (i := 105) rfl)) rfl
theorem qi_yX4_readNumber : Cond.instanceMethod yX4_readNumber ∈ gw := tbt (tb3 (List.mem_of_getElem? (i := 104) rfl)) rfl
theorem qs_X4_readNumber : Cond.selects (yX4_readNumber).cls yX4_readNumber yX4_readNumber ∈ gw := tb0 (List.mem_of_getElem? (i := 5) rfl) rfl
theorem ci_X4_readNumber : CIv yX4_readNumber cX4_readNumber 2 none 0 := ⟨qc_X4_readNumber, qi_yX4_readNumber, qs_X4_readNumber, qz_X4, by decide +kernel⟩
theorem qm_X4_74 : Cond.methodLink RX4 74 yX4_readNumber ∈ gw := tbt (tb3 (List.mem_of_getElem? (i := 102) rfl)) rfl
theorem qc_X4_readWord : Cond.code yX4_readWord cX4_readWord 4 none ∈ gw := tbt (tb3 (List.mem_of_getElem? (i := 101) rfl)) rfl
theorem qi_yX4_readWord : Cond.instanceMethod yX4_readWord ∈ gw := tbt (tb3 (List.mem_of_getElem? (i := 100) rfl)) rfl
theorem qs_X4_readWord : Cond.selects (yX4_readWord).cls yX4_readWord yX4_readWord ∈ gw := tb0 (List.mem_of_getElem? (i := 4) rfl) rfl
theorem ci_X4_readWord : CIv yX4_readWord cX4_readWord 4 none 0 := ⟨qc_X4_readWord, qi_yX4_readWord, qs_X4_readWord, qz_X4, by decide +kernel⟩
theorem qm_X4_71 : Cond.methodLink RX4 71 yX4_readWord ∈ gw := tbt (tb3 (List.mem_of_getElem? (i := 98) rfl)) rfl
def fb_X4_next_0 : List UInt8 := [0x2a, 0xb4, 0x00, 0x2f, 0x2a, 0xb4, 0x00, 0x2d, 0xa2, 0x00, 0x2c, 0x2a, 0xb4, 0x00, 0x09, 0x2a, 0xb4, 0x00, 0x2f, 0x33, 0x10, 0x0a, 0x9f, 0x00, 0x11, 0x2a, 0xb4, 0x00, 0x09, 0x2a, 0xb4, 0x00, 0x2f, 0x33, 0x10, 0x20, 0xa0, 0x00, 0x10, 0x2a, 0x59, 0xb4, 0x00, 0x2f, 0x04, 0x60, 0xb5, 0x00, 0x2f, 0xa7, 0xff, 0xcf, 0x2a, 0x2a, 0xb4, 0x00, 0x2f, 0xb5, 0x00, 0x35, 0x2a, 0x02, 0xb5, 0x00]
theorem fl_X4_next_0 {p j : Nat} {b : UInt8} (e : p = 0 + j) (h : fb_X4_next_0[j]? = some b) : cX4_next.data.toList[p]? = some b := fq_l (n := 64) (show (cX4_next.data.toList.drop 0).take 64 = fb_X4_next_0 by decide +kernel) e h
theorem dX4_next_0 : decode cX4_next 0 = .ok (.aload_n 0, 1) := fq1_42 (fl_X4_next_0 (j := 0) rfl rfl)
theorem dX4_next_1 : decode cX4_next 1 = .ok (.getfield 47, 3) := fq3_180 (fl_X4_next_0 (j := 1) rfl rfl) (fl_X4_next_0 (j := 2) rfl rfl) (fl_X4_next_0 (j := 3) rfl rfl) rfl
theorem dX4_next_4 : decode cX4_next 4 = .ok (.aload_n 0, 1) := fq1_42 (fl_X4_next_0 (j := 4) rfl rfl)
theorem dX4_next_5 : decode cX4_next 5 = .ok (.getfield 45, 3) := fq3_180 (fl_X4_next_0 (j := 5) rfl rfl) (fl_X4_next_0 (j := 6) rfl rfl) (fl_X4_next_0 (j := 7) rfl rfl) rfl
theorem dX4_next_8 : decode cX4_next 8 = .ok (.if_icmp .ge 44, 3) := fq3_162 (fl_X4_next_0 (j := 8) rfl rfl) (fl_X4_next_0 (j := 9) rfl rfl) (fl_X4_next_0 (j := 10) rfl rfl) (s2p rfl (bl rfl))
theorem dX4_next_11 : decode cX4_next 11 = .ok (.aload_n 0, 1) := fq1_42 (fl_X4_next_0 (j := 11) rfl rfl)
theorem dX4_next_12 : decode cX4_next 12 = .ok (.getfield 9, 3) := fq3_180 (fl_X4_next_0 (j := 12) rfl rfl) (fl_X4_next_0 (j := 13) rfl rfl) (fl_X4_next_0 (j := 14) rfl rfl) rfl
theorem dX4_next_15 : decode cX4_next 15 = .ok (.aload_n 0, 1) := fq1_42 (fl_X4_next_0 (j := 15) rfl rfl)
theorem dX4_next_16 : decode cX4_next 16 = .ok (.getfield 47, 3) := fq3_180 (fl_X4_next_0 (j := 16) rfl rfl) (fl_X4_next_0 (j := 17) rfl rfl) (fl_X4_next_0 (j := 18) rfl rfl) rfl
theorem dX4_next_19 : decode cX4_next 19 = .ok (.baload, 1) := fq1_51 (fl_X4_next_0 (j := 19) rfl rfl)
theorem dX4_next_20 : decode cX4_next 20 = .ok (.bipush 10, 2) := fq2_16 (fl_X4_next_0 (j := 20) rfl rfl) (fl_X4_next_0 (j := 21) rfl rfl) (s1p rfl (bl rfl))
theorem dX4_next_22 : decode cX4_next 22 = .ok (.if_icmp .eq 17, 3) := fq3_159 (fl_X4_next_0 (j := 22) rfl rfl) (fl_X4_next_0 (j := 23) rfl rfl) (fl_X4_next_0 (j := 24) rfl rfl) (s2p rfl (bl rfl))
theorem dX4_next_25 : decode cX4_next 25 = .ok (.aload_n 0, 1) := fq1_42 (fl_X4_next_0 (j := 25) rfl rfl)
theorem dX4_next_26 : decode cX4_next 26 = .ok (.getfield 9, 3) := fq3_180 (fl_X4_next_0 (j := 26) rfl rfl) (fl_X4_next_0 (j := 27) rfl rfl) (fl_X4_next_0 (j := 28) rfl rfl) rfl
theorem dX4_next_29 : decode cX4_next 29 = .ok (.aload_n 0, 1) := fq1_42 (fl_X4_next_0 (j := 29) rfl rfl)
theorem dX4_next_30 : decode cX4_next 30 = .ok (.getfield 47, 3) := fq3_180 (fl_X4_next_0 (j := 30) rfl rfl) (fl_X4_next_0 (j := 31) rfl rfl) (fl_X4_next_0 (j := 32) rfl rfl) rfl
theorem dX4_next_33 : decode cX4_next 33 = .ok (.baload, 1) := fq1_51 (fl_X4_next_0 (j := 33) rfl rfl)
theorem dX4_next_34 : decode cX4_next 34 = .ok (.bipush 32, 2) := fq2_16 (fl_X4_next_0 (j := 34) rfl rfl) (fl_X4_next_0 (j := 35) rfl rfl) (s1p rfl (bl rfl))
theorem dX4_next_36 : decode cX4_next 36 = .ok (.if_icmp .ne 16, 3) := fq3_160 (fl_X4_next_0 (j := 36) rfl rfl) (fl_X4_next_0 (j := 37) rfl rfl) (fl_X4_next_0 (j := 38) rfl rfl) (s2p rfl (bl rfl))
theorem dX4_next_39 : decode cX4_next 39 = .ok (.aload_n 0, 1) := fq1_42 (fl_X4_next_0 (j := 39) rfl rfl)
theorem dX4_next_40 : decode cX4_next 40 = .ok (.dup, 1) := fq1_89 (fl_X4_next_0 (j := 40) rfl rfl)
theorem dX4_next_41 : decode cX4_next 41 = .ok (.getfield 47, 3) := fq3_180 (fl_X4_next_0 (j := 41) rfl rfl) (fl_X4_next_0 (j := 42) rfl rfl) (fl_X4_next_0 (j := 43) rfl rfl) rfl
theorem dX4_next_44 : decode cX4_next 44 = .ok (.iconst 1, 1) := fq1_4 (fl_X4_next_0 (j := 44) rfl rfl)
theorem dX4_next_45 : decode cX4_next 45 = .ok (.iadd, 1) := fq1_96 (fl_X4_next_0 (j := 45) rfl rfl)
theorem dX4_next_46 : decode cX4_next 46 = .ok (.putfield 47, 3) := fq3_181 (fl_X4_next_0 (j := 46) rfl rfl) (fl_X4_next_0 (j := 47) rfl rfl) (fl_X4_next_0 (j := 48) rfl rfl) rfl
theorem dX4_next_49 : decode cX4_next 49 = .ok (.goto (-49), 3) := fq3_167 (fl_X4_next_0 (j := 49) rfl rfl) (fl_X4_next_0 (j := 50) rfl rfl) (fl_X4_next_0 (j := 51) rfl rfl) (by decide)
theorem dX4_next_52 : decode cX4_next 52 = .ok (.aload_n 0, 1) := fq1_42 (fl_X4_next_0 (j := 52) rfl rfl)
theorem dX4_next_53 : decode cX4_next 53 = .ok (.aload_n 0, 1) := fq1_42 (fl_X4_next_0 (j := 53) rfl rfl)
theorem dX4_next_54 : decode cX4_next 54 = .ok (.getfield 47, 3) := fq3_180 (fl_X4_next_0 (j := 54) rfl rfl) (fl_X4_next_0 (j := 55) rfl rfl) (fl_X4_next_0 (j := 56) rfl rfl) rfl
theorem dX4_next_57 : decode cX4_next 57 = .ok (.putfield 53, 3) := fq3_181 (fl_X4_next_0 (j := 57) rfl rfl) (fl_X4_next_0 (j := 58) rfl rfl) (fl_X4_next_0 (j := 59) rfl rfl) rfl
theorem dX4_next_60 : decode cX4_next 60 = .ok (.aload_n 0, 1) := fq1_42 (fl_X4_next_0 (j := 60) rfl rfl)
theorem dX4_next_61 : decode cX4_next 61 = .ok (.iconst (-1), 1) := fq1_2 (fl_X4_next_0 (j := 61) rfl rfl)
def fb_X4_next_1 : List UInt8 := [0x38, 0x2a, 0x14, 0x00, 0x3b, 0xb5, 0x00, 0x3d, 0x2a, 0x02, 0xb5, 0x00, 0x41, 0x2a, 0xb4, 0x00, 0x2f, 0x2a, 0xb4, 0x00, 0x2d, 0xa1, 0x00, 0x0b, 0x2a, 0x03, 0xb5, 0x00, 0x44, 0xa7, 0x00, 0x4d, 0x2a, 0xb4, 0x00, 0x09, 0x2a, 0xb4, 0x00, 0x2f, 0x33, 0x10, 0x61, 0xa1, 0x00, 0x18, 0x2a, 0xb4, 0x00, 0x09, 0x2a, 0xb4, 0x00, 0x2f, 0x33, 0x10, 0x7a, 0xa3, 0x00, 0x0a, 0x2a, 0xb6, 0x00, 0x47]
theorem fl_X4_next_1 {p j : Nat} {b : UInt8} (e : p = 64 + j) (h : fb_X4_next_1[j]? = some b) : cX4_next.data.toList[p]? = some b := fq_l (n := 64) (show (cX4_next.data.toList.drop 64).take 64 = fb_X4_next_1 by decide +kernel) e h
theorem dX4_next_62 : decode cX4_next 62 = .ok (.putfield 56, 3) := fq3_181 (fl_X4_next_0 (j := 62) rfl rfl) (fl_X4_next_0 (j := 63) rfl rfl) (fl_X4_next_1 (j := 0) rfl rfl) rfl
theorem dX4_next_65 : decode cX4_next 65 = .ok (.aload_n 0, 1) := fq1_42 (fl_X4_next_1 (j := 1) rfl rfl)
theorem dX4_next_66 : decode cX4_next 66 = .ok (.ldc2_w 59, 3) := fq3_20 (fl_X4_next_1 (j := 2) rfl rfl) (fl_X4_next_1 (j := 3) rfl rfl) (fl_X4_next_1 (j := 4) rfl rfl) rfl
theorem dX4_next_69 : decode cX4_next 69 = .ok (.putfield 61, 3) := fq3_181 (fl_X4_next_1 (j := 5) rfl rfl) (fl_X4_next_1 (j := 6) rfl rfl) (fl_X4_next_1 (j := 7) rfl rfl) rfl
theorem dX4_next_72 : decode cX4_next 72 = .ok (.aload_n 0, 1) := fq1_42 (fl_X4_next_1 (j := 8) rfl rfl)
theorem dX4_next_73 : decode cX4_next 73 = .ok (.iconst (-1), 1) := fq1_2 (fl_X4_next_1 (j := 9) rfl rfl)
theorem dX4_next_74 : decode cX4_next 74 = .ok (.putfield 65, 3) := fq3_181 (fl_X4_next_1 (j := 10) rfl rfl) (fl_X4_next_1 (j := 11) rfl rfl) (fl_X4_next_1 (j := 12) rfl rfl) rfl
theorem dX4_next_77 : decode cX4_next 77 = .ok (.aload_n 0, 1) := fq1_42 (fl_X4_next_1 (j := 13) rfl rfl)
theorem dX4_next_78 : decode cX4_next 78 = .ok (.getfield 47, 3) := fq3_180 (fl_X4_next_1 (j := 14) rfl rfl) (fl_X4_next_1 (j := 15) rfl rfl) (fl_X4_next_1 (j := 16) rfl rfl) rfl
theorem dX4_next_81 : decode cX4_next 81 = .ok (.aload_n 0, 1) := fq1_42 (fl_X4_next_1 (j := 17) rfl rfl)
theorem dX4_next_82 : decode cX4_next 82 = .ok (.getfield 45, 3) := fq3_180 (fl_X4_next_1 (j := 18) rfl rfl) (fl_X4_next_1 (j := 19) rfl rfl) (fl_X4_next_1 (j := 20) rfl rfl) rfl
theorem dX4_next_85 : decode cX4_next 85 = .ok (.if_icmp .lt 11, 3) := fq3_161 (fl_X4_next_1 (j := 21) rfl rfl) (fl_X4_next_1 (j := 22) rfl rfl) (fl_X4_next_1 (j := 23) rfl rfl) (s2p rfl (bl rfl))
theorem dX4_next_88 : decode cX4_next 88 = .ok (.aload_n 0, 1) := fq1_42 (fl_X4_next_1 (j := 24) rfl rfl)
theorem dX4_next_89 : decode cX4_next 89 = .ok (.iconst 0, 1) := fq1_3 (fl_X4_next_1 (j := 25) rfl rfl)
theorem dX4_next_90 : decode cX4_next 90 = .ok (.putfield 68, 3) := fq3_181 (fl_X4_next_1 (j := 26) rfl rfl) (fl_X4_next_1 (j := 27) rfl rfl) (fl_X4_next_1 (j := 28) rfl rfl) rfl
theorem dX4_next_93 : decode cX4_next 93 = .ok (.goto 77, 3) := fq3_167 (fl_X4_next_1 (j := 29) rfl rfl) (fl_X4_next_1 (j := 30) rfl rfl) (fl_X4_next_1 (j := 31) rfl rfl) (s2p rfl (bl rfl))
theorem dX4_next_96 : decode cX4_next 96 = .ok (.aload_n 0, 1) := fq1_42 (fl_X4_next_1 (j := 32) rfl rfl)
theorem dX4_next_97 : decode cX4_next 97 = .ok (.getfield 9, 3) := fq3_180 (fl_X4_next_1 (j := 33) rfl rfl) (fl_X4_next_1 (j := 34) rfl rfl) (fl_X4_next_1 (j := 35) rfl rfl) rfl
theorem dX4_next_100 : decode cX4_next 100 = .ok (.aload_n 0, 1) := fq1_42 (fl_X4_next_1 (j := 36) rfl rfl)
theorem dX4_next_101 : decode cX4_next 101 = .ok (.getfield 47, 3) := fq3_180 (fl_X4_next_1 (j := 37) rfl rfl) (fl_X4_next_1 (j := 38) rfl rfl) (fl_X4_next_1 (j := 39) rfl rfl) rfl
theorem dX4_next_104 : decode cX4_next 104 = .ok (.baload, 1) := fq1_51 (fl_X4_next_1 (j := 40) rfl rfl)
theorem dX4_next_105 : decode cX4_next 105 = .ok (.bipush 97, 2) := fq2_16 (fl_X4_next_1 (j := 41) rfl rfl) (fl_X4_next_1 (j := 42) rfl rfl) (s1p rfl (bl rfl))
theorem dX4_next_107 : decode cX4_next 107 = .ok (.if_icmp .lt 24, 3) := fq3_161 (fl_X4_next_1 (j := 43) rfl rfl) (fl_X4_next_1 (j := 44) rfl rfl) (fl_X4_next_1 (j := 45) rfl rfl) (s2p rfl (bl rfl))
theorem dX4_next_110 : decode cX4_next 110 = .ok (.aload_n 0, 1) := fq1_42 (fl_X4_next_1 (j := 46) rfl rfl)
theorem dX4_next_111 : decode cX4_next 111 = .ok (.getfield 9, 3) := fq3_180 (fl_X4_next_1 (j := 47) rfl rfl) (fl_X4_next_1 (j := 48) rfl rfl) (fl_X4_next_1 (j := 49) rfl rfl) rfl
theorem dX4_next_114 : decode cX4_next 114 = .ok (.aload_n 0, 1) := fq1_42 (fl_X4_next_1 (j := 50) rfl rfl)
theorem dX4_next_115 : decode cX4_next 115 = .ok (.getfield 47, 3) := fq3_180 (fl_X4_next_1 (j := 51) rfl rfl) (fl_X4_next_1 (j := 52) rfl rfl) (fl_X4_next_1 (j := 53) rfl rfl) rfl
theorem dX4_next_118 : decode cX4_next 118 = .ok (.baload, 1) := fq1_51 (fl_X4_next_1 (j := 54) rfl rfl)
theorem dX4_next_119 : decode cX4_next 119 = .ok (.bipush 122, 2) := fq2_16 (fl_X4_next_1 (j := 55) rfl rfl) (fl_X4_next_1 (j := 56) rfl rfl) (s1p rfl (bl rfl))
theorem dX4_next_121 : decode cX4_next 121 = .ok (.if_icmp .gt 10, 3) := fq3_163 (fl_X4_next_1 (j := 57) rfl rfl) (fl_X4_next_1 (j := 58) rfl rfl) (fl_X4_next_1 (j := 59) rfl rfl) (s2p rfl (bl rfl))
theorem dX4_next_124 : decode cX4_next 124 = .ok (.aload_n 0, 1) := fq1_42 (fl_X4_next_1 (j := 60) rfl rfl)
theorem dX4_next_125 : decode cX4_next 125 = .ok (.invokevirtual 71, 3) := fq3_182 (fl_X4_next_1 (j := 61) rfl rfl) (fl_X4_next_1 (j := 62) rfl rfl) (fl_X4_next_1 (j := 63) rfl rfl) rfl
def fb_X4_next_2 : List UInt8 := [0xa7, 0x00, 0x2a, 0x2a, 0xb4, 0x00, 0x09, 0x2a, 0xb4, 0x00, 0x2f, 0x33, 0x10, 0x30, 0xa1, 0x00, 0x18, 0x2a, 0xb4, 0x00, 0x09, 0x2a, 0xb4, 0x00, 0x2f, 0x33, 0x10, 0x39, 0xa3, 0x00, 0x0a, 0x2a, 0xb6, 0x00, 0x4a, 0xa7, 0x00, 0x07, 0x2a, 0xb6, 0x00, 0x4d, 0xb1]
theorem fl_X4_next_2 {p j : Nat} {b : UInt8} (e : p = 128 + j) (h : fb_X4_next_2[j]? = some b) : cX4_next.data.toList[p]? = some b := fq_l (n := 64) (show (cX4_next.data.toList.drop 128).take 64 = fb_X4_next_2 by decide +kernel) e h
theorem dX4_next_128 : decode cX4_next 128 = .ok (.goto 42, 3) := fq3_167 (fl_X4_next_2 (j := 0) rfl rfl) (fl_X4_next_2 (j := 1) rfl rfl) (fl_X4_next_2 (j := 2) rfl rfl) (s2p rfl (bl rfl))
theorem dX4_next_131 : decode cX4_next 131 = .ok (.aload_n 0, 1) := fq1_42 (fl_X4_next_2 (j := 3) rfl rfl)
theorem dX4_next_132 : decode cX4_next 132 = .ok (.getfield 9, 3) := fq3_180 (fl_X4_next_2 (j := 4) rfl rfl) (fl_X4_next_2 (j := 5) rfl rfl) (fl_X4_next_2 (j := 6) rfl rfl) rfl
theorem dX4_next_135 : decode cX4_next 135 = .ok (.aload_n 0, 1) := fq1_42 (fl_X4_next_2 (j := 7) rfl rfl)
theorem dX4_next_136 : decode cX4_next 136 = .ok (.getfield 47, 3) := fq3_180 (fl_X4_next_2 (j := 8) rfl rfl) (fl_X4_next_2 (j := 9) rfl rfl) (fl_X4_next_2 (j := 10) rfl rfl) rfl
theorem dX4_next_139 : decode cX4_next 139 = .ok (.baload, 1) := fq1_51 (fl_X4_next_2 (j := 11) rfl rfl)
theorem dX4_next_140 : decode cX4_next 140 = .ok (.bipush 48, 2) := fq2_16 (fl_X4_next_2 (j := 12) rfl rfl) (fl_X4_next_2 (j := 13) rfl rfl) (s1p rfl (bl rfl))
theorem dX4_next_142 : decode cX4_next 142 = .ok (.if_icmp .lt 24, 3) := fq3_161 (fl_X4_next_2 (j := 14) rfl rfl) (fl_X4_next_2 (j := 15) rfl rfl) (fl_X4_next_2 (j := 16) rfl rfl) (s2p rfl (bl rfl))
theorem dX4_next_145 : decode cX4_next 145 = .ok (.aload_n 0, 1) := fq1_42 (fl_X4_next_2 (j := 17) rfl rfl)
theorem dX4_next_146 : decode cX4_next 146 = .ok (.getfield 9, 3) := fq3_180 (fl_X4_next_2 (j := 18) rfl rfl) (fl_X4_next_2 (j := 19) rfl rfl) (fl_X4_next_2 (j := 20) rfl rfl) rfl
theorem dX4_next_149 : decode cX4_next 149 = .ok (.aload_n 0, 1) := fq1_42 (fl_X4_next_2 (j := 21) rfl rfl)
theorem dX4_next_150 : decode cX4_next 150 = .ok (.getfield 47, 3) := fq3_180 (fl_X4_next_2 (j := 22) rfl rfl) (fl_X4_next_2 (j := 23) rfl rfl) (fl_X4_next_2 (j := 24) rfl rfl) rfl
theorem dX4_next_153 : decode cX4_next 153 = .ok (.baload, 1) := fq1_51 (fl_X4_next_2 (j := 25) rfl rfl)
theorem dX4_next_154 : decode cX4_next 154 = .ok (.bipush 57, 2) := fq2_16 (fl_X4_next_2 (j := 26) rfl rfl) (fl_X4_next_2 (j := 27) rfl rfl) (s1p rfl (bl rfl))
theorem dX4_next_156 : decode cX4_next 156 = .ok (.if_icmp .gt 10, 3) := fq3_163 (fl_X4_next_2 (j := 28) rfl rfl) (fl_X4_next_2 (j := 29) rfl rfl) (fl_X4_next_2 (j := 30) rfl rfl) (s2p rfl (bl rfl))
theorem dX4_next_159 : decode cX4_next 159 = .ok (.aload_n 0, 1) := fq1_42 (fl_X4_next_2 (j := 31) rfl rfl)
theorem dX4_next_160 : decode cX4_next 160 = .ok (.invokevirtual 74, 3) := fq3_182 (fl_X4_next_2 (j := 32) rfl rfl) (fl_X4_next_2 (j := 33) rfl rfl) (fl_X4_next_2 (j := 34) rfl rfl) rfl
theorem dX4_next_163 : decode cX4_next 163 = .ok (.goto 7, 3) := fq3_167 (fl_X4_next_2 (j := 35) rfl rfl) (fl_X4_next_2 (j := 36) rfl rfl) (fl_X4_next_2 (j := 37) rfl rfl) (s2p rfl (bl rfl))
theorem dX4_next_166 : decode cX4_next 166 = .ok (.aload_n 0, 1) := fq1_42 (fl_X4_next_2 (j := 38) rfl rfl)
theorem dX4_next_167 : decode cX4_next 167 = .ok (.invokevirtual 77, 3) := fq3_182 (fl_X4_next_2 (j := 39) rfl rfl) (fl_X4_next_2 (j := 40) rfl rfl) (fl_X4_next_2 (j := 41) rfl rfl) rfl
theorem dX4_next_170 : decode cX4_next 170 = .ok (.return_, 1) := fq1_177 (fl_X4_next_2 (j := 42) rfl rfl)
def fb_X4_readNumber_0 : List UInt8 := [0x03, 0x3c, 0x2a, 0xb4, 0x00, 0x2f, 0x2a, 0xb4, 0x00, 0x2d, 0xa2, 0x00, 0x4f, 0x2a, 0xb4, 0x00, 0x09, 0x2a, 0xb4, 0x00, 0x2f, 0x33, 0x10, 0x30, 0xa1, 0x00, 0x41, 0x2a, 0xb4, 0x00, 0x09, 0x2a, 0xb4, 0x00, 0x2f, 0x33, 0x10, 0x39, 0xa3, 0x00, 0x33, 0x2a, 0xb4, 0x00, 0x2f, 0x2a, 0xb4, 0x00, 0x35, 0x64, 0x07, 0xa2, 0x00, 0x17, 0x1b, 0x10, 0x0a, 0x68, 0x2a, 0xb4, 0x00, 0x09, 0x2a, 0xb4]
theorem fl_X4_readNumber_0 {p j : Nat} {b : UInt8} (e : p = 0 + j) (h : fb_X4_readNumber_0[j]? = some b) : cX4_readNumber.data.toList[p]? = some b := fq_l (n := 64) (show (cX4_readNumber.data.toList.drop 0).take 64 = fb_X4_readNumber_0 by decide +kernel) e h
theorem dX4_readNumber_0 : decode cX4_readNumber 0 = .ok (.iconst 0, 1) := fq1_3 (fl_X4_readNumber_0 (j := 0) rfl rfl)
theorem dX4_readNumber_1 : decode cX4_readNumber 1 = .ok (.istore_n 1, 1) := fq1_60 (fl_X4_readNumber_0 (j := 1) rfl rfl)
theorem dX4_readNumber_2 : decode cX4_readNumber 2 = .ok (.aload_n 0, 1) := fq1_42 (fl_X4_readNumber_0 (j := 2) rfl rfl)
theorem dX4_readNumber_3 : decode cX4_readNumber 3 = .ok (.getfield 47, 3) := fq3_180 (fl_X4_readNumber_0 (j := 3) rfl rfl) (fl_X4_readNumber_0 (j := 4) rfl rfl) (fl_X4_readNumber_0 (j := 5) rfl rfl) rfl
theorem dX4_readNumber_6 : decode cX4_readNumber 6 = .ok (.aload_n 0, 1) := fq1_42 (fl_X4_readNumber_0 (j := 6) rfl rfl)
theorem dX4_readNumber_7 : decode cX4_readNumber 7 = .ok (.getfield 45, 3) := fq3_180 (fl_X4_readNumber_0 (j := 7) rfl rfl) (fl_X4_readNumber_0 (j := 8) rfl rfl) (fl_X4_readNumber_0 (j := 9) rfl rfl) rfl
theorem dX4_readNumber_10 : decode cX4_readNumber 10 = .ok (.if_icmp .ge 79, 3) := fq3_162 (fl_X4_readNumber_0 (j := 10) rfl rfl) (fl_X4_readNumber_0 (j := 11) rfl rfl) (fl_X4_readNumber_0 (j := 12) rfl rfl) (s2p rfl (bl rfl))
theorem dX4_readNumber_13 : decode cX4_readNumber 13 = .ok (.aload_n 0, 1) := fq1_42 (fl_X4_readNumber_0 (j := 13) rfl rfl)
theorem dX4_readNumber_14 : decode cX4_readNumber 14 = .ok (.getfield 9, 3) := fq3_180 (fl_X4_readNumber_0 (j := 14) rfl rfl) (fl_X4_readNumber_0 (j := 15) rfl rfl) (fl_X4_readNumber_0 (j := 16) rfl rfl) rfl
theorem dX4_readNumber_17 : decode cX4_readNumber 17 = .ok (.aload_n 0, 1) := fq1_42 (fl_X4_readNumber_0 (j := 17) rfl rfl)
theorem dX4_readNumber_18 : decode cX4_readNumber 18 = .ok (.getfield 47, 3) := fq3_180 (fl_X4_readNumber_0 (j := 18) rfl rfl) (fl_X4_readNumber_0 (j := 19) rfl rfl) (fl_X4_readNumber_0 (j := 20) rfl rfl) rfl
theorem dX4_readNumber_21 : decode cX4_readNumber 21 = .ok (.baload, 1) := fq1_51 (fl_X4_readNumber_0 (j := 21) rfl rfl)
theorem dX4_readNumber_22 : decode cX4_readNumber 22 = .ok (.bipush 48, 2) := fq2_16 (fl_X4_readNumber_0 (j := 22) rfl rfl) (fl_X4_readNumber_0 (j := 23) rfl rfl) (s1p rfl (bl rfl))
theorem dX4_readNumber_24 : decode cX4_readNumber 24 = .ok (.if_icmp .lt 65, 3) := fq3_161 (fl_X4_readNumber_0 (j := 24) rfl rfl) (fl_X4_readNumber_0 (j := 25) rfl rfl) (fl_X4_readNumber_0 (j := 26) rfl rfl) (s2p rfl (bl rfl))
theorem dX4_readNumber_27 : decode cX4_readNumber 27 = .ok (.aload_n 0, 1) := fq1_42 (fl_X4_readNumber_0 (j := 27) rfl rfl)
theorem dX4_readNumber_28 : decode cX4_readNumber 28 = .ok (.getfield 9, 3) := fq3_180 (fl_X4_readNumber_0 (j := 28) rfl rfl) (fl_X4_readNumber_0 (j := 29) rfl rfl) (fl_X4_readNumber_0 (j := 30) rfl rfl) rfl
theorem dX4_readNumber_31 : decode cX4_readNumber 31 = .ok (.aload_n 0, 1) := fq1_42 (fl_X4_readNumber_0 (j := 31) rfl rfl)
theorem dX4_readNumber_32 : decode cX4_readNumber 32 = .ok (.getfield 47, 3) := fq3_180 (fl_X4_readNumber_0 (j := 32) rfl rfl) (fl_X4_readNumber_0 (j := 33) rfl rfl) (fl_X4_readNumber_0 (j := 34) rfl rfl) rfl
theorem dX4_readNumber_35 : decode cX4_readNumber 35 = .ok (.baload, 1) := fq1_51 (fl_X4_readNumber_0 (j := 35) rfl rfl)
theorem dX4_readNumber_36 : decode cX4_readNumber 36 = .ok (.bipush 57, 2) := fq2_16 (fl_X4_readNumber_0 (j := 36) rfl rfl) (fl_X4_readNumber_0 (j := 37) rfl rfl) (s1p rfl (bl rfl))
theorem dX4_readNumber_38 : decode cX4_readNumber 38 = .ok (.if_icmp .gt 51, 3) := fq3_163 (fl_X4_readNumber_0 (j := 38) rfl rfl) (fl_X4_readNumber_0 (j := 39) rfl rfl) (fl_X4_readNumber_0 (j := 40) rfl rfl) (s2p rfl (bl rfl))
theorem dX4_readNumber_41 : decode cX4_readNumber 41 = .ok (.aload_n 0, 1) := fq1_42 (fl_X4_readNumber_0 (j := 41) rfl rfl)
theorem dX4_readNumber_42 : decode cX4_readNumber 42 = .ok (.getfield 47, 3) := fq3_180 (fl_X4_readNumber_0 (j := 42) rfl rfl) (fl_X4_readNumber_0 (j := 43) rfl rfl) (fl_X4_readNumber_0 (j := 44) rfl rfl) rfl
theorem dX4_readNumber_45 : decode cX4_readNumber 45 = .ok (.aload_n 0, 1) := fq1_42 (fl_X4_readNumber_0 (j := 45) rfl rfl)
theorem dX4_readNumber_46 : decode cX4_readNumber 46 = .ok (.getfield 53, 3) := fq3_180 (fl_X4_readNumber_0 (j := 46) rfl rfl) (fl_X4_readNumber_0 (j := 47) rfl rfl) (fl_X4_readNumber_0 (j := 48) rfl rfl) rfl
theorem dX4_readNumber_49 : decode cX4_readNumber 49 = .ok (.isub, 1) := fq1_100 (fl_X4_readNumber_0 (j := 49) rfl rfl)
theorem dX4_readNumber_50 : decode cX4_readNumber 50 = .ok (.iconst 4, 1) := fq1_7 (fl_X4_readNumber_0 (j := 50) rfl rfl)
theorem dX4_readNumber_51 : decode cX4_readNumber 51 = .ok (.if_icmp .ge 23, 3) := fq3_162 (fl_X4_readNumber_0 (j := 51) rfl rfl) (fl_X4_readNumber_0 (j := 52) rfl rfl) (fl_X4_readNumber_0 (j := 53) rfl rfl) (s2p rfl (bl rfl))
theorem dX4_readNumber_54 : decode cX4_readNumber 54 = .ok (.iload_n 1, 1) := fq1_27 (fl_X4_readNumber_0 (j := 54) rfl rfl)
theorem dX4_readNumber_55 : decode cX4_readNumber 55 = .ok (.bipush 10, 2) := fq2_16 (fl_X4_readNumber_0 (j := 55) rfl rfl) (fl_X4_readNumber_0 (j := 56) rfl rfl) (s1p rfl (bl rfl))
theorem dX4_readNumber_57 : decode cX4_readNumber 57 = .ok (.imul, 1) := fq1_104 (fl_X4_readNumber_0 (j := 57) rfl rfl)
theorem dX4_readNumber_58 : decode cX4_readNumber 58 = .ok (.aload_n 0, 1) := fq1_42 (fl_X4_readNumber_0 (j := 58) rfl rfl)
theorem dX4_readNumber_59 : decode cX4_readNumber 59 = .ok (.getfield 9, 3) := fq3_180 (fl_X4_readNumber_0 (j := 59) rfl rfl) (fl_X4_readNumber_0 (j := 60) rfl rfl) (fl_X4_readNumber_0 (j := 61) rfl rfl) rfl
theorem dX4_readNumber_62 : decode cX4_readNumber 62 = .ok (.aload_n 0, 1) := fq1_42 (fl_X4_readNumber_0 (j := 62) rfl rfl)
def fb_X4_readNumber_1 : List UInt8 := [0x00, 0x2f, 0x33, 0x60, 0x10, 0x30, 0x64, 0xa7, 0x00, 0x04, 0x1b, 0x3c, 0x2a, 0x59, 0xb4, 0x00, 0x2f, 0x04, 0x60, 0xb5, 0x00, 0x2f, 0xa7, 0xff, 0xac, 0x2a, 0x2a, 0xb4, 0x00, 0x2f, 0x2a, 0xb4, 0x00, 0x35, 0x64, 0x07, 0xa4, 0x00, 0x07, 0x07, 0xa7, 0x00, 0x04, 0x05, 0xb5, 0x00, 0x44, 0x2a, 0x1b, 0xb5, 0x00, 0x41, 0xb1]
theorem fl_X4_readNumber_1 {p j : Nat} {b : UInt8} (e : p = 64 + j) (h : fb_X4_readNumber_1[j]? = some b) : cX4_readNumber.data.toList[p]? = some b := fq_l (n := 64) (show (cX4_readNumber.data.toList.drop 64).take 64 = fb_X4_readNumber_1 by decide +kernel) e h
theorem dX4_readNumber_63 : decode cX4_readNumber 63 = .ok (.getfield 47, 3) := fq3_180 (fl_X4_readNumber_0 (j := 63) rfl rfl) (fl_X4_readNumber_1 (j := 0) rfl rfl) (fl_X4_readNumber_1 (j := 1) rfl rfl) rfl
theorem dX4_readNumber_66 : decode cX4_readNumber 66 = .ok (.baload, 1) := fq1_51 (fl_X4_readNumber_1 (j := 2) rfl rfl)
theorem dX4_readNumber_67 : decode cX4_readNumber 67 = .ok (.iadd, 1) := fq1_96 (fl_X4_readNumber_1 (j := 3) rfl rfl)
theorem dX4_readNumber_68 : decode cX4_readNumber 68 = .ok (.bipush 48, 2) := fq2_16 (fl_X4_readNumber_1 (j := 4) rfl rfl) (fl_X4_readNumber_1 (j := 5) rfl rfl) (s1p rfl (bl rfl))
theorem dX4_readNumber_70 : decode cX4_readNumber 70 = .ok (.isub, 1) := fq1_100 (fl_X4_readNumber_1 (j := 6) rfl rfl)
theorem dX4_readNumber_71 : decode cX4_readNumber 71 = .ok (.goto 4, 3) := fq3_167 (fl_X4_readNumber_1 (j := 7) rfl rfl) (fl_X4_readNumber_1 (j := 8) rfl rfl) (fl_X4_readNumber_1 (j := 9) rfl rfl) (s2p rfl (bl rfl))
theorem dX4_readNumber_74 : decode cX4_readNumber 74 = .ok (.iload_n 1, 1) := fq1_27 (fl_X4_readNumber_1 (j := 10) rfl rfl)
theorem dX4_readNumber_75 : decode cX4_readNumber 75 = .ok (.istore_n 1, 1) := fq1_60 (fl_X4_readNumber_1 (j := 11) rfl rfl)
theorem dX4_readNumber_76 : decode cX4_readNumber 76 = .ok (.aload_n 0, 1) := fq1_42 (fl_X4_readNumber_1 (j := 12) rfl rfl)
theorem dX4_readNumber_77 : decode cX4_readNumber 77 = .ok (.dup, 1) := fq1_89 (fl_X4_readNumber_1 (j := 13) rfl rfl)
theorem dX4_readNumber_78 : decode cX4_readNumber 78 = .ok (.getfield 47, 3) := fq3_180 (fl_X4_readNumber_1 (j := 14) rfl rfl) (fl_X4_readNumber_1 (j := 15) rfl rfl) (fl_X4_readNumber_1 (j := 16) rfl rfl) rfl
theorem dX4_readNumber_81 : decode cX4_readNumber 81 = .ok (.iconst 1, 1) := fq1_4 (fl_X4_readNumber_1 (j := 17) rfl rfl)
theorem dX4_readNumber_82 : decode cX4_readNumber 82 = .ok (.iadd, 1) := fq1_96 (fl_X4_readNumber_1 (j := 18) rfl rfl)
theorem dX4_readNumber_83 : decode cX4_readNumber 83 = .ok (.putfield 47, 3) := fq3_181 (fl_X4_readNumber_1 (j := 19) rfl rfl) (fl_X4_readNumber_1 (j := 20) rfl rfl) (fl_X4_readNumber_1 (j := 21) rfl rfl) rfl
theorem dX4_readNumber_86 : decode cX4_readNumber 86 = .ok (.goto (-84), 3) := fq3_167 (fl_X4_readNumber_1 (j := 22) rfl rfl) (fl_X4_readNumber_1 (j := 23) rfl rfl) (fl_X4_readNumber_1 (j := 24) rfl rfl) (by decide)
theorem dX4_readNumber_89 : decode cX4_readNumber 89 = .ok (.aload_n 0, 1) := fq1_42 (fl_X4_readNumber_1 (j := 25) rfl rfl)
theorem dX4_readNumber_90 : decode cX4_readNumber 90 = .ok (.aload_n 0, 1) := fq1_42 (fl_X4_readNumber_1 (j := 26) rfl rfl)
theorem dX4_readNumber_91 : decode cX4_readNumber 91 = .ok (.getfield 47, 3) := fq3_180 (fl_X4_readNumber_1 (j := 27) rfl rfl) (fl_X4_readNumber_1 (j := 28) rfl rfl) (fl_X4_readNumber_1 (j := 29) rfl rfl) rfl
theorem dX4_readNumber_94 : decode cX4_readNumber 94 = .ok (.aload_n 0, 1) := fq1_42 (fl_X4_readNumber_1 (j := 30) rfl rfl)
theorem dX4_readNumber_95 : decode cX4_readNumber 95 = .ok (.getfield 53, 3) := fq3_180 (fl_X4_readNumber_1 (j := 31) rfl rfl) (fl_X4_readNumber_1 (j := 32) rfl rfl) (fl_X4_readNumber_1 (j := 33) rfl rfl) rfl
theorem dX4_readNumber_98 : decode cX4_readNumber 98 = .ok (.isub, 1) := fq1_100 (fl_X4_readNumber_1 (j := 34) rfl rfl)
theorem dX4_readNumber_99 : decode cX4_readNumber 99 = .ok (.iconst 4, 1) := fq1_7 (fl_X4_readNumber_1 (j := 35) rfl rfl)
theorem dX4_readNumber_100 : decode cX4_readNumber 100 = .ok (.if_icmp .le 7, 3) := fq3_164 (fl_X4_readNumber_1 (j := 36) rfl rfl) (fl_X4_readNumber_1 (j := 37) rfl rfl) (fl_X4_readNumber_1 (j := 38) rfl rfl) (s2p rfl (bl rfl))
theorem dX4_readNumber_103 : decode cX4_readNumber 103 = .ok (.iconst 4, 1) := fq1_7 (fl_X4_readNumber_1 (j := 39) rfl rfl)
theorem dX4_readNumber_104 : decode cX4_readNumber 104 = .ok (.goto 4, 3) := fq3_167 (fl_X4_readNumber_1 (j := 40) rfl rfl) (fl_X4_readNumber_1 (j := 41) rfl rfl) (fl_X4_readNumber_1 (j := 42) rfl rfl) (s2p rfl (bl rfl))
theorem dX4_readNumber_107 : decode cX4_readNumber 107 = .ok (.iconst 2, 1) := fq1_5 (fl_X4_readNumber_1 (j := 43) rfl rfl)
theorem dX4_readNumber_108 : decode cX4_readNumber 108 = .ok (.putfield 68, 3) := fq3_181 (fl_X4_readNumber_1 (j := 44) rfl rfl) (fl_X4_readNumber_1 (j := 45) rfl rfl) (fl_X4_readNumber_1 (j := 46) rfl rfl) rfl
theorem dX4_readNumber_111 : decode cX4_readNumber 111 = .ok (.aload_n 0, 1) := fq1_42 (fl_X4_readNumber_1 (j := 47) rfl rfl)
theorem dX4_readNumber_112 : decode cX4_readNumber 112 = .ok (.iload_n 1, 1) := fq1_27 (fl_X4_readNumber_1 (j := 48) rfl rfl)
theorem dX4_readNumber_113 : decode cX4_readNumber 113 = .ok (.putfield 65, 3) := fq3_181 (fl_X4_readNumber_1 (j := 49) rfl rfl) (fl_X4_readNumber_1 (j := 50) rfl rfl) (fl_X4_readNumber_1 (j := 51) rfl rfl) rfl
theorem dX4_readNumber_116 : decode cX4_readNumber 116 = .ok (.return_, 1) := fq1_177 (fl_X4_readNumber_1 (j := 52) rfl rfl)
def fb_X4_readSign_0 : List UInt8 := [0x2a, 0xb4, 0x00, 0x09, 0x2a, 0xb4, 0x00, 0x2f, 0x33, 0x3c, 0x2a, 0x1b, 0x10, 0x3b, 0x9f, 0x00, 0x15, 0x1b, 0x10, 0x3c, 0x9f, 0x00, 0x0f, 0x1b, 0x10, 0x3e, 0x9f, 0x00, 0x09, 0x1b, 0x10, 0x3d, 0xa0, 0x00, 0x07, 0x06, 0xa7, 0x00, 0x04, 0x07, 0xb5, 0x00, 0x44, 0x2a, 0x1b, 0xb5, 0x00, 0x41, 0x2a, 0x59, 0xb4, 0x00, 0x2f, 0x04, 0x60, 0xb5, 0x00, 0x2f, 0xb1]
theorem fl_X4_readSign_0 {p j : Nat} {b : UInt8} (e : p = 0 + j) (h : fb_X4_readSign_0[j]? = some b) : cX4_readSign.data.toList[p]? = some b := fq_l (n := 64) (show (cX4_readSign.data.toList.drop 0).take 64 = fb_X4_readSign_0 by decide +kernel) e h
theorem dX4_readSign_0 : decode cX4_readSign 0 = .ok (.aload_n 0, 1) := fq1_42 (fl_X4_readSign_0 (j := 0) rfl rfl)
theorem dX4_readSign_1 : decode cX4_readSign 1 = .ok (.getfield 9, 3) := fq3_180 (fl_X4_readSign_0 (j := 1) rfl rfl) (fl_X4_readSign_0 (j := 2) rfl rfl) (fl_X4_readSign_0 (j := 3) rfl rfl) rfl
theorem dX4_readSign_4 : decode cX4_readSign 4 = .ok (.aload_n 0, 1) := fq1_42 (fl_X4_readSign_0 (j := 4) rfl rfl)
theorem dX4_readSign_5 : decode cX4_readSign 5 = .ok (.getfield 47, 3) := fq3_180 (fl_X4_readSign_0 (j := 5) rfl rfl) (fl_X4_readSign_0 (j := 6) rfl rfl) (fl_X4_readSign_0 (j := 7) rfl rfl) rfl
theorem dX4_readSign_8 : decode cX4_readSign 8 = .ok (.baload, 1) := fq1_51 (fl_X4_readSign_0 (j := 8) rfl rfl)
theorem dX4_readSign_9 : decode cX4_readSign 9 = .ok (.istore_n 1, 1) := fq1_60 (fl_X4_readSign_0 (j := 9) rfl rfl)
theorem dX4_readSign_10 : decode cX4_readSign 10 = .ok (.aload_n 0, 1) := fq1_42 (fl_X4_readSign_0 (j := 10) rfl rfl)
theorem dX4_readSign_11 : decode cX4_readSign 11 = .ok (.iload_n 1, 1) := fq1_27 (fl_X4_readSign_0 (j := 11) rfl rfl)
theorem dX4_readSign_12 : decode cX4_readSign 12 = .ok (.bipush 59, 2) := fq2_16 (fl_X4_readSign_0 (j := 12) rfl rfl) (fl_X4_readSign_0 (j := 13) rfl rfl) (s1p rfl (bl rfl))
theorem dX4_readSign_14 : decode cX4_readSign 14 = .ok (.if_icmp .eq 21, 3) := fq3_159 (fl_X4_readSign_0 (j := 14) rfl rfl) (fl_X4_readSign_0 (j := 15) rfl rfl) (fl_X4_readSign_0 (j := 16) rfl rfl) (s2p rfl (bl rfl))
theorem dX4_readSign_17 : decode cX4_readSign 17 = .ok (.iload_n 1, 1) := fq1_27 (fl_X4_readSign_0 (j := 17) rfl rfl)
theorem dX4_readSign_18 : decode cX4_readSign 18 = .ok (.bipush 60, 2) := fq2_16 (fl_X4_readSign_0 (j := 18) rfl rfl) (fl_X4_readSign_0 (j := 19) rfl rfl) (s1p rfl (bl rfl))
theorem dX4_readSign_20 : decode cX4_readSign 20 = .ok (.if_icmp .eq 15, 3) := fq3_159 (fl_X4_readSign_0 (j := 20) rfl rfl) (fl_X4_readSign_0 (j := 21) rfl rfl) (fl_X4_readSign_0 (j := 22) rfl rfl) (s2p rfl (bl rfl))
theorem dX4_readSign_23 : decode cX4_readSign 23 = .ok (.iload_n 1, 1) := fq1_27 (fl_X4_readSign_0 (j := 23) rfl rfl)
theorem dX4_readSign_24 : decode cX4_readSign 24 = .ok (.bipush 62, 2) := fq2_16 (fl_X4_readSign_0 (j := 24) rfl rfl) (fl_X4_readSign_0 (j := 25) rfl rfl) (s1p rfl (bl rfl))
theorem dX4_readSign_26 : decode cX4_readSign 26 = .ok (.if_icmp .eq 9, 3) := fq3_159 (fl_X4_readSign_0 (j := 26) rfl rfl) (fl_X4_readSign_0 (j := 27) rfl rfl) (fl_X4_readSign_0 (j := 28) rfl rfl) (s2p rfl (bl rfl))
theorem dX4_readSign_29 : decode cX4_readSign 29 = .ok (.iload_n 1, 1) := fq1_27 (fl_X4_readSign_0 (j := 29) rfl rfl)
theorem dX4_readSign_30 : decode cX4_readSign 30 = .ok (.bipush 61, 2) := fq2_16 (fl_X4_readSign_0 (j := 30) rfl rfl) (fl_X4_readSign_0 (j := 31) rfl rfl) (s1p rfl (bl rfl))
theorem dX4_readSign_32 : decode cX4_readSign 32 = .ok (.if_icmp .ne 7, 3) := fq3_160 (fl_X4_readSign_0 (j := 32) rfl rfl) (fl_X4_readSign_0 (j := 33) rfl rfl) (fl_X4_readSign_0 (j := 34) rfl rfl) (s2p rfl (bl rfl))
theorem dX4_readSign_35 : decode cX4_readSign 35 = .ok (.iconst 3, 1) := fq1_6 (fl_X4_readSign_0 (j := 35) rfl rfl)
theorem dX4_readSign_36 : decode cX4_readSign 36 = .ok (.goto 4, 3) := fq3_167 (fl_X4_readSign_0 (j := 36) rfl rfl) (fl_X4_readSign_0 (j := 37) rfl rfl) (fl_X4_readSign_0 (j := 38) rfl rfl) (s2p rfl (bl rfl))
theorem dX4_readSign_39 : decode cX4_readSign 39 = .ok (.iconst 4, 1) := fq1_7 (fl_X4_readSign_0 (j := 39) rfl rfl)
theorem dX4_readSign_40 : decode cX4_readSign 40 = .ok (.putfield 68, 3) := fq3_181 (fl_X4_readSign_0 (j := 40) rfl rfl) (fl_X4_readSign_0 (j := 41) rfl rfl) (fl_X4_readSign_0 (j := 42) rfl rfl) rfl
theorem dX4_readSign_43 : decode cX4_readSign 43 = .ok (.aload_n 0, 1) := fq1_42 (fl_X4_readSign_0 (j := 43) rfl rfl)
theorem dX4_readSign_44 : decode cX4_readSign 44 = .ok (.iload_n 1, 1) := fq1_27 (fl_X4_readSign_0 (j := 44) rfl rfl)
theorem dX4_readSign_45 : decode cX4_readSign 45 = .ok (.putfield 65, 3) := fq3_181 (fl_X4_readSign_0 (j := 45) rfl rfl) (fl_X4_readSign_0 (j := 46) rfl rfl) (fl_X4_readSign_0 (j := 47) rfl rfl) rfl
theorem dX4_readSign_48 : decode cX4_readSign 48 = .ok (.aload_n 0, 1) := fq1_42 (fl_X4_readSign_0 (j := 48) rfl rfl)
theorem dX4_readSign_49 : decode cX4_readSign 49 = .ok (.dup, 1) := fq1_89 (fl_X4_readSign_0 (j := 49) rfl rfl)
theorem dX4_readSign_50 : decode cX4_readSign 50 = .ok (.getfield 47, 3) := fq3_180 (fl_X4_readSign_0 (j := 50) rfl rfl) (fl_X4_readSign_0 (j := 51) rfl rfl) (fl_X4_readSign_0 (j := 52) rfl rfl) rfl
theorem dX4_readSign_53 : decode cX4_readSign 53 = .ok (.iconst 1, 1) := fq1_4 (fl_X4_readSign_0 (j := 53) rfl rfl)
theorem dX4_readSign_54 : decode cX4_readSign 54 = .ok (.iadd, 1) := fq1_96 (fl_X4_readSign_0 (j := 54) rfl rfl)
theorem dX4_readSign_55 : decode cX4_readSign 55 = .ok (.putfield 47, 3) := fq3_181 (fl_X4_readSign_0 (j := 55) rfl rfl) (fl_X4_readSign_0 (j := 56) rfl rfl) (fl_X4_readSign_0 (j := 57) rfl rfl) rfl
theorem dX4_readSign_58 : decode cX4_readSign 58 = .ok (.return_, 1) := fq1_177 (fl_X4_readSign_0 (j := 58) rfl rfl)
def fb_X4_readWord_0 : List UInt8 := [0x2a, 0x04, 0xb5, 0x00, 0x44, 0x09, 0x40, 0x2a, 0xb4, 0x00, 0x2f, 0x2a, 0xb4, 0x00, 0x2d, 0xa2, 0x00, 0x57, 0x2a, 0xb4, 0x00, 0x09, 0x2a, 0xb4, 0x00, 0x2f, 0x33, 0x10, 0x61, 0xa1, 0x00, 0x49, 0x2a, 0xb4, 0x00, 0x09, 0x2a, 0xb4, 0x00, 0x2f, 0x33, 0x10, 0x7a, 0xa3, 0x00, 0x3b, 0x2a, 0xb4, 0x00, 0x2f, 0x2a, 0xb4, 0x00, 0x35, 0x64, 0x10, 0x08, 0xa2, 0x00, 0x1c, 0x1f, 0x14, 0x00, 0x26]
theorem fl_X4_readWord_0 {p j : Nat} {b : UInt8} (e : p = 0 + j) (h : fb_X4_readWord_0[j]? = some b) : cX4_readWord.data.toList[p]? = some b := fq_l (n := 64) (show (cX4_readWord.data.toList.drop 0).take 64 = fb_X4_readWord_0 by decide +kernel) e h
theorem dX4_readWord_0 : decode cX4_readWord 0 = .ok (.aload_n 0, 1) := fq1_42 (fl_X4_readWord_0 (j := 0) rfl rfl)
theorem dX4_readWord_1 : decode cX4_readWord 1 = .ok (.iconst 1, 1) := fq1_4 (fl_X4_readWord_0 (j := 1) rfl rfl)
theorem dX4_readWord_2 : decode cX4_readWord 2 = .ok (.putfield 68, 3) := fq3_181 (fl_X4_readWord_0 (j := 2) rfl rfl) (fl_X4_readWord_0 (j := 3) rfl rfl) (fl_X4_readWord_0 (j := 4) rfl rfl) rfl
theorem dX4_readWord_5 : decode cX4_readWord 5 = .ok (.lconst 0, 1) := fq1_9 (fl_X4_readWord_0 (j := 5) rfl rfl)
theorem dX4_readWord_6 : decode cX4_readWord 6 = .ok (.lstore_n 1, 1) := fq1_64 (fl_X4_readWord_0 (j := 6) rfl rfl)
theorem dX4_readWord_7 : decode cX4_readWord 7 = .ok (.aload_n 0, 1) := fq1_42 (fl_X4_readWord_0 (j := 7) rfl rfl)
theorem dX4_readWord_8 : decode cX4_readWord 8 = .ok (.getfield 47, 3) := fq3_180 (fl_X4_readWord_0 (j := 8) rfl rfl) (fl_X4_readWord_0 (j := 9) rfl rfl) (fl_X4_readWord_0 (j := 10) rfl rfl) rfl
theorem dX4_readWord_11 : decode cX4_readWord 11 = .ok (.aload_n 0, 1) := fq1_42 (fl_X4_readWord_0 (j := 11) rfl rfl)
theorem dX4_readWord_12 : decode cX4_readWord 12 = .ok (.getfield 45, 3) := fq3_180 (fl_X4_readWord_0 (j := 12) rfl rfl) (fl_X4_readWord_0 (j := 13) rfl rfl) (fl_X4_readWord_0 (j := 14) rfl rfl) rfl
theorem dX4_readWord_15 : decode cX4_readWord 15 = .ok (.if_icmp .ge 87, 3) := fq3_162 (fl_X4_readWord_0 (j := 15) rfl rfl) (fl_X4_readWord_0 (j := 16) rfl rfl) (fl_X4_readWord_0 (j := 17) rfl rfl) (s2p rfl (bl rfl))
theorem dX4_readWord_18 : decode cX4_readWord 18 = .ok (.aload_n 0, 1) := fq1_42 (fl_X4_readWord_0 (j := 18) rfl rfl)
theorem dX4_readWord_19 : decode cX4_readWord 19 = .ok (.getfield 9, 3) := fq3_180 (fl_X4_readWord_0 (j := 19) rfl rfl) (fl_X4_readWord_0 (j := 20) rfl rfl) (fl_X4_readWord_0 (j := 21) rfl rfl) rfl
theorem dX4_readWord_22 : decode cX4_readWord 22 = .ok (.aload_n 0, 1) := fq1_42 (fl_X4_readWord_0 (j := 22) rfl rfl)
theorem dX4_readWord_23 : decode cX4_readWord 23 = .ok (.getfield 47, 3) := fq3_180 (fl_X4_readWord_0 (j := 23) rfl rfl) (fl_X4_readWord_0 (j := 24) rfl rfl) (fl_X4_readWord_0 (j := 25) rfl rfl) rfl
theorem dX4_readWord_26 : decode cX4_readWord 26 = .ok (.baload, 1) := fq1_51 (fl_X4_readWord_0 (j := 26) rfl rfl)
theorem dX4_readWord_27 : decode cX4_readWord 27 = .ok (.bipush 97, 2) := fq2_16 (fl_X4_readWord_0 (j := 27) rfl rfl) (fl_X4_readWord_0 (j := 28) rfl rfl) (s1p rfl (bl rfl))
theorem dX4_readWord_29 : decode cX4_readWord 29 = .ok (.if_icmp .lt 73, 3) := fq3_161 (fl_X4_readWord_0 (j := 29) rfl rfl) (fl_X4_readWord_0 (j := 30) rfl rfl) (fl_X4_readWord_0 (j := 31) rfl rfl) (s2p rfl (bl rfl))
theorem dX4_readWord_32 : decode cX4_readWord 32 = .ok (.aload_n 0, 1) := fq1_42 (fl_X4_readWord_0 (j := 32) rfl rfl)
theorem dX4_readWord_33 : decode cX4_readWord 33 = .ok (.getfield 9, 3) := fq3_180 (fl_X4_readWord_0 (j := 33) rfl rfl) (fl_X4_readWord_0 (j := 34) rfl rfl) (fl_X4_readWord_0 (j := 35) rfl rfl) rfl
theorem dX4_readWord_36 : decode cX4_readWord 36 = .ok (.aload_n 0, 1) := fq1_42 (fl_X4_readWord_0 (j := 36) rfl rfl)
theorem dX4_readWord_37 : decode cX4_readWord 37 = .ok (.getfield 47, 3) := fq3_180 (fl_X4_readWord_0 (j := 37) rfl rfl) (fl_X4_readWord_0 (j := 38) rfl rfl) (fl_X4_readWord_0 (j := 39) rfl rfl) rfl
theorem dX4_readWord_40 : decode cX4_readWord 40 = .ok (.baload, 1) := fq1_51 (fl_X4_readWord_0 (j := 40) rfl rfl)
theorem dX4_readWord_41 : decode cX4_readWord 41 = .ok (.bipush 122, 2) := fq2_16 (fl_X4_readWord_0 (j := 41) rfl rfl) (fl_X4_readWord_0 (j := 42) rfl rfl) (s1p rfl (bl rfl))
theorem dX4_readWord_43 : decode cX4_readWord 43 = .ok (.if_icmp .gt 59, 3) := fq3_163 (fl_X4_readWord_0 (j := 43) rfl rfl) (fl_X4_readWord_0 (j := 44) rfl rfl) (fl_X4_readWord_0 (j := 45) rfl rfl) (s2p rfl (bl rfl))
theorem dX4_readWord_46 : decode cX4_readWord 46 = .ok (.aload_n 0, 1) := fq1_42 (fl_X4_readWord_0 (j := 46) rfl rfl)
theorem dX4_readWord_47 : decode cX4_readWord 47 = .ok (.getfield 47, 3) := fq3_180 (fl_X4_readWord_0 (j := 47) rfl rfl) (fl_X4_readWord_0 (j := 48) rfl rfl) (fl_X4_readWord_0 (j := 49) rfl rfl) rfl
theorem dX4_readWord_50 : decode cX4_readWord 50 = .ok (.aload_n 0, 1) := fq1_42 (fl_X4_readWord_0 (j := 50) rfl rfl)
theorem dX4_readWord_51 : decode cX4_readWord 51 = .ok (.getfield 53, 3) := fq3_180 (fl_X4_readWord_0 (j := 51) rfl rfl) (fl_X4_readWord_0 (j := 52) rfl rfl) (fl_X4_readWord_0 (j := 53) rfl rfl) rfl
theorem dX4_readWord_54 : decode cX4_readWord 54 = .ok (.isub, 1) := fq1_100 (fl_X4_readWord_0 (j := 54) rfl rfl)
theorem dX4_readWord_55 : decode cX4_readWord 55 = .ok (.bipush 8, 2) := fq2_16 (fl_X4_readWord_0 (j := 55) rfl rfl) (fl_X4_readWord_0 (j := 56) rfl rfl) (s1p rfl (bl rfl))
theorem dX4_readWord_57 : decode cX4_readWord 57 = .ok (.if_icmp .ge 28, 3) := fq3_162 (fl_X4_readWord_0 (j := 57) rfl rfl) (fl_X4_readWord_0 (j := 58) rfl rfl) (fl_X4_readWord_0 (j := 59) rfl rfl) (s2p rfl (bl rfl))
theorem dX4_readWord_60 : decode cX4_readWord 60 = .ok (.lload_n 1, 1) := fq1_31 (fl_X4_readWord_0 (j := 60) rfl rfl)
theorem dX4_readWord_61 : decode cX4_readWord 61 = .ok (.ldc2_w 38, 3) := fq3_20 (fl_X4_readWord_0 (j := 61) rfl rfl) (fl_X4_readWord_0 (j := 62) rfl rfl) (fl_X4_readWord_0 (j := 63) rfl rfl) rfl
def fb_X4_readWord_1 : List UInt8 := [0x69, 0x2a, 0xb4, 0x00, 0x09, 0x2a, 0xb4, 0x00, 0x2f, 0x33, 0x85, 0x61, 0x14, 0x00, 0x28, 0x65, 0x0a, 0x61, 0xa7, 0x00, 0x06, 0x14, 0x00, 0x3b, 0x40, 0x2a, 0x59, 0xb4, 0x00, 0x2f, 0x04, 0x60, 0xb5, 0x00, 0x2f, 0xa7, 0xff, 0xa4, 0x2a, 0x1f, 0xb5, 0x00, 0x3d, 0x03, 0x3e, 0x1d, 0x10, 0x19, 0xa2, 0x00, 0x19, 0x2a, 0xb4, 0x00, 0x0f, 0x1d, 0x2f, 0x1f, 0x94, 0x9a, 0x00, 0x08, 0x2a, 0x1d]
theorem fl_X4_readWord_1 {p j : Nat} {b : UInt8} (e : p = 64 + j) (h : fb_X4_readWord_1[j]? = some b) : cX4_readWord.data.toList[p]? = some b := fq_l (n := 64) (show (cX4_readWord.data.toList.drop 64).take 64 = fb_X4_readWord_1 by decide +kernel) e h
theorem dX4_readWord_64 : decode cX4_readWord 64 = .ok (.lmul, 1) := fq1_105 (fl_X4_readWord_1 (j := 0) rfl rfl)
theorem dX4_readWord_65 : decode cX4_readWord 65 = .ok (.aload_n 0, 1) := fq1_42 (fl_X4_readWord_1 (j := 1) rfl rfl)
theorem dX4_readWord_66 : decode cX4_readWord 66 = .ok (.getfield 9, 3) := fq3_180 (fl_X4_readWord_1 (j := 2) rfl rfl) (fl_X4_readWord_1 (j := 3) rfl rfl) (fl_X4_readWord_1 (j := 4) rfl rfl) rfl
theorem dX4_readWord_69 : decode cX4_readWord 69 = .ok (.aload_n 0, 1) := fq1_42 (fl_X4_readWord_1 (j := 5) rfl rfl)
theorem dX4_readWord_70 : decode cX4_readWord 70 = .ok (.getfield 47, 3) := fq3_180 (fl_X4_readWord_1 (j := 6) rfl rfl) (fl_X4_readWord_1 (j := 7) rfl rfl) (fl_X4_readWord_1 (j := 8) rfl rfl) rfl
theorem dX4_readWord_73 : decode cX4_readWord 73 = .ok (.baload, 1) := fq1_51 (fl_X4_readWord_1 (j := 9) rfl rfl)
theorem dX4_readWord_74 : decode cX4_readWord 74 = .ok (.i2l, 1) := fq1_133 (fl_X4_readWord_1 (j := 10) rfl rfl)
theorem dX4_readWord_75 : decode cX4_readWord 75 = .ok (.ladd, 1) := fq1_97 (fl_X4_readWord_1 (j := 11) rfl rfl)
theorem dX4_readWord_76 : decode cX4_readWord 76 = .ok (.ldc2_w 40, 3) := fq3_20 (fl_X4_readWord_1 (j := 12) rfl rfl) (fl_X4_readWord_1 (j := 13) rfl rfl) (fl_X4_readWord_1 (j := 14) rfl rfl) rfl
theorem dX4_readWord_79 : decode cX4_readWord 79 = .ok (.lsub, 1) := fq1_101 (fl_X4_readWord_1 (j := 15) rfl rfl)
theorem dX4_readWord_80 : decode cX4_readWord 80 = .ok (.lconst 1, 1) := fq1_10 (fl_X4_readWord_1 (j := 16) rfl rfl)
theorem dX4_readWord_81 : decode cX4_readWord 81 = .ok (.ladd, 1) := fq1_97 (fl_X4_readWord_1 (j := 17) rfl rfl)
theorem dX4_readWord_82 : decode cX4_readWord 82 = .ok (.goto 6, 3) := fq3_167 (fl_X4_readWord_1 (j := 18) rfl rfl) (fl_X4_readWord_1 (j := 19) rfl rfl) (fl_X4_readWord_1 (j := 20) rfl rfl) (s2p rfl (bl rfl))
theorem dX4_readWord_85 : decode cX4_readWord 85 = .ok (.ldc2_w 59, 3) := fq3_20 (fl_X4_readWord_1 (j := 21) rfl rfl) (fl_X4_readWord_1 (j := 22) rfl rfl) (fl_X4_readWord_1 (j := 23) rfl rfl) rfl
theorem dX4_readWord_88 : decode cX4_readWord 88 = .ok (.lstore_n 1, 1) := fq1_64 (fl_X4_readWord_1 (j := 24) rfl rfl)
theorem dX4_readWord_89 : decode cX4_readWord 89 = .ok (.aload_n 0, 1) := fq1_42 (fl_X4_readWord_1 (j := 25) rfl rfl)
theorem dX4_readWord_90 : decode cX4_readWord 90 = .ok (.dup, 1) := fq1_89 (fl_X4_readWord_1 (j := 26) rfl rfl)
theorem dX4_readWord_91 : decode cX4_readWord 91 = .ok (.getfield 47, 3) := fq3_180 (fl_X4_readWord_1 (j := 27) rfl rfl) (fl_X4_readWord_1 (j := 28) rfl rfl) (fl_X4_readWord_1 (j := 29) rfl rfl) rfl
theorem dX4_readWord_94 : decode cX4_readWord 94 = .ok (.iconst 1, 1) := fq1_4 (fl_X4_readWord_1 (j := 30) rfl rfl)
theorem dX4_readWord_95 : decode cX4_readWord 95 = .ok (.iadd, 1) := fq1_96 (fl_X4_readWord_1 (j := 31) rfl rfl)
theorem dX4_readWord_96 : decode cX4_readWord 96 = .ok (.putfield 47, 3) := fq3_181 (fl_X4_readWord_1 (j := 32) rfl rfl) (fl_X4_readWord_1 (j := 33) rfl rfl) (fl_X4_readWord_1 (j := 34) rfl rfl) rfl
theorem dX4_readWord_99 : decode cX4_readWord 99 = .ok (.goto (-92), 3) := fq3_167 (fl_X4_readWord_1 (j := 35) rfl rfl) (fl_X4_readWord_1 (j := 36) rfl rfl) (fl_X4_readWord_1 (j := 37) rfl rfl) (by decide)
theorem dX4_readWord_102 : decode cX4_readWord 102 = .ok (.aload_n 0, 1) := fq1_42 (fl_X4_readWord_1 (j := 38) rfl rfl)
theorem dX4_readWord_103 : decode cX4_readWord 103 = .ok (.lload_n 1, 1) := fq1_31 (fl_X4_readWord_1 (j := 39) rfl rfl)
theorem dX4_readWord_104 : decode cX4_readWord 104 = .ok (.putfield 61, 3) := fq3_181 (fl_X4_readWord_1 (j := 40) rfl rfl) (fl_X4_readWord_1 (j := 41) rfl rfl) (fl_X4_readWord_1 (j := 42) rfl rfl) rfl
theorem dX4_readWord_107 : decode cX4_readWord 107 = .ok (.iconst 0, 1) := fq1_3 (fl_X4_readWord_1 (j := 43) rfl rfl)
theorem dX4_readWord_108 : decode cX4_readWord 108 = .ok (.istore_n 3, 1) := fq1_62 (fl_X4_readWord_1 (j := 44) rfl rfl)
theorem dX4_readWord_109 : decode cX4_readWord 109 = .ok (.iload_n 3, 1) := fq1_29 (fl_X4_readWord_1 (j := 45) rfl rfl)
theorem dX4_readWord_110 : decode cX4_readWord 110 = .ok (.bipush 25, 2) := fq2_16 (fl_X4_readWord_1 (j := 46) rfl rfl) (fl_X4_readWord_1 (j := 47) rfl rfl) (s1p rfl (bl rfl))
theorem dX4_readWord_112 : decode cX4_readWord 112 = .ok (.if_icmp .ge 25, 3) := fq3_162 (fl_X4_readWord_1 (j := 48) rfl rfl) (fl_X4_readWord_1 (j := 49) rfl rfl) (fl_X4_readWord_1 (j := 50) rfl rfl) (s2p rfl (bl rfl))
theorem dX4_readWord_115 : decode cX4_readWord 115 = .ok (.aload_n 0, 1) := fq1_42 (fl_X4_readWord_1 (j := 51) rfl rfl)
theorem dX4_readWord_116 : decode cX4_readWord 116 = .ok (.getfield 15, 3) := fq3_180 (fl_X4_readWord_1 (j := 52) rfl rfl) (fl_X4_readWord_1 (j := 53) rfl rfl) (fl_X4_readWord_1 (j := 54) rfl rfl) rfl
theorem dX4_readWord_119 : decode cX4_readWord 119 = .ok (.iload_n 3, 1) := fq1_29 (fl_X4_readWord_1 (j := 55) rfl rfl)
theorem dX4_readWord_120 : decode cX4_readWord 120 = .ok (.laload, 1) := fq1_47 (fl_X4_readWord_1 (j := 56) rfl rfl)
theorem dX4_readWord_121 : decode cX4_readWord 121 = .ok (.lload_n 1, 1) := fq1_31 (fl_X4_readWord_1 (j := 57) rfl rfl)
theorem dX4_readWord_122 : decode cX4_readWord 122 = .ok (.lcmp, 1) := fq1_148 (fl_X4_readWord_1 (j := 58) rfl rfl)
theorem dX4_readWord_123 : decode cX4_readWord 123 = .ok (.ifCond .ne 8, 3) := fq3_154 (fl_X4_readWord_1 (j := 59) rfl rfl) (fl_X4_readWord_1 (j := 60) rfl rfl) (fl_X4_readWord_1 (j := 61) rfl rfl) (s2p rfl (bl rfl))
theorem dX4_readWord_126 : decode cX4_readWord 126 = .ok (.aload_n 0, 1) := fq1_42 (fl_X4_readWord_1 (j := 62) rfl rfl)
theorem dX4_readWord_127 : decode cX4_readWord 127 = .ok (.iload_n 3, 1) := fq1_29 (fl_X4_readWord_1 (j := 63) rfl rfl)
def fb_X4_readWord_2 : List UInt8 := [0xb5, 0x00, 0x38, 0x84, 0x03, 0x01, 0xa7, 0xff, 0xe7, 0xb1]
theorem fl_X4_readWord_2 {p j : Nat} {b : UInt8} (e : p = 128 + j) (h : fb_X4_readWord_2[j]? = some b) : cX4_readWord.data.toList[p]? = some b := fq_l (n := 64) (show (cX4_readWord.data.toList.drop 128).take 64 = fb_X4_readWord_2 by decide +kernel) e h
theorem dX4_readWord_128 : decode cX4_readWord 128 = .ok (.putfield 56, 3) := fq3_181 (fl_X4_readWord_2 (j := 0) rfl rfl) (fl_X4_readWord_2 (j := 1) rfl rfl) (fl_X4_readWord_2 (j := 2) rfl rfl) rfl
theorem dX4_readWord_131 : decode cX4_readWord 131 = .ok (.iinc 3 1, 3) := fq3_132 (fl_X4_readWord_2 (j := 3) rfl rfl) (fl_X4_readWord_2 (j := 4) rfl rfl) (fl_X4_readWord_2 (j := 5) rfl rfl) rfl (s1p rfl (bl rfl))
theorem dX4_readWord_134 : decode cX4_readWord 134 = .ok (.goto (-25), 3) := fq3_167 (fl_X4_readWord_2 (j := 6) rfl rfl) (fl_X4_readWord_2 (j := 7) rfl rfl) (fl_X4_readWord_2 (j := 8) rfl rfl) (by decide)
theorem dX4_readWord_137 : decode cX4_readWord 137 = .ok (.return_, 1) := fq1_177 (fl_X4_readWord_2 (j := 9) rfl rfl)
end

section
/-- a Reader's ranges: I: answer, taped, length, place, end, kind, value, keyword, kind and place of the fault -/
def RDI (I : Nat → Int) : Prop := (0 ≤ I 1 ∧ I 1 ≤ 900) ∧ (0 ≤ I 2 ∧ I 2 ≤ 900) ∧ (0 ≤ I 3 ∧ I 3 ≤ I 4) ∧ (I 4 ≤ I 2) ∧ (0 ≤ I 5 ∧ I 5 ≤ 4) ∧ (-2147483648 ≤ I 6 ∧ I 6 < 2147483648) ∧ (-1 ≤ I 7 ∧ I 7 ≤ 24)
set_option maxHeartbeats 4000000 in
set_option maxRecDepth 100000 in
theorem k_readSign (l : Launch) (D : va_G) (k : Nat → ClassId) (hr1 tx kw : Nat) (bf : Nat → Int32) (kwf : Nat → Int64) (tp ln pl en ki va ke fk fp : Int) (nm : Int64) (hI : RDI (fun i => [0, tp, ln, pl, en, ki, va, ke, fk, fp].getD i 0)) (he : en < ln) : WD (σ := ((Nat → Int) × Int64)) l yX4_readSign cX4_readSign 2 none 0 0 0 D k [.ref hr1] [(hr1, .inr (4, [.ref tx, .ref kw, .int (iZ tp), .int (iZ ln), .int (iZ pl), .int (iZ en), .int (iZ ki), .int (iZ va), .int (iZ ke), .long nm, .int (iZ fk), .int (iZ fp)])), (tx, .inl (k 0, 900, .inl bf)), (kw, .inl (k 2, 25, .inr (.inl kwf)))] (fun _ => none) (fun u => (u.1 1 = tp) ∧ RDI u.1) (fun u => [(hr1, .inr (4, [.ref tx, .ref kw, .int (iZ (u.1 1)), .int (iZ (u.1 2)), .int (iZ (u.1 3)), .int (iZ (u.1 4)), .int (iZ (u.1 5)), .int (iZ (u.1 6)), .int (iZ (u.1 7)), .long u.2, .int (iZ (u.1 8)), .int (iZ (u.1 9))])), (tx, .inl (k 0, 900, .inl bf)), (kw, .inl (k 2, 25, .inr (.inl kwf)))]) := by
  refine MW (by decide) (Nat.le_of_ble_eq_true rfl) (fun p e s m below meth c ls A hx hb hml hr hlocks hin hts hown hKK hP hD hS hA hl => ?_)
  have hK := hKK.1
  have hl : lv_has ls 2 [(0, .ref hr1)] := hl
  have hI1 : (0 ≤ tp ∧ tp ≤ 900) ∧ (0 ≤ ln ∧ ln ≤ 900) ∧ (0 ≤ pl ∧ pl ≤ en) ∧ (en ≤ ln) ∧ (0 ≤ ki ∧ ki ≤ 4) ∧ (-2147483648 ≤ va ∧ va < 2147483648) ∧ (-1 ≤ ke ∧ ke ≤ 24) := hI
  refine lv_aload_n hx hb dX4_readSign_0 rfl (lv_at hl 0 rfl) ?_
  refine va_get (D := D) (ci := 4) (v := .ref tx) (C := RX4) (T := TX4) (N := 12) hx hb hts iX4 hown hK hP 0 rfl rfl 0 (bl rfl) (hts _ qf_X4_9) (fun _ h => h) rfl dX4_readSign_1 ?_
  refine lv_aload_n hx hb dX4_readSign_4 rfl (lv_at hl 0 rfl) ?_
  refine va_get (D := D) (ci := 4) (v := .int (iZ en)) (C := RX4) (T := TX4) (N := 12) hx hb hts iX4 hown hK hP 0 rfl rfl 5 (bl rfl) (hts _ qf_X4_47) (fun _ h => h) rfl dX4_readSign_5 ?_
  refine va_bald hx hb hK hP 1 0 rfl rfl (zin (e := en) (n := 900) ⟨by omega, by omega⟩ (bl rfl)) dX4_readSign_8 ?_
  refine lv_topi (fun x_1 ex_1 => ?_)
  obtain rfl : x_1 = iZ (gz bf en) := ex_1.trans (gz_eq ⟨by omega, by omega⟩)
  have h_2 := gz_rg bf en
  refine lv_istore_n (lv' := [(1, .int (iZ (gz bf en))), (0, .ref hr1)]) hx hb dX4_readSign_9 rfl hl (bl rfl) rfl (fun ls hl => ?_)
  refine lv_aload_n hx hb dX4_readSign_10 rfl (lv_at hl 1 rfl) ?_
  refine lv_iload_n hx hb dX4_readSign_11 rfl (lv_at hl 0 rfl) ?_
  refine lv_bipush (v := iZ 59) hx hb dX4_readSign_12 bip_59 ?_
  refine lv_icmp_eq (tgt := 35) hx hb dX4_readSign_14 rfl (fun c_3 => ?_) (fun c_3 => ?_)
  ·
    have c_3 := (zeq (x := iZ (gz bf en)) (y := iZ 59) rfl rfl (gz_rg bf en) wn_59).mp c_3
    refine lv_iconst (v := iZ 3) hx hb dX4_readSign_35 rfl ?_
    refine lv_goto (tgt := 40) hx hb dX4_readSign_36 rfl ?_
    refine va_put (D := D) (ci := 4) (v := .int (iZ 3)) (ty := .int) (C := RX4) (T := TX4) (N := 12) hx hb hts iX4 tyX4 tyX4_ok nmX4 hown hK hP hD hS 0 rfl rfl 6 (bl rfl) (hts _ qf_X4_68) (fun _ h => h) rfl (by decide +kernel) rfl rfl (Nat.le_of_ble_eq_true rfl) dX4_readSign_40 (fun H locs hP hD hS => ?_)
    refine lv_aload_n hx hb dX4_readSign_43 rfl (lv_at hl 1 rfl) ?_
    refine lv_iload_n hx hb dX4_readSign_44 rfl (lv_at hl 0 rfl) ?_
    refine va_put (D := D) (ci := 4) (v := .int (iZ (gz bf en))) (ty := .int) (C := RX4) (T := TX4) (N := 12) hx hb hts iX4 tyX4 tyX4_ok nmX4 hown hK hP hD hS 0 rfl rfl 7 (bl rfl) (hts _ qf_X4_65) (fun _ h => h) rfl (by decide +kernel) rfl rfl (Nat.le_of_ble_eq_true rfl) dX4_readSign_45 (fun H locs hP hD hS => ?_)
    refine lv_aload_n hx hb dX4_readSign_48 rfl (lv_at hl 1 rfl) ?_
    refine lv_dup hx hb dX4_readSign_49 rfl ?_
    refine va_get (D := D) (ci := 4) (v := .int (iZ en)) (C := RX4) (T := TX4) (N := 12) hx hb hts iX4 hown hK hP 0 rfl rfl 5 (bl rfl) (hts _ qf_X4_47) (fun _ h => h) rfl dX4_readSign_50 ?_
    refine lv_iconst (v := iZ 1) hx hb dX4_readSign_53 rfl ?_
    refine lv_iadd hx hb dX4_readSign_54 ?_
    refine lv_topi (fun x_4 ex_4 => ?_)
    obtain rfl : x_4 = iZ (en + 1) := ex_4.trans (iZ_add en 1)
    refine va_put (D := D) (ci := 4) (v := .int (iZ (en + 1))) (ty := .int) (C := RX4) (T := TX4) (N := 12) hx hb hts iX4 tyX4 tyX4_ok nmX4 hown hK hP hD hS 0 rfl rfl 5 (bl rfl) (hts _ qf_X4_47) (fun _ h => h) rfl (by decide +kernel) rfl rfl (Nat.le_of_ble_eq_true rfl) dX4_readSign_55 (fun H locs hP hD hS => ?_)
    exact EWv hx hb hr hlocks hS (fun i => [0, tp, ln, pl, (en + 1), 3, (gz bf en), ke, fk, fp].getD i 0, nm) rfl ⟨show tp = tp from (by omega), (show RDI _ from (show (0 ≤ tp ∧ tp ≤ 900) ∧ (0 ≤ ln ∧ ln ≤ 900) ∧ (0 ≤ pl ∧ pl ≤ (en + 1)) ∧ ((en + 1) ≤ ln) ∧ (0 ≤ 3 ∧ 3 ≤ 4) ∧ (-2147483648 ≤ (gz bf en) ∧ (gz bf en) < 2147483648) ∧ (-1 ≤ ke ∧ ke ≤ 24) from ⟨⟨by omega, by omega⟩, ⟨by omega, by omega⟩, ⟨by omega, by omega⟩, by omega, ⟨by omega, by omega⟩, ⟨by omega, by omega⟩, by omega, by omega⟩))⟩ (hP.sub [0, 1, 2] rfl) (hD.sub [0, 1, 2] rfl rfl) dX4_readSign_58
  ·
    have c_3 := mt (zeq (x := iZ (gz bf en)) (y := iZ 59) rfl rfl (gz_rg bf en) wn_59).mpr c_3
    refine lv_iload_n hx hb dX4_readSign_17 rfl (lv_at hl 0 rfl) ?_
    refine lv_bipush (v := iZ 60) hx hb dX4_readSign_18 bip_60 ?_
    refine lv_icmp_eq (tgt := 35) hx hb dX4_readSign_20 rfl (fun c_5 => ?_) (fun c_5 => ?_)
    ·
      have c_5 := (zeq (x := iZ (gz bf en)) (y := iZ 60) rfl rfl (gz_rg bf en) wn_60).mp c_5
      refine lv_iconst (v := iZ 3) hx hb dX4_readSign_35 rfl ?_
      refine lv_goto (tgt := 40) hx hb dX4_readSign_36 rfl ?_
      refine va_put (D := D) (ci := 4) (v := .int (iZ 3)) (ty := .int) (C := RX4) (T := TX4) (N := 12) hx hb hts iX4 tyX4 tyX4_ok nmX4 hown hK hP hD hS 0 rfl rfl 6 (bl rfl) (hts _ qf_X4_68) (fun _ h => h) rfl (by decide +kernel) rfl rfl (Nat.le_of_ble_eq_true rfl) dX4_readSign_40 (fun H locs hP hD hS => ?_)
      refine lv_aload_n hx hb dX4_readSign_43 rfl (lv_at hl 1 rfl) ?_
      refine lv_iload_n hx hb dX4_readSign_44 rfl (lv_at hl 0 rfl) ?_
      refine va_put (D := D) (ci := 4) (v := .int (iZ (gz bf en))) (ty := .int) (C := RX4) (T := TX4) (N := 12) hx hb hts iX4 tyX4 tyX4_ok nmX4 hown hK hP hD hS 0 rfl rfl 7 (bl rfl) (hts _ qf_X4_65) (fun _ h => h) rfl (by decide +kernel) rfl rfl (Nat.le_of_ble_eq_true rfl) dX4_readSign_45 (fun H locs hP hD hS => ?_)
      refine lv_aload_n hx hb dX4_readSign_48 rfl (lv_at hl 1 rfl) ?_
      refine lv_dup hx hb dX4_readSign_49 rfl ?_
      refine va_get (D := D) (ci := 4) (v := .int (iZ en)) (C := RX4) (T := TX4) (N := 12) hx hb hts iX4 hown hK hP 0 rfl rfl 5 (bl rfl) (hts _ qf_X4_47) (fun _ h => h) rfl dX4_readSign_50 ?_
      refine lv_iconst (v := iZ 1) hx hb dX4_readSign_53 rfl ?_
      refine lv_iadd hx hb dX4_readSign_54 ?_
      refine lv_topi (fun x_6 ex_6 => ?_)
      obtain rfl : x_6 = iZ (en + 1) := ex_6.trans (iZ_add en 1)
      refine va_put (D := D) (ci := 4) (v := .int (iZ (en + 1))) (ty := .int) (C := RX4) (T := TX4) (N := 12) hx hb hts iX4 tyX4 tyX4_ok nmX4 hown hK hP hD hS 0 rfl rfl 5 (bl rfl) (hts _ qf_X4_47) (fun _ h => h) rfl (by decide +kernel) rfl rfl (Nat.le_of_ble_eq_true rfl) dX4_readSign_55 (fun H locs hP hD hS => ?_)
      exact EWv hx hb hr hlocks hS (fun i => [0, tp, ln, pl, (en + 1), 3, (gz bf en), ke, fk, fp].getD i 0, nm) rfl ⟨show tp = tp from (by omega), (show RDI _ from (show (0 ≤ tp ∧ tp ≤ 900) ∧ (0 ≤ ln ∧ ln ≤ 900) ∧ (0 ≤ pl ∧ pl ≤ (en + 1)) ∧ ((en + 1) ≤ ln) ∧ (0 ≤ 3 ∧ 3 ≤ 4) ∧ (-2147483648 ≤ (gz bf en) ∧ (gz bf en) < 2147483648) ∧ (-1 ≤ ke ∧ ke ≤ 24) from ⟨⟨by omega, by omega⟩, ⟨by omega, by omega⟩, ⟨by omega, by omega⟩, by omega, ⟨by omega, by omega⟩, ⟨by omega, by omega⟩, by omega, by omega⟩))⟩ (hP.sub [0, 1, 2] rfl) (hD.sub [0, 1, 2] rfl rfl) dX4_readSign_58
    ·
      have c_5 := mt (zeq (x := iZ (gz bf en)) (y := iZ 60) rfl rfl (gz_rg bf en) wn_60).mpr c_5
      refine lv_iload_n hx hb dX4_readSign_23 rfl (lv_at hl 0 rfl) ?_
      refine lv_bipush (v := iZ 62) hx hb dX4_readSign_24 bip_62 ?_
      refine lv_icmp_eq (tgt := 35) hx hb dX4_readSign_26 rfl (fun c_7 => ?_) (fun c_7 => ?_)
      ·
        have c_7 := (zeq (x := iZ (gz bf en)) (y := iZ 62) rfl rfl (gz_rg bf en) wn_62).mp c_7
        refine lv_iconst (v := iZ 3) hx hb dX4_readSign_35 rfl ?_
        refine lv_goto (tgt := 40) hx hb dX4_readSign_36 rfl ?_
        refine va_put (D := D) (ci := 4) (v := .int (iZ 3)) (ty := .int) (C := RX4) (T := TX4) (N := 12) hx hb hts iX4 tyX4 tyX4_ok nmX4 hown hK hP hD hS 0 rfl rfl 6 (bl rfl) (hts _ qf_X4_68) (fun _ h => h) rfl (by decide +kernel) rfl rfl (Nat.le_of_ble_eq_true rfl) dX4_readSign_40 (fun H locs hP hD hS => ?_)
        refine lv_aload_n hx hb dX4_readSign_43 rfl (lv_at hl 1 rfl) ?_
        refine lv_iload_n hx hb dX4_readSign_44 rfl (lv_at hl 0 rfl) ?_
        refine va_put (D := D) (ci := 4) (v := .int (iZ (gz bf en))) (ty := .int) (C := RX4) (T := TX4) (N := 12) hx hb hts iX4 tyX4 tyX4_ok nmX4 hown hK hP hD hS 0 rfl rfl 7 (bl rfl) (hts _ qf_X4_65) (fun _ h => h) rfl (by decide +kernel) rfl rfl (Nat.le_of_ble_eq_true rfl) dX4_readSign_45 (fun H locs hP hD hS => ?_)
        refine lv_aload_n hx hb dX4_readSign_48 rfl (lv_at hl 1 rfl) ?_
        refine lv_dup hx hb dX4_readSign_49 rfl ?_
        refine va_get (D := D) (ci := 4) (v := .int (iZ en)) (C := RX4) (T := TX4) (N := 12) hx hb hts iX4 hown hK hP 0 rfl rfl 5 (bl rfl) (hts _ qf_X4_47) (fun _ h => h) rfl dX4_readSign_50 ?_
        refine lv_iconst (v := iZ 1) hx hb dX4_readSign_53 rfl ?_
        refine lv_iadd hx hb dX4_readSign_54 ?_
        refine lv_topi (fun x_8 ex_8 => ?_)
        obtain rfl : x_8 = iZ (en + 1) := ex_8.trans (iZ_add en 1)
        refine va_put (D := D) (ci := 4) (v := .int (iZ (en + 1))) (ty := .int) (C := RX4) (T := TX4) (N := 12) hx hb hts iX4 tyX4 tyX4_ok nmX4 hown hK hP hD hS 0 rfl rfl 5 (bl rfl) (hts _ qf_X4_47) (fun _ h => h) rfl (by decide +kernel) rfl rfl (Nat.le_of_ble_eq_true rfl) dX4_readSign_55 (fun H locs hP hD hS => ?_)
        exact EWv hx hb hr hlocks hS (fun i => [0, tp, ln, pl, (en + 1), 3, (gz bf en), ke, fk, fp].getD i 0, nm) rfl ⟨show tp = tp from (by omega), (show RDI _ from (show (0 ≤ tp ∧ tp ≤ 900) ∧ (0 ≤ ln ∧ ln ≤ 900) ∧ (0 ≤ pl ∧ pl ≤ (en + 1)) ∧ ((en + 1) ≤ ln) ∧ (0 ≤ 3 ∧ 3 ≤ 4) ∧ (-2147483648 ≤ (gz bf en) ∧ (gz bf en) < 2147483648) ∧ (-1 ≤ ke ∧ ke ≤ 24) from ⟨⟨by omega, by omega⟩, ⟨by omega, by omega⟩, ⟨by omega, by omega⟩, by omega, ⟨by omega, by omega⟩, ⟨by omega, by omega⟩, by omega, by omega⟩))⟩ (hP.sub [0, 1, 2] rfl) (hD.sub [0, 1, 2] rfl rfl) dX4_readSign_58
      ·
        have c_7 := mt (zeq (x := iZ (gz bf en)) (y := iZ 62) rfl rfl (gz_rg bf en) wn_62).mpr c_7
        refine lv_iload_n hx hb dX4_readSign_29 rfl (lv_at hl 0 rfl) ?_
        refine lv_bipush (v := iZ 61) hx hb dX4_readSign_30 bip_61 ?_
        refine lv_icmp_ne (tgt := 39) hx hb dX4_readSign_32 rfl (fun c_9 => ?_) (fun c_9 => ?_)
        ·
          have c_9 := mt (zeq (x := iZ (gz bf en)) (y := iZ 61) rfl rfl (gz_rg bf en) wn_61).mpr c_9
          refine lv_iconst (v := iZ 4) hx hb dX4_readSign_39 rfl ?_
          refine va_put (D := D) (ci := 4) (v := .int (iZ 4)) (ty := .int) (C := RX4) (T := TX4) (N := 12) hx hb hts iX4 tyX4 tyX4_ok nmX4 hown hK hP hD hS 0 rfl rfl 6 (bl rfl) (hts _ qf_X4_68) (fun _ h => h) rfl (by decide +kernel) rfl rfl (Nat.le_of_ble_eq_true rfl) dX4_readSign_40 (fun H locs hP hD hS => ?_)
          refine lv_aload_n hx hb dX4_readSign_43 rfl (lv_at hl 1 rfl) ?_
          refine lv_iload_n hx hb dX4_readSign_44 rfl (lv_at hl 0 rfl) ?_
          refine va_put (D := D) (ci := 4) (v := .int (iZ (gz bf en))) (ty := .int) (C := RX4) (T := TX4) (N := 12) hx hb hts iX4 tyX4 tyX4_ok nmX4 hown hK hP hD hS 0 rfl rfl 7 (bl rfl) (hts _ qf_X4_65) (fun _ h => h) rfl (by decide +kernel) rfl rfl (Nat.le_of_ble_eq_true rfl) dX4_readSign_45 (fun H locs hP hD hS => ?_)
          refine lv_aload_n hx hb dX4_readSign_48 rfl (lv_at hl 1 rfl) ?_
          refine lv_dup hx hb dX4_readSign_49 rfl ?_
          refine va_get (D := D) (ci := 4) (v := .int (iZ en)) (C := RX4) (T := TX4) (N := 12) hx hb hts iX4 hown hK hP 0 rfl rfl 5 (bl rfl) (hts _ qf_X4_47) (fun _ h => h) rfl dX4_readSign_50 ?_
          refine lv_iconst (v := iZ 1) hx hb dX4_readSign_53 rfl ?_
          refine lv_iadd hx hb dX4_readSign_54 ?_
          refine lv_topi (fun x_10 ex_10 => ?_)
          obtain rfl : x_10 = iZ (en + 1) := ex_10.trans (iZ_add en 1)
          refine va_put (D := D) (ci := 4) (v := .int (iZ (en + 1))) (ty := .int) (C := RX4) (T := TX4) (N := 12) hx hb hts iX4 tyX4 tyX4_ok nmX4 hown hK hP hD hS 0 rfl rfl 5 (bl rfl) (hts _ qf_X4_47) (fun _ h => h) rfl (by decide +kernel) rfl rfl (Nat.le_of_ble_eq_true rfl) dX4_readSign_55 (fun H locs hP hD hS => ?_)
          exact EWv hx hb hr hlocks hS (fun i => [0, tp, ln, pl, (en + 1), 4, (gz bf en), ke, fk, fp].getD i 0, nm) rfl ⟨show tp = tp from (by omega), (show RDI _ from (show (0 ≤ tp ∧ tp ≤ 900) ∧ (0 ≤ ln ∧ ln ≤ 900) ∧ (0 ≤ pl ∧ pl ≤ (en + 1)) ∧ ((en + 1) ≤ ln) ∧ (0 ≤ 4 ∧ 4 ≤ 4) ∧ (-2147483648 ≤ (gz bf en) ∧ (gz bf en) < 2147483648) ∧ (-1 ≤ ke ∧ ke ≤ 24) from ⟨⟨by omega, by omega⟩, ⟨by omega, by omega⟩, ⟨by omega, by omega⟩, by omega, ⟨by omega, by omega⟩, ⟨by omega, by omega⟩, by omega, by omega⟩))⟩ (hP.sub [0, 1, 2] rfl) (hD.sub [0, 1, 2] rfl rfl) dX4_readSign_58
        ·
          have c_9 := (zeq (x := iZ (gz bf en)) (y := iZ 61) rfl rfl (gz_rg bf en) wn_61).mp c_9
          refine lv_iconst (v := iZ 3) hx hb dX4_readSign_35 rfl ?_
          refine lv_goto (tgt := 40) hx hb dX4_readSign_36 rfl ?_
          refine va_put (D := D) (ci := 4) (v := .int (iZ 3)) (ty := .int) (C := RX4) (T := TX4) (N := 12) hx hb hts iX4 tyX4 tyX4_ok nmX4 hown hK hP hD hS 0 rfl rfl 6 (bl rfl) (hts _ qf_X4_68) (fun _ h => h) rfl (by decide +kernel) rfl rfl (Nat.le_of_ble_eq_true rfl) dX4_readSign_40 (fun H locs hP hD hS => ?_)
          refine lv_aload_n hx hb dX4_readSign_43 rfl (lv_at hl 1 rfl) ?_
          refine lv_iload_n hx hb dX4_readSign_44 rfl (lv_at hl 0 rfl) ?_
          refine va_put (D := D) (ci := 4) (v := .int (iZ (gz bf en))) (ty := .int) (C := RX4) (T := TX4) (N := 12) hx hb hts iX4 tyX4 tyX4_ok nmX4 hown hK hP hD hS 0 rfl rfl 7 (bl rfl) (hts _ qf_X4_65) (fun _ h => h) rfl (by decide +kernel) rfl rfl (Nat.le_of_ble_eq_true rfl) dX4_readSign_45 (fun H locs hP hD hS => ?_)
          refine lv_aload_n hx hb dX4_readSign_48 rfl (lv_at hl 1 rfl) ?_
          refine lv_dup hx hb dX4_readSign_49 rfl ?_
          refine va_get (D := D) (ci := 4) (v := .int (iZ en)) (C := RX4) (T := TX4) (N := 12) hx hb hts iX4 hown hK hP 0 rfl rfl 5 (bl rfl) (hts _ qf_X4_47) (fun _ h => h) rfl dX4_readSign_50 ?_
          refine lv_iconst (v := iZ 1) hx hb dX4_readSign_53 rfl ?_
          refine lv_iadd hx hb dX4_readSign_54 ?_
          refine lv_topi (fun x_11 ex_11 => ?_)
          obtain rfl : x_11 = iZ (en + 1) := ex_11.trans (iZ_add en 1)
          refine va_put (D := D) (ci := 4) (v := .int (iZ (en + 1))) (ty := .int) (C := RX4) (T := TX4) (N := 12) hx hb hts iX4 tyX4 tyX4_ok nmX4 hown hK hP hD hS 0 rfl rfl 5 (bl rfl) (hts _ qf_X4_47) (fun _ h => h) rfl (by decide +kernel) rfl rfl (Nat.le_of_ble_eq_true rfl) dX4_readSign_55 (fun H locs hP hD hS => ?_)
          exact EWv hx hb hr hlocks hS (fun i => [0, tp, ln, pl, (en + 1), 3, (gz bf en), ke, fk, fp].getD i 0, nm) rfl ⟨show tp = tp from (by omega), (show RDI _ from (show (0 ≤ tp ∧ tp ≤ 900) ∧ (0 ≤ ln ∧ ln ≤ 900) ∧ (0 ≤ pl ∧ pl ≤ (en + 1)) ∧ ((en + 1) ≤ ln) ∧ (0 ≤ 3 ∧ 3 ≤ 4) ∧ (-2147483648 ≤ (gz bf en) ∧ (gz bf en) < 2147483648) ∧ (-1 ≤ ke ∧ ke ≤ 24) from ⟨⟨by omega, by omega⟩, ⟨by omega, by omega⟩, ⟨by omega, by omega⟩, by omega, ⟨by omega, by omega⟩, ⟨by omega, by omega⟩, by omega, by omega⟩))⟩ (hP.sub [0, 1, 2] rfl) (hD.sub [0, 1, 2] rfl rfl) dX4_readSign_58
set_option maxHeartbeats 4000000 in
set_option maxRecDepth 100000 in
theorem k_readNumber (l : Launch) (D : va_G) (k : Nat → ClassId) (hr1 tx kw : Nat) (bf : Nat → Int32) (kwf : Nat → Int64) (tp ln pl en ki va ke fk fp : Int) (nm : Int64) (hI : RDI (fun i => [0, tp, ln, pl, en, ki, va, ke, fk, fp].getD i 0)) : WD (σ := ((Nat → Int) × Int64)) l yX4_readNumber cX4_readNumber 2 none 0 0 0 D k [.ref hr1] [(hr1, .inr (4, [.ref tx, .ref kw, .int (iZ tp), .int (iZ ln), .int (iZ pl), .int (iZ en), .int (iZ ki), .int (iZ va), .int (iZ ke), .long nm, .int (iZ fk), .int (iZ fp)])), (tx, .inl (k 0, 900, .inl bf)), (kw, .inl (k 2, 25, .inr (.inl kwf)))] (fun _ => none) (fun u => (u.1 1 = tp) ∧ RDI u.1) (fun u => [(hr1, .inr (4, [.ref tx, .ref kw, .int (iZ (u.1 1)), .int (iZ (u.1 2)), .int (iZ (u.1 3)), .int (iZ (u.1 4)), .int (iZ (u.1 5)), .int (iZ (u.1 6)), .int (iZ (u.1 7)), .long u.2, .int (iZ (u.1 8)), .int (iZ (u.1 9))])), (tx, .inl (k 0, 900, .inl bf)), (kw, .inl (k 2, 25, .inr (.inl kwf)))]) := by
  refine MW (by decide) (Nat.le_of_ble_eq_true rfl) (fun p e s m below meth c ls A hx hb hml hr hlocks hin hts hown hKK hP hD hS hA hl => ?_)
  have hK := hKK.1
  have hl : lv_has ls 2 [(0, .ref hr1)] := hl
  have hI1 : (0 ≤ tp ∧ tp ≤ 900) ∧ (0 ≤ ln ∧ ln ≤ 900) ∧ (0 ≤ pl ∧ pl ≤ en) ∧ (en ≤ ln) ∧ (0 ≤ ki ∧ ki ≤ 4) ∧ (-2147483648 ≤ va ∧ va < 2147483648) ∧ (-1 ≤ ke ∧ ke ≤ 24) := hI
  refine lv_iconst (v := iZ 0) hx hb dX4_readNumber_0 rfl ?_
  refine lv_istore_n (lv' := [(1, .int (iZ 0)), (0, .ref hr1)]) hx hb dX4_readNumber_1 rfl hl (bl rfl) rfl (fun ls hl => ?_)
  have HL1 : ∀ (fu : Nat) (e2 su : Int) (H : Heap) (locs : List Loc) (ls : Array Slot), (ln + 1 - e2) < (fu : Int) → en ≤ e2 → e2 ≤ ln → -2147483648 ≤ su → su < 2147483648 → va_P D vwCl [(hr1, .inr (4, [.ref tx, .ref kw, .int (iZ tp), .int (iZ ln), .int (iZ pl), .int (iZ e2), .int (iZ ki), .int (iZ va), .int (iZ ke), .long nm, .int (iZ fk), .int (iZ fp)])), (tx, .inl (k 0, 900, .inl bf)), (kw, .inl (k 2, 25, .inr (.inl kwf)))] H → va_D A [(hr1, .inr (4, [.ref tx, .ref kw, .int (iZ tp), .int (iZ ln), .int (iZ pl), .int (iZ e2), .int (iZ ki), .int (iZ va), .int (iZ ke), .long nm, .int (iZ fk), .int (iZ fp)])), (tx, .inl (k 0, 900, .inl bf)), (kw, .inl (k 2, 25, .inr (.inl kwf)))] → va_S A s.heap H locs → lv_has ls 2 [(1, .int (iZ su)), (0, .ref hr1)] → W p l e (rj 0 0 0) s m [.ref hr1].toArray below meth c H locs 0 0 (MQ below (QW (σ := ((Nat → Int) × Int64)) (fun _ => none) (fun u => (u.1 1 = tp) ∧ RDI u.1) (fun u => [(hr1, .inr (4, [.ref tx, .ref kw, .int (iZ (u.1 1)), .int (iZ (u.1 2)), .int (iZ (u.1 3)), .int (iZ (u.1 4)), .int (iZ (u.1 5)), .int (iZ (u.1 6)), .int (iZ (u.1 7)), .long u.2, .int (iZ (u.1 8)), .int (iZ (u.1 9))])), (tx, .inl (k 0, 900, .inl bf)), (kw, .inl (k 2, 25, .inr (.inl kwf)))]) D A) [.ref hr1].toArray s 0 0 A) (F0 m 2 ls []) := by
    intro fu
    induction fu with
    | zero => intro e2 su H locs ls hμ1 he1 he2 hs1 hs2 hP hD hS hl; exact absurd hμ1 (by omega)
    | succ fu ih1 =>
      intro e2 su H locs ls hμ1 he1 he2 hs1 hs2 hP hD hS hl
      refine lv_aload_n hx hb dX4_readNumber_2 rfl (lv_at hl 1 rfl) ?_
      refine va_get (D := D) (ci := 4) (v := .int (iZ e2)) (C := RX4) (T := TX4) (N := 12) hx hb hts iX4 hown hK hP 0 rfl rfl 5 (bl rfl) (hts _ qf_X4_47) (fun _ h => h) rfl dX4_readNumber_3 ?_
      refine lv_aload_n hx hb dX4_readNumber_6 rfl (lv_at hl 1 rfl) ?_
      refine va_get (D := D) (ci := 4) (v := .int (iZ ln)) (C := RX4) (T := TX4) (N := 12) hx hb hts iX4 hown hK hP 0 rfl rfl 3 (bl rfl) (hts _ qf_X4_45) (fun _ h => h) rfl dX4_readNumber_7 ?_
      refine lv_icmp_ge (tgt := 89) hx hb dX4_readNumber_10 rfl (fun c_1 => ?_) (fun c_1 => ?_)
      ·
        have c_1 := (zle (x := iZ ln) (y := iZ e2) rfl rfl ⟨by omega, by omega⟩ ⟨by omega, by omega⟩).mp c_1
        refine lv_aload_n hx hb dX4_readNumber_89 rfl (lv_at hl 1 rfl) ?_
        refine lv_aload_n hx hb dX4_readNumber_90 rfl (lv_at hl 1 rfl) ?_
        refine va_get (D := D) (ci := 4) (v := .int (iZ e2)) (C := RX4) (T := TX4) (N := 12) hx hb hts iX4 hown hK hP 0 rfl rfl 5 (bl rfl) (hts _ qf_X4_47) (fun _ h => h) rfl dX4_readNumber_91 ?_
        refine lv_aload_n hx hb dX4_readNumber_94 rfl (lv_at hl 1 rfl) ?_
        refine va_get (D := D) (ci := 4) (v := .int (iZ pl)) (C := RX4) (T := TX4) (N := 12) hx hb hts iX4 hown hK hP 0 rfl rfl 4 (bl rfl) (hts _ qf_X4_53) (fun _ h => h) rfl dX4_readNumber_95 ?_
        refine lv_isub hx hb dX4_readNumber_98 ?_
        refine lv_topi (fun x_2 ex_2 => ?_)
        obtain rfl : x_2 = iZ (e2 - pl) := ex_2.trans (iZ_sub e2 pl)
        refine lv_iconst (v := iZ 4) hx hb dX4_readNumber_99 rfl ?_
        refine lv_icmp_le (tgt := 107) hx hb dX4_readNumber_100 rfl (fun c_3 => ?_) (fun c_3 => ?_)
        ·
          have c_3 := (zle (x := iZ (e2 - pl)) (y := iZ 4) rfl rfl ⟨by omega, by omega⟩ wn_4).mp c_3
          refine lv_iconst (v := iZ 2) hx hb dX4_readNumber_107 rfl ?_
          refine va_put (D := D) (ci := 4) (v := .int (iZ 2)) (ty := .int) (C := RX4) (T := TX4) (N := 12) hx hb hts iX4 tyX4 tyX4_ok nmX4 hown hK hP hD hS 0 rfl rfl 6 (bl rfl) (hts _ qf_X4_68) (fun _ h => h) rfl (by decide +kernel) rfl rfl (Nat.le_of_ble_eq_true rfl) dX4_readNumber_108 (fun H locs hP hD hS => ?_)
          refine lv_aload_n hx hb dX4_readNumber_111 rfl (lv_at hl 1 rfl) ?_
          refine lv_iload_n hx hb dX4_readNumber_112 rfl (lv_at hl 0 rfl) ?_
          refine va_put (D := D) (ci := 4) (v := .int (iZ su)) (ty := .int) (C := RX4) (T := TX4) (N := 12) hx hb hts iX4 tyX4 tyX4_ok nmX4 hown hK hP hD hS 0 rfl rfl 7 (bl rfl) (hts _ qf_X4_65) (fun _ h => h) rfl (by decide +kernel) rfl rfl (Nat.le_of_ble_eq_true rfl) dX4_readNumber_113 (fun H locs hP hD hS => ?_)
          exact EWv hx hb hr hlocks hS (fun i => [0, tp, ln, pl, e2, 2, su, ke, fk, fp].getD i 0, nm) rfl ⟨show tp = tp from (by omega), (show RDI _ from (show (0 ≤ tp ∧ tp ≤ 900) ∧ (0 ≤ ln ∧ ln ≤ 900) ∧ (0 ≤ pl ∧ pl ≤ e2) ∧ (e2 ≤ ln) ∧ (0 ≤ 2 ∧ 2 ≤ 4) ∧ (-2147483648 ≤ su ∧ su < 2147483648) ∧ (-1 ≤ ke ∧ ke ≤ 24) from ⟨⟨by omega, by omega⟩, ⟨by omega, by omega⟩, ⟨by omega, by omega⟩, by omega, ⟨by omega, by omega⟩, ⟨by omega, by omega⟩, by omega, by omega⟩))⟩ (hP.sub [0, 1, 2] rfl) (hD.sub [0, 1, 2] rfl rfl) dX4_readNumber_116
        ·
          have c_3 := mt (zle (x := iZ (e2 - pl)) (y := iZ 4) rfl rfl ⟨by omega, by omega⟩ wn_4).mpr c_3
          refine lv_iconst (v := iZ 4) hx hb dX4_readNumber_103 rfl ?_
          refine lv_goto (tgt := 108) hx hb dX4_readNumber_104 rfl ?_
          refine va_put (D := D) (ci := 4) (v := .int (iZ 4)) (ty := .int) (C := RX4) (T := TX4) (N := 12) hx hb hts iX4 tyX4 tyX4_ok nmX4 hown hK hP hD hS 0 rfl rfl 6 (bl rfl) (hts _ qf_X4_68) (fun _ h => h) rfl (by decide +kernel) rfl rfl (Nat.le_of_ble_eq_true rfl) dX4_readNumber_108 (fun H locs hP hD hS => ?_)
          refine lv_aload_n hx hb dX4_readNumber_111 rfl (lv_at hl 1 rfl) ?_
          refine lv_iload_n hx hb dX4_readNumber_112 rfl (lv_at hl 0 rfl) ?_
          refine va_put (D := D) (ci := 4) (v := .int (iZ su)) (ty := .int) (C := RX4) (T := TX4) (N := 12) hx hb hts iX4 tyX4 tyX4_ok nmX4 hown hK hP hD hS 0 rfl rfl 7 (bl rfl) (hts _ qf_X4_65) (fun _ h => h) rfl (by decide +kernel) rfl rfl (Nat.le_of_ble_eq_true rfl) dX4_readNumber_113 (fun H locs hP hD hS => ?_)
          exact EWv hx hb hr hlocks hS (fun i => [0, tp, ln, pl, e2, 4, su, ke, fk, fp].getD i 0, nm) rfl ⟨show tp = tp from (by omega), (show RDI _ from (show (0 ≤ tp ∧ tp ≤ 900) ∧ (0 ≤ ln ∧ ln ≤ 900) ∧ (0 ≤ pl ∧ pl ≤ e2) ∧ (e2 ≤ ln) ∧ (0 ≤ 4 ∧ 4 ≤ 4) ∧ (-2147483648 ≤ su ∧ su < 2147483648) ∧ (-1 ≤ ke ∧ ke ≤ 24) from ⟨⟨by omega, by omega⟩, ⟨by omega, by omega⟩, ⟨by omega, by omega⟩, by omega, ⟨by omega, by omega⟩, ⟨by omega, by omega⟩, by omega, by omega⟩))⟩ (hP.sub [0, 1, 2] rfl) (hD.sub [0, 1, 2] rfl rfl) dX4_readNumber_116
      ·
        have c_1 := mt (zle (x := iZ ln) (y := iZ e2) rfl rfl ⟨by omega, by omega⟩ ⟨by omega, by omega⟩).mpr c_1
        refine lv_aload_n hx hb dX4_readNumber_13 rfl (lv_at hl 1 rfl) ?_
        refine va_get (D := D) (ci := 4) (v := .ref tx) (C := RX4) (T := TX4) (N := 12) hx hb hts iX4 hown hK hP 0 rfl rfl 0 (bl rfl) (hts _ qf_X4_9) (fun _ h => h) rfl dX4_readNumber_14 ?_
        refine lv_aload_n hx hb dX4_readNumber_17 rfl (lv_at hl 1 rfl) ?_
        refine va_get (D := D) (ci := 4) (v := .int (iZ e2)) (C := RX4) (T := TX4) (N := 12) hx hb hts iX4 hown hK hP 0 rfl rfl 5 (bl rfl) (hts _ qf_X4_47) (fun _ h => h) rfl dX4_readNumber_18 ?_
        refine va_bald hx hb hK hP 1 0 rfl rfl (zin (e := e2) (n := 900) ⟨by omega, by omega⟩ (bl rfl)) dX4_readNumber_21 ?_
        refine lv_topi (fun x_4 ex_4 => ?_)
        obtain rfl : x_4 = iZ (gz bf e2) := ex_4.trans (gz_eq ⟨by omega, by omega⟩)
        have h_5 := gz_rg bf e2
        refine lv_bipush (v := iZ 48) hx hb dX4_readNumber_22 bip_48 ?_
        refine lv_icmp_lt (tgt := 89) hx hb dX4_readNumber_24 rfl (fun c_6 => ?_) (fun c_6 => ?_)
        ·
          have c_6 := (zlt (x := iZ (gz bf e2)) (y := iZ 48) rfl rfl (gz_rg bf e2) wn_48).mp c_6
          refine lv_aload_n hx hb dX4_readNumber_89 rfl (lv_at hl 1 rfl) ?_
          refine lv_aload_n hx hb dX4_readNumber_90 rfl (lv_at hl 1 rfl) ?_
          refine va_get (D := D) (ci := 4) (v := .int (iZ e2)) (C := RX4) (T := TX4) (N := 12) hx hb hts iX4 hown hK hP 0 rfl rfl 5 (bl rfl) (hts _ qf_X4_47) (fun _ h => h) rfl dX4_readNumber_91 ?_
          refine lv_aload_n hx hb dX4_readNumber_94 rfl (lv_at hl 1 rfl) ?_
          refine va_get (D := D) (ci := 4) (v := .int (iZ pl)) (C := RX4) (T := TX4) (N := 12) hx hb hts iX4 hown hK hP 0 rfl rfl 4 (bl rfl) (hts _ qf_X4_53) (fun _ h => h) rfl dX4_readNumber_95 ?_
          refine lv_isub hx hb dX4_readNumber_98 ?_
          refine lv_topi (fun x_7 ex_7 => ?_)
          obtain rfl : x_7 = iZ (e2 - pl) := ex_7.trans (iZ_sub e2 pl)
          refine lv_iconst (v := iZ 4) hx hb dX4_readNumber_99 rfl ?_
          refine lv_icmp_le (tgt := 107) hx hb dX4_readNumber_100 rfl (fun c_8 => ?_) (fun c_8 => ?_)
          ·
            have c_8 := (zle (x := iZ (e2 - pl)) (y := iZ 4) rfl rfl ⟨by omega, by omega⟩ wn_4).mp c_8
            refine lv_iconst (v := iZ 2) hx hb dX4_readNumber_107 rfl ?_
            refine va_put (D := D) (ci := 4) (v := .int (iZ 2)) (ty := .int) (C := RX4) (T := TX4) (N := 12) hx hb hts iX4 tyX4 tyX4_ok nmX4 hown hK hP hD hS 0 rfl rfl 6 (bl rfl) (hts _ qf_X4_68) (fun _ h => h) rfl (by decide +kernel) rfl rfl (Nat.le_of_ble_eq_true rfl) dX4_readNumber_108 (fun H locs hP hD hS => ?_)
            refine lv_aload_n hx hb dX4_readNumber_111 rfl (lv_at hl 1 rfl) ?_
            refine lv_iload_n hx hb dX4_readNumber_112 rfl (lv_at hl 0 rfl) ?_
            refine va_put (D := D) (ci := 4) (v := .int (iZ su)) (ty := .int) (C := RX4) (T := TX4) (N := 12) hx hb hts iX4 tyX4 tyX4_ok nmX4 hown hK hP hD hS 0 rfl rfl 7 (bl rfl) (hts _ qf_X4_65) (fun _ h => h) rfl (by decide +kernel) rfl rfl (Nat.le_of_ble_eq_true rfl) dX4_readNumber_113 (fun H locs hP hD hS => ?_)
            exact EWv hx hb hr hlocks hS (fun i => [0, tp, ln, pl, e2, 2, su, ke, fk, fp].getD i 0, nm) rfl ⟨show tp = tp from (by omega), (show RDI _ from (show (0 ≤ tp ∧ tp ≤ 900) ∧ (0 ≤ ln ∧ ln ≤ 900) ∧ (0 ≤ pl ∧ pl ≤ e2) ∧ (e2 ≤ ln) ∧ (0 ≤ 2 ∧ 2 ≤ 4) ∧ (-2147483648 ≤ su ∧ su < 2147483648) ∧ (-1 ≤ ke ∧ ke ≤ 24) from ⟨⟨by omega, by omega⟩, ⟨by omega, by omega⟩, ⟨by omega, by omega⟩, by omega, ⟨by omega, by omega⟩, ⟨by omega, by omega⟩, by omega, by omega⟩))⟩ (hP.sub [0, 1, 2] rfl) (hD.sub [0, 1, 2] rfl rfl) dX4_readNumber_116
          ·
            have c_8 := mt (zle (x := iZ (e2 - pl)) (y := iZ 4) rfl rfl ⟨by omega, by omega⟩ wn_4).mpr c_8
            refine lv_iconst (v := iZ 4) hx hb dX4_readNumber_103 rfl ?_
            refine lv_goto (tgt := 108) hx hb dX4_readNumber_104 rfl ?_
            refine va_put (D := D) (ci := 4) (v := .int (iZ 4)) (ty := .int) (C := RX4) (T := TX4) (N := 12) hx hb hts iX4 tyX4 tyX4_ok nmX4 hown hK hP hD hS 0 rfl rfl 6 (bl rfl) (hts _ qf_X4_68) (fun _ h => h) rfl (by decide +kernel) rfl rfl (Nat.le_of_ble_eq_true rfl) dX4_readNumber_108 (fun H locs hP hD hS => ?_)
            refine lv_aload_n hx hb dX4_readNumber_111 rfl (lv_at hl 1 rfl) ?_
            refine lv_iload_n hx hb dX4_readNumber_112 rfl (lv_at hl 0 rfl) ?_
            refine va_put (D := D) (ci := 4) (v := .int (iZ su)) (ty := .int) (C := RX4) (T := TX4) (N := 12) hx hb hts iX4 tyX4 tyX4_ok nmX4 hown hK hP hD hS 0 rfl rfl 7 (bl rfl) (hts _ qf_X4_65) (fun _ h => h) rfl (by decide +kernel) rfl rfl (Nat.le_of_ble_eq_true rfl) dX4_readNumber_113 (fun H locs hP hD hS => ?_)
            exact EWv hx hb hr hlocks hS (fun i => [0, tp, ln, pl, e2, 4, su, ke, fk, fp].getD i 0, nm) rfl ⟨show tp = tp from (by omega), (show RDI _ from (show (0 ≤ tp ∧ tp ≤ 900) ∧ (0 ≤ ln ∧ ln ≤ 900) ∧ (0 ≤ pl ∧ pl ≤ e2) ∧ (e2 ≤ ln) ∧ (0 ≤ 4 ∧ 4 ≤ 4) ∧ (-2147483648 ≤ su ∧ su < 2147483648) ∧ (-1 ≤ ke ∧ ke ≤ 24) from ⟨⟨by omega, by omega⟩, ⟨by omega, by omega⟩, ⟨by omega, by omega⟩, by omega, ⟨by omega, by omega⟩, ⟨by omega, by omega⟩, by omega, by omega⟩))⟩ (hP.sub [0, 1, 2] rfl) (hD.sub [0, 1, 2] rfl rfl) dX4_readNumber_116
        ·
          have c_6 := mt (zlt (x := iZ (gz bf e2)) (y := iZ 48) rfl rfl (gz_rg bf e2) wn_48).mpr c_6
          refine lv_aload_n hx hb dX4_readNumber_27 rfl (lv_at hl 1 rfl) ?_
          refine va_get (D := D) (ci := 4) (v := .ref tx) (C := RX4) (T := TX4) (N := 12) hx hb hts iX4 hown hK hP 0 rfl rfl 0 (bl rfl) (hts _ qf_X4_9) (fun _ h => h) rfl dX4_readNumber_28 ?_
          refine lv_aload_n hx hb dX4_readNumber_31 rfl (lv_at hl 1 rfl) ?_
          refine va_get (D := D) (ci := 4) (v := .int (iZ e2)) (C := RX4) (T := TX4) (N := 12) hx hb hts iX4 hown hK hP 0 rfl rfl 5 (bl rfl) (hts _ qf_X4_47) (fun _ h => h) rfl dX4_readNumber_32 ?_
          refine va_bald hx hb hK hP 1 0 rfl rfl (zin (e := e2) (n := 900) ⟨by omega, by omega⟩ (bl rfl)) dX4_readNumber_35 ?_
          refine lv_topi (fun x_9 ex_9 => ?_)
          obtain rfl : x_9 = iZ (gz bf e2) := ex_9.trans (gz_eq ⟨by omega, by omega⟩)
          have h_10 := gz_rg bf e2
          refine lv_bipush (v := iZ 57) hx hb dX4_readNumber_36 bip_57 ?_
          refine lv_icmp_gt (tgt := 89) hx hb dX4_readNumber_38 rfl (fun c_11 => ?_) (fun c_11 => ?_)
          ·
            have c_11 := (zlt (x := iZ 57) (y := iZ (gz bf e2)) rfl rfl wn_57 (gz_rg bf e2)).mp c_11
            refine lv_aload_n hx hb dX4_readNumber_89 rfl (lv_at hl 1 rfl) ?_
            refine lv_aload_n hx hb dX4_readNumber_90 rfl (lv_at hl 1 rfl) ?_
            refine va_get (D := D) (ci := 4) (v := .int (iZ e2)) (C := RX4) (T := TX4) (N := 12) hx hb hts iX4 hown hK hP 0 rfl rfl 5 (bl rfl) (hts _ qf_X4_47) (fun _ h => h) rfl dX4_readNumber_91 ?_
            refine lv_aload_n hx hb dX4_readNumber_94 rfl (lv_at hl 1 rfl) ?_
            refine va_get (D := D) (ci := 4) (v := .int (iZ pl)) (C := RX4) (T := TX4) (N := 12) hx hb hts iX4 hown hK hP 0 rfl rfl 4 (bl rfl) (hts _ qf_X4_53) (fun _ h => h) rfl dX4_readNumber_95 ?_
            refine lv_isub hx hb dX4_readNumber_98 ?_
            refine lv_topi (fun x_12 ex_12 => ?_)
            obtain rfl : x_12 = iZ (e2 - pl) := ex_12.trans (iZ_sub e2 pl)
            refine lv_iconst (v := iZ 4) hx hb dX4_readNumber_99 rfl ?_
            refine lv_icmp_le (tgt := 107) hx hb dX4_readNumber_100 rfl (fun c_13 => ?_) (fun c_13 => ?_)
            ·
              have c_13 := (zle (x := iZ (e2 - pl)) (y := iZ 4) rfl rfl ⟨by omega, by omega⟩ wn_4).mp c_13
              refine lv_iconst (v := iZ 2) hx hb dX4_readNumber_107 rfl ?_
              refine va_put (D := D) (ci := 4) (v := .int (iZ 2)) (ty := .int) (C := RX4) (T := TX4) (N := 12) hx hb hts iX4 tyX4 tyX4_ok nmX4 hown hK hP hD hS 0 rfl rfl 6 (bl rfl) (hts _ qf_X4_68) (fun _ h => h) rfl (by decide +kernel) rfl rfl (Nat.le_of_ble_eq_true rfl) dX4_readNumber_108 (fun H locs hP hD hS => ?_)
              refine lv_aload_n hx hb dX4_readNumber_111 rfl (lv_at hl 1 rfl) ?_
              refine lv_iload_n hx hb dX4_readNumber_112 rfl (lv_at hl 0 rfl) ?_
              refine va_put (D := D) (ci := 4) (v := .int (iZ su)) (ty := .int) (C := RX4) (T := TX4) (N := 12) hx hb hts iX4 tyX4 tyX4_ok nmX4 hown hK hP hD hS 0 rfl rfl 7 (bl rfl) (hts _ qf_X4_65) (fun _ h => h) rfl (by decide +kernel) rfl rfl (Nat.le_of_ble_eq_true rfl) dX4_readNumber_113 (fun H locs hP hD hS => ?_)
              exact EWv hx hb hr hlocks hS (fun i => [0, tp, ln, pl, e2, 2, su, ke, fk, fp].getD i 0, nm) rfl ⟨show tp = tp from (by omega), (show RDI _ from (show (0 ≤ tp ∧ tp ≤ 900) ∧ (0 ≤ ln ∧ ln ≤ 900) ∧ (0 ≤ pl ∧ pl ≤ e2) ∧ (e2 ≤ ln) ∧ (0 ≤ 2 ∧ 2 ≤ 4) ∧ (-2147483648 ≤ su ∧ su < 2147483648) ∧ (-1 ≤ ke ∧ ke ≤ 24) from ⟨⟨by omega, by omega⟩, ⟨by omega, by omega⟩, ⟨by omega, by omega⟩, by omega, ⟨by omega, by omega⟩, ⟨by omega, by omega⟩, by omega, by omega⟩))⟩ (hP.sub [0, 1, 2] rfl) (hD.sub [0, 1, 2] rfl rfl) dX4_readNumber_116
            ·
              have c_13 := mt (zle (x := iZ (e2 - pl)) (y := iZ 4) rfl rfl ⟨by omega, by omega⟩ wn_4).mpr c_13
              refine lv_iconst (v := iZ 4) hx hb dX4_readNumber_103 rfl ?_
              refine lv_goto (tgt := 108) hx hb dX4_readNumber_104 rfl ?_
              refine va_put (D := D) (ci := 4) (v := .int (iZ 4)) (ty := .int) (C := RX4) (T := TX4) (N := 12) hx hb hts iX4 tyX4 tyX4_ok nmX4 hown hK hP hD hS 0 rfl rfl 6 (bl rfl) (hts _ qf_X4_68) (fun _ h => h) rfl (by decide +kernel) rfl rfl (Nat.le_of_ble_eq_true rfl) dX4_readNumber_108 (fun H locs hP hD hS => ?_)
              refine lv_aload_n hx hb dX4_readNumber_111 rfl (lv_at hl 1 rfl) ?_
              refine lv_iload_n hx hb dX4_readNumber_112 rfl (lv_at hl 0 rfl) ?_
              refine va_put (D := D) (ci := 4) (v := .int (iZ su)) (ty := .int) (C := RX4) (T := TX4) (N := 12) hx hb hts iX4 tyX4 tyX4_ok nmX4 hown hK hP hD hS 0 rfl rfl 7 (bl rfl) (hts _ qf_X4_65) (fun _ h => h) rfl (by decide +kernel) rfl rfl (Nat.le_of_ble_eq_true rfl) dX4_readNumber_113 (fun H locs hP hD hS => ?_)
              exact EWv hx hb hr hlocks hS (fun i => [0, tp, ln, pl, e2, 4, su, ke, fk, fp].getD i 0, nm) rfl ⟨show tp = tp from (by omega), (show RDI _ from (show (0 ≤ tp ∧ tp ≤ 900) ∧ (0 ≤ ln ∧ ln ≤ 900) ∧ (0 ≤ pl ∧ pl ≤ e2) ∧ (e2 ≤ ln) ∧ (0 ≤ 4 ∧ 4 ≤ 4) ∧ (-2147483648 ≤ su ∧ su < 2147483648) ∧ (-1 ≤ ke ∧ ke ≤ 24) from ⟨⟨by omega, by omega⟩, ⟨by omega, by omega⟩, ⟨by omega, by omega⟩, by omega, ⟨by omega, by omega⟩, ⟨by omega, by omega⟩, by omega, by omega⟩))⟩ (hP.sub [0, 1, 2] rfl) (hD.sub [0, 1, 2] rfl rfl) dX4_readNumber_116
          ·
            have c_11 := mt (zlt (x := iZ 57) (y := iZ (gz bf e2)) rfl rfl wn_57 (gz_rg bf e2)).mpr c_11
            refine lv_aload_n hx hb dX4_readNumber_41 rfl (lv_at hl 1 rfl) ?_
            refine va_get (D := D) (ci := 4) (v := .int (iZ e2)) (C := RX4) (T := TX4) (N := 12) hx hb hts iX4 hown hK hP 0 rfl rfl 5 (bl rfl) (hts _ qf_X4_47) (fun _ h => h) rfl dX4_readNumber_42 ?_
            refine lv_aload_n hx hb dX4_readNumber_45 rfl (lv_at hl 1 rfl) ?_
            refine va_get (D := D) (ci := 4) (v := .int (iZ pl)) (C := RX4) (T := TX4) (N := 12) hx hb hts iX4 hown hK hP 0 rfl rfl 4 (bl rfl) (hts _ qf_X4_53) (fun _ h => h) rfl dX4_readNumber_46 ?_
            refine lv_isub hx hb dX4_readNumber_49 ?_
            refine lv_topi (fun x_14 ex_14 => ?_)
            obtain rfl : x_14 = iZ (e2 - pl) := ex_14.trans (iZ_sub e2 pl)
            refine lv_iconst (v := iZ 4) hx hb dX4_readNumber_50 rfl ?_
            refine lv_icmp_ge (tgt := 74) hx hb dX4_readNumber_51 rfl (fun c_15 => ?_) (fun c_15 => ?_)
            ·
              have c_15 := (zle (x := iZ 4) (y := iZ (e2 - pl)) rfl rfl wn_4 ⟨by omega, by omega⟩).mp c_15
              refine lv_iload_n hx hb dX4_readNumber_74 rfl (lv_at hl 0 rfl) ?_
              refine lv_istore_n (lv' := [(1, .int (iZ su)), (0, .ref hr1)]) hx hb dX4_readNumber_75 rfl hl (bl rfl) rfl (fun ls hl => ?_)
              refine lv_aload_n hx hb dX4_readNumber_76 rfl (lv_at hl 1 rfl) ?_
              refine lv_dup hx hb dX4_readNumber_77 rfl ?_
              refine va_get (D := D) (ci := 4) (v := .int (iZ e2)) (C := RX4) (T := TX4) (N := 12) hx hb hts iX4 hown hK hP 0 rfl rfl 5 (bl rfl) (hts _ qf_X4_47) (fun _ h => h) rfl dX4_readNumber_78 ?_
              refine lv_iconst (v := iZ 1) hx hb dX4_readNumber_81 rfl ?_
              refine lv_iadd hx hb dX4_readNumber_82 ?_
              refine lv_topi (fun x_16 ex_16 => ?_)
              obtain rfl : x_16 = iZ (e2 + 1) := ex_16.trans (iZ_add e2 1)
              refine va_put (D := D) (ci := 4) (v := .int (iZ (e2 + 1))) (ty := .int) (C := RX4) (T := TX4) (N := 12) hx hb hts iX4 tyX4 tyX4_ok nmX4 hown hK hP hD hS 0 rfl rfl 5 (bl rfl) (hts _ qf_X4_47) (fun _ h => h) rfl (by decide +kernel) rfl rfl (Nat.le_of_ble_eq_true rfl) dX4_readNumber_83 (fun H locs hP hD hS => ?_)
              refine lv_goto (tgt := 2) hx hb dX4_readNumber_86 rfl ?_
              exact ih1  _ _ _ _ _ (by omega) (by omega) (by omega) (by omega) (by omega) (hP.sub [0, 1, 2] rfl) (hD.sub [0, 1, 2] rfl rfl) hS (lv_sub hl [0, 1] rfl)
            ·
              have c_15 := mt (zle (x := iZ 4) (y := iZ (e2 - pl)) rfl rfl wn_4 ⟨by omega, by omega⟩).mpr c_15
              refine lv_iload_n hx hb dX4_readNumber_54 rfl (lv_at hl 0 rfl) ?_
              refine lv_bipush (v := iZ 10) hx hb dX4_readNumber_55 bip_10 ?_
              refine lv_imul hx hb dX4_readNumber_57 ?_
              refine lv_topi (fun x_18 ex_18 => ?_)
              obtain ⟨z_17, hz_17, hz_17a, hz_17b⟩ := i32_z x_18
              subst hz_17
              refine lv_aload_n hx hb dX4_readNumber_58 rfl (lv_at hl 1 rfl) ?_
              refine va_get (D := D) (ci := 4) (v := .ref tx) (C := RX4) (T := TX4) (N := 12) hx hb hts iX4 hown hK hP 0 rfl rfl 0 (bl rfl) (hts _ qf_X4_9) (fun _ h => h) rfl dX4_readNumber_59 ?_
              refine lv_aload_n hx hb dX4_readNumber_62 rfl (lv_at hl 1 rfl) ?_
              refine va_get (D := D) (ci := 4) (v := .int (iZ e2)) (C := RX4) (T := TX4) (N := 12) hx hb hts iX4 hown hK hP 0 rfl rfl 5 (bl rfl) (hts _ qf_X4_47) (fun _ h => h) rfl dX4_readNumber_63 ?_
              refine va_bald hx hb hK hP 1 0 rfl rfl (zin (e := e2) (n := 900) ⟨by omega, by omega⟩ (bl rfl)) dX4_readNumber_66 ?_
              refine lv_topi (fun x_19 ex_19 => ?_)
              obtain rfl : x_19 = iZ (gz bf e2) := ex_19.trans (gz_eq ⟨by omega, by omega⟩)
              have h_20 := gz_rg bf e2
              refine lv_iadd hx hb dX4_readNumber_67 ?_
              refine lv_topi (fun x_22 ex_22 => ?_)
              obtain ⟨z_21, hz_21, hz_21a, hz_21b⟩ := i32_z x_22
              subst hz_21
              refine lv_bipush (v := iZ 48) hx hb dX4_readNumber_68 bip_48 ?_
              refine lv_isub hx hb dX4_readNumber_70 ?_
              refine lv_topi (fun x_24 ex_24 => ?_)
              obtain ⟨z_23, hz_23, hz_23a, hz_23b⟩ := i32_z x_24
              subst hz_23
              refine lv_goto (tgt := 75) hx hb dX4_readNumber_71 rfl ?_
              refine lv_istore_n (lv' := [(1, .int (iZ z_23)), (0, .ref hr1)]) hx hb dX4_readNumber_75 rfl hl (bl rfl) rfl (fun ls hl => ?_)
              refine lv_aload_n hx hb dX4_readNumber_76 rfl (lv_at hl 1 rfl) ?_
              refine lv_dup hx hb dX4_readNumber_77 rfl ?_
              refine va_get (D := D) (ci := 4) (v := .int (iZ e2)) (C := RX4) (T := TX4) (N := 12) hx hb hts iX4 hown hK hP 0 rfl rfl 5 (bl rfl) (hts _ qf_X4_47) (fun _ h => h) rfl dX4_readNumber_78 ?_
              refine lv_iconst (v := iZ 1) hx hb dX4_readNumber_81 rfl ?_
              refine lv_iadd hx hb dX4_readNumber_82 ?_
              refine lv_topi (fun x_25 ex_25 => ?_)
              obtain rfl : x_25 = iZ (e2 + 1) := ex_25.trans (iZ_add e2 1)
              refine va_put (D := D) (ci := 4) (v := .int (iZ (e2 + 1))) (ty := .int) (C := RX4) (T := TX4) (N := 12) hx hb hts iX4 tyX4 tyX4_ok nmX4 hown hK hP hD hS 0 rfl rfl 5 (bl rfl) (hts _ qf_X4_47) (fun _ h => h) rfl (by decide +kernel) rfl rfl (Nat.le_of_ble_eq_true rfl) dX4_readNumber_83 (fun H locs hP hD hS => ?_)
              refine lv_goto (tgt := 2) hx hb dX4_readNumber_86 rfl ?_
              exact ih1  _ _ _ _ _ (by omega) (by omega) (by omega) (by omega) (by omega) (hP.sub [0, 1, 2] rfl) (hD.sub [0, 1, 2] rfl rfl) hS (lv_sub hl [0, 1] rfl)
  exact HL1 902 _ _ _ _ _ (by omega) (by omega) (by omega) (by omega) (by omega) (hP.sub [0, 1, 2] rfl) (hD.sub [0, 1, 2] rfl rfl) hS (lv_sub hl [0, 1] rfl)
set_option maxHeartbeats 4000000 in
set_option maxRecDepth 100000 in
theorem k_readWord (l : Launch) (D : va_G) (k : Nat → ClassId) (hr1 tx kw : Nat) (bf : Nat → Int32) (kwf : Nat → Int64) (tp ln pl en ki va ke fk fp : Int) (nm : Int64) (hI : RDI (fun i => [0, tp, ln, pl, en, ki, va, ke, fk, fp].getD i 0)) : WD (σ := ((Nat → Int) × Int64)) l yX4_readWord cX4_readWord 4 none 0 0 0 D k [.ref hr1] [(hr1, .inr (4, [.ref tx, .ref kw, .int (iZ tp), .int (iZ ln), .int (iZ pl), .int (iZ en), .int (iZ ki), .int (iZ va), .int (iZ ke), .long nm, .int (iZ fk), .int (iZ fp)])), (tx, .inl (k 0, 900, .inl bf)), (kw, .inl (k 2, 25, .inr (.inl kwf)))] (fun _ => none) (fun u => (u.1 1 = tp) ∧ RDI u.1) (fun u => [(hr1, .inr (4, [.ref tx, .ref kw, .int (iZ (u.1 1)), .int (iZ (u.1 2)), .int (iZ (u.1 3)), .int (iZ (u.1 4)), .int (iZ (u.1 5)), .int (iZ (u.1 6)), .int (iZ (u.1 7)), .long u.2, .int (iZ (u.1 8)), .int (iZ (u.1 9))])), (tx, .inl (k 0, 900, .inl bf)), (kw, .inl (k 2, 25, .inr (.inl kwf)))]) := by
  refine MW (by decide) (Nat.le_of_ble_eq_true rfl) (fun p e s m below meth c ls A hx hb hml hr hlocks hin hts hown hKK hP hD hS hA hl => ?_)
  have hK := hKK.1
  have hl : lv_has ls 4 [(0, .ref hr1)] := hl
  have hI1 : (0 ≤ tp ∧ tp ≤ 900) ∧ (0 ≤ ln ∧ ln ≤ 900) ∧ (0 ≤ pl ∧ pl ≤ en) ∧ (en ≤ ln) ∧ (0 ≤ ki ∧ ki ≤ 4) ∧ (-2147483648 ≤ va ∧ va < 2147483648) ∧ (-1 ≤ ke ∧ ke ≤ 24) := hI
  refine lv_aload_n hx hb dX4_readWord_0 rfl (lv_at hl 0 rfl) ?_
  refine lv_iconst (v := iZ 1) hx hb dX4_readWord_1 rfl ?_
  refine va_put (D := D) (ci := 4) (v := .int (iZ 1)) (ty := .int) (C := RX4) (T := TX4) (N := 12) hx hb hts iX4 tyX4 tyX4_ok nmX4 hown hK hP hD hS 0 rfl rfl 6 (bl rfl) (hts _ qf_X4_68) (fun _ h => h) rfl (by decide +kernel) rfl rfl (Nat.le_of_ble_eq_true rfl) dX4_readWord_2 (fun H locs hP hD hS => ?_)
  refine lv_lconst (v := 0) hx hb dX4_readWord_5 rfl ?_
  refine lv_lstore_n (lv' := [(1, .long 0), (0, .ref hr1)]) hx hb dX4_readWord_6 rfl hl (bl rfl) rfl (fun ls hl => ?_)
  have HL1 : ∀ (fu : Nat) (e2 : Int) (cd : Int64) (H : Heap) (locs : List Loc) (ls : Array Slot), (ln + 1 - e2) < (fu : Int) → en ≤ e2 → e2 ≤ ln → va_P D vwCl [(hr1, .inr (4, [.ref tx, .ref kw, .int (iZ tp), .int (iZ ln), .int (iZ pl), .int (iZ e2), .int (iZ 1), .int (iZ va), .int (iZ ke), .long nm, .int (iZ fk), .int (iZ fp)])), (tx, .inl (k 0, 900, .inl bf)), (kw, .inl (k 2, 25, .inr (.inl kwf)))] H → va_D A [(hr1, .inr (4, [.ref tx, .ref kw, .int (iZ tp), .int (iZ ln), .int (iZ pl), .int (iZ e2), .int (iZ 1), .int (iZ va), .int (iZ ke), .long nm, .int (iZ fk), .int (iZ fp)])), (tx, .inl (k 0, 900, .inl bf)), (kw, .inl (k 2, 25, .inr (.inl kwf)))] → va_S A s.heap H locs → lv_has ls 4 [(1, .long cd), (0, .ref hr1)] → W p l e (rj 0 0 0) s m [.ref hr1].toArray below meth c H locs 0 0 (MQ below (QW (σ := ((Nat → Int) × Int64)) (fun _ => none) (fun u => (u.1 1 = tp) ∧ RDI u.1) (fun u => [(hr1, .inr (4, [.ref tx, .ref kw, .int (iZ (u.1 1)), .int (iZ (u.1 2)), .int (iZ (u.1 3)), .int (iZ (u.1 4)), .int (iZ (u.1 5)), .int (iZ (u.1 6)), .int (iZ (u.1 7)), .long u.2, .int (iZ (u.1 8)), .int (iZ (u.1 9))])), (tx, .inl (k 0, 900, .inl bf)), (kw, .inl (k 2, 25, .inr (.inl kwf)))]) D A) [.ref hr1].toArray s 0 0 A) (F0 m 7 ls []) := by
    intro fu
    induction fu with
    | zero => intro e2 cd H locs ls hμ1 he1 he2 hP hD hS hl; exact absurd hμ1 (by omega)
    | succ fu ih1 =>
      intro e2 cd H locs ls hμ1 he1 he2 hP hD hS hl
      refine lv_aload_n hx hb dX4_readWord_7 rfl (lv_at hl 1 rfl) ?_
      refine va_get (D := D) (ci := 4) (v := .int (iZ e2)) (C := RX4) (T := TX4) (N := 12) hx hb hts iX4 hown hK hP 0 rfl rfl 5 (bl rfl) (hts _ qf_X4_47) (fun _ h => h) rfl dX4_readWord_8 ?_
      refine lv_aload_n hx hb dX4_readWord_11 rfl (lv_at hl 1 rfl) ?_
      refine va_get (D := D) (ci := 4) (v := .int (iZ ln)) (C := RX4) (T := TX4) (N := 12) hx hb hts iX4 hown hK hP 0 rfl rfl 3 (bl rfl) (hts _ qf_X4_45) (fun _ h => h) rfl dX4_readWord_12 ?_
      refine lv_icmp_ge (tgt := 102) hx hb dX4_readWord_15 rfl (fun c_1 => ?_) (fun c_1 => ?_)
      ·
        have c_1 := (zle (x := iZ ln) (y := iZ e2) rfl rfl ⟨by omega, by omega⟩ ⟨by omega, by omega⟩).mp c_1
        refine lv_aload_n hx hb dX4_readWord_102 rfl (lv_at hl 1 rfl) ?_
        refine lv_lload_n hx hb dX4_readWord_103 rfl (lv_at hl 0 rfl) ?_
        refine va_put (D := D) (ci := 4) (v := .long cd) (ty := .long) (C := RX4) (T := TX4) (N := 12) hx hb hts iX4 tyX4 tyX4_ok nmX4 hown hK hP hD hS 0 rfl rfl 9 (bl rfl) (hts _ qf_X4_61) (fun _ h => h) rfl (by decide +kernel) rfl rfl (Nat.le_of_ble_eq_true rfl) dX4_readWord_104 (fun H locs hP hD hS => ?_)
        refine lv_iconst (v := iZ 0) hx hb dX4_readWord_107 rfl ?_
        refine lv_istore_n (lv' := [(3, .int (iZ 0)), (1, .long cd), (0, .ref hr1)]) hx hb dX4_readWord_108 rfl hl (bl rfl) rfl (fun ls hl => ?_)
        have HL2 : ∀ (fu : Nat) (j k2 : Int) (H : Heap) (locs : List Loc) (ls : Array Slot), (26 - j) < (fu : Int) → 0 ≤ j → j ≤ 25 → -1 ≤ k2 → k2 ≤ 24 → va_P D vwCl [(hr1, .inr (4, [.ref tx, .ref kw, .int (iZ tp), .int (iZ ln), .int (iZ pl), .int (iZ e2), .int (iZ 1), .int (iZ va), .int (iZ k2), .long cd, .int (iZ fk), .int (iZ fp)])), (tx, .inl (k 0, 900, .inl bf)), (kw, .inl (k 2, 25, .inr (.inl kwf)))] H → va_D A [(hr1, .inr (4, [.ref tx, .ref kw, .int (iZ tp), .int (iZ ln), .int (iZ pl), .int (iZ e2), .int (iZ 1), .int (iZ va), .int (iZ k2), .long cd, .int (iZ fk), .int (iZ fp)])), (tx, .inl (k 0, 900, .inl bf)), (kw, .inl (k 2, 25, .inr (.inl kwf)))] → va_S A s.heap H locs → lv_has ls 4 [(3, .int (iZ j)), (1, .long cd), (0, .ref hr1)] → W p l e (rj 0 0 0) s m [.ref hr1].toArray below meth c H locs 0 0 (MQ below (QW (σ := ((Nat → Int) × Int64)) (fun _ => none) (fun u => (u.1 1 = tp) ∧ RDI u.1) (fun u => [(hr1, .inr (4, [.ref tx, .ref kw, .int (iZ (u.1 1)), .int (iZ (u.1 2)), .int (iZ (u.1 3)), .int (iZ (u.1 4)), .int (iZ (u.1 5)), .int (iZ (u.1 6)), .int (iZ (u.1 7)), .long u.2, .int (iZ (u.1 8)), .int (iZ (u.1 9))])), (tx, .inl (k 0, 900, .inl bf)), (kw, .inl (k 2, 25, .inr (.inl kwf)))]) D A) [.ref hr1].toArray s 0 0 A) (F0 m 109 ls []) := by
          intro fu
          induction fu with
          | zero => intro j k2 H locs ls hμ2 hj1 hj2 hk1 hk2 hP hD hS hl; exact absurd hμ2 (by omega)
          | succ fu ih2 =>
            intro j k2 H locs ls hμ2 hj1 hj2 hk1 hk2 hP hD hS hl
            refine lv_iload_n hx hb dX4_readWord_109 rfl (lv_at hl 0 rfl) ?_
            refine lv_bipush (v := iZ 25) hx hb dX4_readWord_110 bip_25 ?_
            refine lv_icmp_ge (tgt := 137) hx hb dX4_readWord_112 rfl (fun c_2 => ?_) (fun c_2 => ?_)
            ·
              have c_2 := (zle (x := iZ 25) (y := iZ j) rfl rfl wn_25 ⟨by omega, by omega⟩).mp c_2
              exact EWv hx hb hr hlocks hS (fun i => [0, tp, ln, pl, e2, 1, va, k2, fk, fp].getD i 0, cd) rfl ⟨show tp = tp from (by omega), (show RDI _ from (show (0 ≤ tp ∧ tp ≤ 900) ∧ (0 ≤ ln ∧ ln ≤ 900) ∧ (0 ≤ pl ∧ pl ≤ e2) ∧ (e2 ≤ ln) ∧ (0 ≤ 1 ∧ 1 ≤ 4) ∧ (-2147483648 ≤ va ∧ va < 2147483648) ∧ (-1 ≤ k2 ∧ k2 ≤ 24) from ⟨⟨by omega, by omega⟩, ⟨by omega, by omega⟩, ⟨by omega, by omega⟩, by omega, ⟨by omega, by omega⟩, ⟨by omega, by omega⟩, by omega, by omega⟩))⟩ (hP.sub [0, 1, 2] rfl) (hD.sub [0, 1, 2] rfl rfl) dX4_readWord_137
            ·
              have c_2 := mt (zle (x := iZ 25) (y := iZ j) rfl rfl wn_25 ⟨by omega, by omega⟩).mpr c_2
              refine lv_aload_n hx hb dX4_readWord_115 rfl (lv_at hl 2 rfl) ?_
              refine va_get (D := D) (ci := 4) (v := .ref kw) (C := RX4) (T := TX4) (N := 12) hx hb hts iX4 hown hK hP 0 rfl rfl 1 (bl rfl) (hts _ qf_X4_15) (fun _ h => h) rfl dX4_readWord_116 ?_
              refine lv_iload_n hx hb dX4_readWord_119 rfl (lv_at hl 0 rfl) ?_
              refine va_lald hx hb hK hP 2 2 rfl rfl (zin (e := j) (n := 25) ⟨by omega, by omega⟩ (bl rfl)) dX4_readWord_120 ?_
              refine lv_topl (fun y_3 ey_3 => ?_)
              refine lv_lload_n hx hb dX4_readWord_121 rfl (lv_at hl 1 rfl) ?_
              refine W.lcmp hx hb dX4_readWord_122 ?_
              refine lv_if_ne (tgt := 131) hx hb dX4_readWord_123 rfl (fun c_4 => ?_) (fun c_4 => ?_)
              ·
                refine lv_iinc (v := iZ (j + 1)) (lv' := [(3, .int (iZ (j + 1))), (1, .long cd), (0, .ref hr1)]) hx hb dX4_readWord_131 hl (k := 0) rfl (iZ_add j 1) (by decide) rfl (fun ls hl => ?_)
                refine lv_goto (tgt := 109) hx hb dX4_readWord_134 rfl ?_
                exact ih2  _ _ _ _ _ (by omega) (by omega) (by omega) (by omega) (by omega) (hP.sub [0, 1, 2] rfl) (hD.sub [0, 1, 2] rfl rfl) hS (lv_sub hl [0, 1, 2] rfl)
              ·
                refine lv_aload_n hx hb dX4_readWord_126 rfl (lv_at hl 2 rfl) ?_
                refine lv_iload_n hx hb dX4_readWord_127 rfl (lv_at hl 0 rfl) ?_
                refine va_put (D := D) (ci := 4) (v := .int (iZ j)) (ty := .int) (C := RX4) (T := TX4) (N := 12) hx hb hts iX4 tyX4 tyX4_ok nmX4 hown hK hP hD hS 0 rfl rfl 8 (bl rfl) (hts _ qf_X4_56) (fun _ h => h) rfl (by decide +kernel) rfl rfl (Nat.le_of_ble_eq_true rfl) dX4_readWord_128 (fun H locs hP hD hS => ?_)
                refine lv_iinc (v := iZ (j + 1)) (lv' := [(3, .int (iZ (j + 1))), (1, .long cd), (0, .ref hr1)]) hx hb dX4_readWord_131 hl (k := 0) rfl (iZ_add j 1) (by decide) rfl (fun ls hl => ?_)
                refine lv_goto (tgt := 109) hx hb dX4_readWord_134 rfl ?_
                exact ih2  _ _ _ _ _ (by omega) (by omega) (by omega) (by omega) (by omega) (hP.sub [0, 1, 2] rfl) (hD.sub [0, 1, 2] rfl rfl) hS (lv_sub hl [0, 1, 2] rfl)
        exact HL2 27 _ _ _ _ _ (by omega) (by omega) (by omega) (by omega) (by omega) (hP.sub [0, 1, 2] rfl) (hD.sub [0, 1, 2] rfl rfl) hS (lv_sub hl [0, 1, 2] rfl)
      ·
        have c_1 := mt (zle (x := iZ ln) (y := iZ e2) rfl rfl ⟨by omega, by omega⟩ ⟨by omega, by omega⟩).mpr c_1
        refine lv_aload_n hx hb dX4_readWord_18 rfl (lv_at hl 1 rfl) ?_
        refine va_get (D := D) (ci := 4) (v := .ref tx) (C := RX4) (T := TX4) (N := 12) hx hb hts iX4 hown hK hP 0 rfl rfl 0 (bl rfl) (hts _ qf_X4_9) (fun _ h => h) rfl dX4_readWord_19 ?_
        refine lv_aload_n hx hb dX4_readWord_22 rfl (lv_at hl 1 rfl) ?_
        refine va_get (D := D) (ci := 4) (v := .int (iZ e2)) (C := RX4) (T := TX4) (N := 12) hx hb hts iX4 hown hK hP 0 rfl rfl 5 (bl rfl) (hts _ qf_X4_47) (fun _ h => h) rfl dX4_readWord_23 ?_
        refine va_bald hx hb hK hP 1 0 rfl rfl (zin (e := e2) (n := 900) ⟨by omega, by omega⟩ (bl rfl)) dX4_readWord_26 ?_
        refine lv_topi (fun x_5 ex_5 => ?_)
        obtain rfl : x_5 = iZ (gz bf e2) := ex_5.trans (gz_eq ⟨by omega, by omega⟩)
        have h_6 := gz_rg bf e2
        refine lv_bipush (v := iZ 97) hx hb dX4_readWord_27 bip_97 ?_
        refine lv_icmp_lt (tgt := 102) hx hb dX4_readWord_29 rfl (fun c_7 => ?_) (fun c_7 => ?_)
        ·
          have c_7 := (zlt (x := iZ (gz bf e2)) (y := iZ 97) rfl rfl (gz_rg bf e2) wn_97).mp c_7
          refine lv_aload_n hx hb dX4_readWord_102 rfl (lv_at hl 1 rfl) ?_
          refine lv_lload_n hx hb dX4_readWord_103 rfl (lv_at hl 0 rfl) ?_
          refine va_put (D := D) (ci := 4) (v := .long cd) (ty := .long) (C := RX4) (T := TX4) (N := 12) hx hb hts iX4 tyX4 tyX4_ok nmX4 hown hK hP hD hS 0 rfl rfl 9 (bl rfl) (hts _ qf_X4_61) (fun _ h => h) rfl (by decide +kernel) rfl rfl (Nat.le_of_ble_eq_true rfl) dX4_readWord_104 (fun H locs hP hD hS => ?_)
          refine lv_iconst (v := iZ 0) hx hb dX4_readWord_107 rfl ?_
          refine lv_istore_n (lv' := [(3, .int (iZ 0)), (1, .long cd), (0, .ref hr1)]) hx hb dX4_readWord_108 rfl hl (bl rfl) rfl (fun ls hl => ?_)
          have HL2 : ∀ (fu : Nat) (j k2 : Int) (H : Heap) (locs : List Loc) (ls : Array Slot), (26 - j) < (fu : Int) → 0 ≤ j → j ≤ 25 → -1 ≤ k2 → k2 ≤ 24 → va_P D vwCl [(hr1, .inr (4, [.ref tx, .ref kw, .int (iZ tp), .int (iZ ln), .int (iZ pl), .int (iZ e2), .int (iZ 1), .int (iZ va), .int (iZ k2), .long cd, .int (iZ fk), .int (iZ fp)])), (tx, .inl (k 0, 900, .inl bf)), (kw, .inl (k 2, 25, .inr (.inl kwf)))] H → va_D A [(hr1, .inr (4, [.ref tx, .ref kw, .int (iZ tp), .int (iZ ln), .int (iZ pl), .int (iZ e2), .int (iZ 1), .int (iZ va), .int (iZ k2), .long cd, .int (iZ fk), .int (iZ fp)])), (tx, .inl (k 0, 900, .inl bf)), (kw, .inl (k 2, 25, .inr (.inl kwf)))] → va_S A s.heap H locs → lv_has ls 4 [(3, .int (iZ j)), (1, .long cd), (0, .ref hr1)] → W p l e (rj 0 0 0) s m [.ref hr1].toArray below meth c H locs 0 0 (MQ below (QW (σ := ((Nat → Int) × Int64)) (fun _ => none) (fun u => (u.1 1 = tp) ∧ RDI u.1) (fun u => [(hr1, .inr (4, [.ref tx, .ref kw, .int (iZ (u.1 1)), .int (iZ (u.1 2)), .int (iZ (u.1 3)), .int (iZ (u.1 4)), .int (iZ (u.1 5)), .int (iZ (u.1 6)), .int (iZ (u.1 7)), .long u.2, .int (iZ (u.1 8)), .int (iZ (u.1 9))])), (tx, .inl (k 0, 900, .inl bf)), (kw, .inl (k 2, 25, .inr (.inl kwf)))]) D A) [.ref hr1].toArray s 0 0 A) (F0 m 109 ls []) := by
            intro fu
            induction fu with
            | zero => intro j k2 H locs ls hμ2 hj1 hj2 hk1 hk2 hP hD hS hl; exact absurd hμ2 (by omega)
            | succ fu ih2 =>
              intro j k2 H locs ls hμ2 hj1 hj2 hk1 hk2 hP hD hS hl
              refine lv_iload_n hx hb dX4_readWord_109 rfl (lv_at hl 0 rfl) ?_
              refine lv_bipush (v := iZ 25) hx hb dX4_readWord_110 bip_25 ?_
              refine lv_icmp_ge (tgt := 137) hx hb dX4_readWord_112 rfl (fun c_8 => ?_) (fun c_8 => ?_)
              ·
                have c_8 := (zle (x := iZ 25) (y := iZ j) rfl rfl wn_25 ⟨by omega, by omega⟩).mp c_8
                exact EWv hx hb hr hlocks hS (fun i => [0, tp, ln, pl, e2, 1, va, k2, fk, fp].getD i 0, cd) rfl ⟨show tp = tp from (by omega), (show RDI _ from (show (0 ≤ tp ∧ tp ≤ 900) ∧ (0 ≤ ln ∧ ln ≤ 900) ∧ (0 ≤ pl ∧ pl ≤ e2) ∧ (e2 ≤ ln) ∧ (0 ≤ 1 ∧ 1 ≤ 4) ∧ (-2147483648 ≤ va ∧ va < 2147483648) ∧ (-1 ≤ k2 ∧ k2 ≤ 24) from ⟨⟨by omega, by omega⟩, ⟨by omega, by omega⟩, ⟨by omega, by omega⟩, by omega, ⟨by omega, by omega⟩, ⟨by omega, by omega⟩, by omega, by omega⟩))⟩ (hP.sub [0, 1, 2] rfl) (hD.sub [0, 1, 2] rfl rfl) dX4_readWord_137
              ·
                have c_8 := mt (zle (x := iZ 25) (y := iZ j) rfl rfl wn_25 ⟨by omega, by omega⟩).mpr c_8
                refine lv_aload_n hx hb dX4_readWord_115 rfl (lv_at hl 2 rfl) ?_
                refine va_get (D := D) (ci := 4) (v := .ref kw) (C := RX4) (T := TX4) (N := 12) hx hb hts iX4 hown hK hP 0 rfl rfl 1 (bl rfl) (hts _ qf_X4_15) (fun _ h => h) rfl dX4_readWord_116 ?_
                refine lv_iload_n hx hb dX4_readWord_119 rfl (lv_at hl 0 rfl) ?_
                refine va_lald hx hb hK hP 2 2 rfl rfl (zin (e := j) (n := 25) ⟨by omega, by omega⟩ (bl rfl)) dX4_readWord_120 ?_
                refine lv_topl (fun y_9 ey_9 => ?_)
                refine lv_lload_n hx hb dX4_readWord_121 rfl (lv_at hl 1 rfl) ?_
                refine W.lcmp hx hb dX4_readWord_122 ?_
                refine lv_if_ne (tgt := 131) hx hb dX4_readWord_123 rfl (fun c_10 => ?_) (fun c_10 => ?_)
                ·
                  refine lv_iinc (v := iZ (j + 1)) (lv' := [(3, .int (iZ (j + 1))), (1, .long cd), (0, .ref hr1)]) hx hb dX4_readWord_131 hl (k := 0) rfl (iZ_add j 1) (by decide) rfl (fun ls hl => ?_)
                  refine lv_goto (tgt := 109) hx hb dX4_readWord_134 rfl ?_
                  exact ih2  _ _ _ _ _ (by omega) (by omega) (by omega) (by omega) (by omega) (hP.sub [0, 1, 2] rfl) (hD.sub [0, 1, 2] rfl rfl) hS (lv_sub hl [0, 1, 2] rfl)
                ·
                  refine lv_aload_n hx hb dX4_readWord_126 rfl (lv_at hl 2 rfl) ?_
                  refine lv_iload_n hx hb dX4_readWord_127 rfl (lv_at hl 0 rfl) ?_
                  refine va_put (D := D) (ci := 4) (v := .int (iZ j)) (ty := .int) (C := RX4) (T := TX4) (N := 12) hx hb hts iX4 tyX4 tyX4_ok nmX4 hown hK hP hD hS 0 rfl rfl 8 (bl rfl) (hts _ qf_X4_56) (fun _ h => h) rfl (by decide +kernel) rfl rfl (Nat.le_of_ble_eq_true rfl) dX4_readWord_128 (fun H locs hP hD hS => ?_)
                  refine lv_iinc (v := iZ (j + 1)) (lv' := [(3, .int (iZ (j + 1))), (1, .long cd), (0, .ref hr1)]) hx hb dX4_readWord_131 hl (k := 0) rfl (iZ_add j 1) (by decide) rfl (fun ls hl => ?_)
                  refine lv_goto (tgt := 109) hx hb dX4_readWord_134 rfl ?_
                  exact ih2  _ _ _ _ _ (by omega) (by omega) (by omega) (by omega) (by omega) (hP.sub [0, 1, 2] rfl) (hD.sub [0, 1, 2] rfl rfl) hS (lv_sub hl [0, 1, 2] rfl)
          exact HL2 27 _ _ _ _ _ (by omega) (by omega) (by omega) (by omega) (by omega) (hP.sub [0, 1, 2] rfl) (hD.sub [0, 1, 2] rfl rfl) hS (lv_sub hl [0, 1, 2] rfl)
        ·
          have c_7 := mt (zlt (x := iZ (gz bf e2)) (y := iZ 97) rfl rfl (gz_rg bf e2) wn_97).mpr c_7
          refine lv_aload_n hx hb dX4_readWord_32 rfl (lv_at hl 1 rfl) ?_
          refine va_get (D := D) (ci := 4) (v := .ref tx) (C := RX4) (T := TX4) (N := 12) hx hb hts iX4 hown hK hP 0 rfl rfl 0 (bl rfl) (hts _ qf_X4_9) (fun _ h => h) rfl dX4_readWord_33 ?_
          refine lv_aload_n hx hb dX4_readWord_36 rfl (lv_at hl 1 rfl) ?_
          refine va_get (D := D) (ci := 4) (v := .int (iZ e2)) (C := RX4) (T := TX4) (N := 12) hx hb hts iX4 hown hK hP 0 rfl rfl 5 (bl rfl) (hts _ qf_X4_47) (fun _ h => h) rfl dX4_readWord_37 ?_
          refine va_bald hx hb hK hP 1 0 rfl rfl (zin (e := e2) (n := 900) ⟨by omega, by omega⟩ (bl rfl)) dX4_readWord_40 ?_
          refine lv_topi (fun x_11 ex_11 => ?_)
          obtain rfl : x_11 = iZ (gz bf e2) := ex_11.trans (gz_eq ⟨by omega, by omega⟩)
          have h_12 := gz_rg bf e2
          refine lv_bipush (v := iZ 122) hx hb dX4_readWord_41 bip_122 ?_
          refine lv_icmp_gt (tgt := 102) hx hb dX4_readWord_43 rfl (fun c_13 => ?_) (fun c_13 => ?_)
          ·
            have c_13 := (zlt (x := iZ 122) (y := iZ (gz bf e2)) rfl rfl wn_122 (gz_rg bf e2)).mp c_13
            refine lv_aload_n hx hb dX4_readWord_102 rfl (lv_at hl 1 rfl) ?_
            refine lv_lload_n hx hb dX4_readWord_103 rfl (lv_at hl 0 rfl) ?_
            refine va_put (D := D) (ci := 4) (v := .long cd) (ty := .long) (C := RX4) (T := TX4) (N := 12) hx hb hts iX4 tyX4 tyX4_ok nmX4 hown hK hP hD hS 0 rfl rfl 9 (bl rfl) (hts _ qf_X4_61) (fun _ h => h) rfl (by decide +kernel) rfl rfl (Nat.le_of_ble_eq_true rfl) dX4_readWord_104 (fun H locs hP hD hS => ?_)
            refine lv_iconst (v := iZ 0) hx hb dX4_readWord_107 rfl ?_
            refine lv_istore_n (lv' := [(3, .int (iZ 0)), (1, .long cd), (0, .ref hr1)]) hx hb dX4_readWord_108 rfl hl (bl rfl) rfl (fun ls hl => ?_)
            have HL2 : ∀ (fu : Nat) (j k2 : Int) (H : Heap) (locs : List Loc) (ls : Array Slot), (26 - j) < (fu : Int) → 0 ≤ j → j ≤ 25 → -1 ≤ k2 → k2 ≤ 24 → va_P D vwCl [(hr1, .inr (4, [.ref tx, .ref kw, .int (iZ tp), .int (iZ ln), .int (iZ pl), .int (iZ e2), .int (iZ 1), .int (iZ va), .int (iZ k2), .long cd, .int (iZ fk), .int (iZ fp)])), (tx, .inl (k 0, 900, .inl bf)), (kw, .inl (k 2, 25, .inr (.inl kwf)))] H → va_D A [(hr1, .inr (4, [.ref tx, .ref kw, .int (iZ tp), .int (iZ ln), .int (iZ pl), .int (iZ e2), .int (iZ 1), .int (iZ va), .int (iZ k2), .long cd, .int (iZ fk), .int (iZ fp)])), (tx, .inl (k 0, 900, .inl bf)), (kw, .inl (k 2, 25, .inr (.inl kwf)))] → va_S A s.heap H locs → lv_has ls 4 [(3, .int (iZ j)), (1, .long cd), (0, .ref hr1)] → W p l e (rj 0 0 0) s m [.ref hr1].toArray below meth c H locs 0 0 (MQ below (QW (σ := ((Nat → Int) × Int64)) (fun _ => none) (fun u => (u.1 1 = tp) ∧ RDI u.1) (fun u => [(hr1, .inr (4, [.ref tx, .ref kw, .int (iZ (u.1 1)), .int (iZ (u.1 2)), .int (iZ (u.1 3)), .int (iZ (u.1 4)), .int (iZ (u.1 5)), .int (iZ (u.1 6)), .int (iZ (u.1 7)), .long u.2, .int (iZ (u.1 8)), .int (iZ (u.1 9))])), (tx, .inl (k 0, 900, .inl bf)), (kw, .inl (k 2, 25, .inr (.inl kwf)))]) D A) [.ref hr1].toArray s 0 0 A) (F0 m 109 ls []) := by
              intro fu
              induction fu with
              | zero => intro j k2 H locs ls hμ2 hj1 hj2 hk1 hk2 hP hD hS hl; exact absurd hμ2 (by omega)
              | succ fu ih2 =>
                intro j k2 H locs ls hμ2 hj1 hj2 hk1 hk2 hP hD hS hl
                refine lv_iload_n hx hb dX4_readWord_109 rfl (lv_at hl 0 rfl) ?_
                refine lv_bipush (v := iZ 25) hx hb dX4_readWord_110 bip_25 ?_
                refine lv_icmp_ge (tgt := 137) hx hb dX4_readWord_112 rfl (fun c_14 => ?_) (fun c_14 => ?_)
                ·
                  have c_14 := (zle (x := iZ 25) (y := iZ j) rfl rfl wn_25 ⟨by omega, by omega⟩).mp c_14
                  exact EWv hx hb hr hlocks hS (fun i => [0, tp, ln, pl, e2, 1, va, k2, fk, fp].getD i 0, cd) rfl ⟨show tp = tp from (by omega), (show RDI _ from (show (0 ≤ tp ∧ tp ≤ 900) ∧ (0 ≤ ln ∧ ln ≤ 900) ∧ (0 ≤ pl ∧ pl ≤ e2) ∧ (e2 ≤ ln) ∧ (0 ≤ 1 ∧ 1 ≤ 4) ∧ (-2147483648 ≤ va ∧ va < 2147483648) ∧ (-1 ≤ k2 ∧ k2 ≤ 24) from ⟨⟨by omega, by omega⟩, ⟨by omega, by omega⟩, ⟨by omega, by omega⟩, by omega, ⟨by omega, by omega⟩, ⟨by omega, by omega⟩, by omega, by omega⟩))⟩ (hP.sub [0, 1, 2] rfl) (hD.sub [0, 1, 2] rfl rfl) dX4_readWord_137
                ·
                  have c_14 := mt (zle (x := iZ 25) (y := iZ j) rfl rfl wn_25 ⟨by omega, by omega⟩).mpr c_14
                  refine lv_aload_n hx hb dX4_readWord_115 rfl (lv_at hl 2 rfl) ?_
                  refine va_get (D := D) (ci := 4) (v := .ref kw) (C := RX4) (T := TX4) (N := 12) hx hb hts iX4 hown hK hP 0 rfl rfl 1 (bl rfl) (hts _ qf_X4_15) (fun _ h => h) rfl dX4_readWord_116 ?_
                  refine lv_iload_n hx hb dX4_readWord_119 rfl (lv_at hl 0 rfl) ?_
                  refine va_lald hx hb hK hP 2 2 rfl rfl (zin (e := j) (n := 25) ⟨by omega, by omega⟩ (bl rfl)) dX4_readWord_120 ?_
                  refine lv_topl (fun y_15 ey_15 => ?_)
                  refine lv_lload_n hx hb dX4_readWord_121 rfl (lv_at hl 1 rfl) ?_
                  refine W.lcmp hx hb dX4_readWord_122 ?_
                  refine lv_if_ne (tgt := 131) hx hb dX4_readWord_123 rfl (fun c_16 => ?_) (fun c_16 => ?_)
                  ·
                    refine lv_iinc (v := iZ (j + 1)) (lv' := [(3, .int (iZ (j + 1))), (1, .long cd), (0, .ref hr1)]) hx hb dX4_readWord_131 hl (k := 0) rfl (iZ_add j 1) (by decide) rfl (fun ls hl => ?_)
                    refine lv_goto (tgt := 109) hx hb dX4_readWord_134 rfl ?_
                    exact ih2  _ _ _ _ _ (by omega) (by omega) (by omega) (by omega) (by omega) (hP.sub [0, 1, 2] rfl) (hD.sub [0, 1, 2] rfl rfl) hS (lv_sub hl [0, 1, 2] rfl)
                  ·
                    refine lv_aload_n hx hb dX4_readWord_126 rfl (lv_at hl 2 rfl) ?_
                    refine lv_iload_n hx hb dX4_readWord_127 rfl (lv_at hl 0 rfl) ?_
                    refine va_put (D := D) (ci := 4) (v := .int (iZ j)) (ty := .int) (C := RX4) (T := TX4) (N := 12) hx hb hts iX4 tyX4 tyX4_ok nmX4 hown hK hP hD hS 0 rfl rfl 8 (bl rfl) (hts _ qf_X4_56) (fun _ h => h) rfl (by decide +kernel) rfl rfl (Nat.le_of_ble_eq_true rfl) dX4_readWord_128 (fun H locs hP hD hS => ?_)
                    refine lv_iinc (v := iZ (j + 1)) (lv' := [(3, .int (iZ (j + 1))), (1, .long cd), (0, .ref hr1)]) hx hb dX4_readWord_131 hl (k := 0) rfl (iZ_add j 1) (by decide) rfl (fun ls hl => ?_)
                    refine lv_goto (tgt := 109) hx hb dX4_readWord_134 rfl ?_
                    exact ih2  _ _ _ _ _ (by omega) (by omega) (by omega) (by omega) (by omega) (hP.sub [0, 1, 2] rfl) (hD.sub [0, 1, 2] rfl rfl) hS (lv_sub hl [0, 1, 2] rfl)
            exact HL2 27 _ _ _ _ _ (by omega) (by omega) (by omega) (by omega) (by omega) (hP.sub [0, 1, 2] rfl) (hD.sub [0, 1, 2] rfl rfl) hS (lv_sub hl [0, 1, 2] rfl)
          ·
            have c_13 := mt (zlt (x := iZ 122) (y := iZ (gz bf e2)) rfl rfl wn_122 (gz_rg bf e2)).mpr c_13
            refine lv_aload_n hx hb dX4_readWord_46 rfl (lv_at hl 1 rfl) ?_
            refine va_get (D := D) (ci := 4) (v := .int (iZ e2)) (C := RX4) (T := TX4) (N := 12) hx hb hts iX4 hown hK hP 0 rfl rfl 5 (bl rfl) (hts _ qf_X4_47) (fun _ h => h) rfl dX4_readWord_47 ?_
            refine lv_aload_n hx hb dX4_readWord_50 rfl (lv_at hl 1 rfl) ?_
            refine va_get (D := D) (ci := 4) (v := .int (iZ pl)) (C := RX4) (T := TX4) (N := 12) hx hb hts iX4 hown hK hP 0 rfl rfl 4 (bl rfl) (hts _ qf_X4_53) (fun _ h => h) rfl dX4_readWord_51 ?_
            refine lv_isub hx hb dX4_readWord_54 ?_
            refine lv_topi (fun x_17 ex_17 => ?_)
            obtain rfl : x_17 = iZ (e2 - pl) := ex_17.trans (iZ_sub e2 pl)
            refine lv_bipush (v := iZ 8) hx hb dX4_readWord_55 bip_8 ?_
            refine lv_icmp_ge (tgt := 85) hx hb dX4_readWord_57 rfl (fun c_18 => ?_) (fun c_18 => ?_)
            ·
              have c_18 := (zle (x := iZ 8) (y := iZ (e2 - pl)) rfl rfl wn_8 ⟨by omega, by omega⟩).mp c_18
              refine lv_ldc2 (own := RX4) (v := (-1)) hx hb hown (hts _ qk_X4_59) dX4_readWord_85 ?_
              refine lv_lstore_n (lv' := [(1, .long (-1)), (0, .ref hr1)]) hx hb dX4_readWord_88 rfl hl (bl rfl) rfl (fun ls hl => ?_)
              refine lv_aload_n hx hb dX4_readWord_89 rfl (lv_at hl 1 rfl) ?_
              refine lv_dup hx hb dX4_readWord_90 rfl ?_
              refine va_get (D := D) (ci := 4) (v := .int (iZ e2)) (C := RX4) (T := TX4) (N := 12) hx hb hts iX4 hown hK hP 0 rfl rfl 5 (bl rfl) (hts _ qf_X4_47) (fun _ h => h) rfl dX4_readWord_91 ?_
              refine lv_iconst (v := iZ 1) hx hb dX4_readWord_94 rfl ?_
              refine lv_iadd hx hb dX4_readWord_95 ?_
              refine lv_topi (fun x_19 ex_19 => ?_)
              obtain rfl : x_19 = iZ (e2 + 1) := ex_19.trans (iZ_add e2 1)
              refine va_put (D := D) (ci := 4) (v := .int (iZ (e2 + 1))) (ty := .int) (C := RX4) (T := TX4) (N := 12) hx hb hts iX4 tyX4 tyX4_ok nmX4 hown hK hP hD hS 0 rfl rfl 5 (bl rfl) (hts _ qf_X4_47) (fun _ h => h) rfl (by decide +kernel) rfl rfl (Nat.le_of_ble_eq_true rfl) dX4_readWord_96 (fun H locs hP hD hS => ?_)
              refine lv_goto (tgt := 7) hx hb dX4_readWord_99 rfl ?_
              exact ih1  _ _ _ _ _ (by omega) (by omega) (by omega) (hP.sub [0, 1, 2] rfl) (hD.sub [0, 1, 2] rfl rfl) hS (lv_sub hl [0, 1] rfl)
            ·
              have c_18 := mt (zle (x := iZ 8) (y := iZ (e2 - pl)) rfl rfl wn_8 ⟨by omega, by omega⟩).mpr c_18
              refine lv_lload_n hx hb dX4_readWord_60 rfl (lv_at hl 0 rfl) ?_
              refine lv_ldc2 (own := RX4) (v := 32) hx hb hown (hts _ qk_X4_38) dX4_readWord_61 ?_
              refine lv_lmul hx hb dX4_readWord_64 ?_
              refine lv_topl (fun y_20 ey_20 => ?_)
              refine lv_aload_n hx hb dX4_readWord_65 rfl (lv_at hl 1 rfl) ?_
              refine va_get (D := D) (ci := 4) (v := .ref tx) (C := RX4) (T := TX4) (N := 12) hx hb hts iX4 hown hK hP 0 rfl rfl 0 (bl rfl) (hts _ qf_X4_9) (fun _ h => h) rfl dX4_readWord_66 ?_
              refine lv_aload_n hx hb dX4_readWord_69 rfl (lv_at hl 1 rfl) ?_
              refine va_get (D := D) (ci := 4) (v := .int (iZ e2)) (C := RX4) (T := TX4) (N := 12) hx hb hts iX4 hown hK hP 0 rfl rfl 5 (bl rfl) (hts _ qf_X4_47) (fun _ h => h) rfl dX4_readWord_70 ?_
              refine va_bald hx hb hK hP 1 0 rfl rfl (zin (e := e2) (n := 900) ⟨by omega, by omega⟩ (bl rfl)) dX4_readWord_73 ?_
              refine lv_topi (fun x_21 ex_21 => ?_)
              obtain rfl : x_21 = iZ (gz bf e2) := ex_21.trans (gz_eq ⟨by omega, by omega⟩)
              have h_22 := gz_rg bf e2
              refine lv_i2l (v := (iZ (gz bf e2)).toInt64) hx hb dX4_readWord_74 rfl ?_
              refine lv_ladd hx hb dX4_readWord_75 ?_
              refine lv_topl (fun y_23 ey_23 => ?_)
              refine lv_ldc2 (own := RX4) (v := 97) hx hb hown (hts _ qk_X4_40) dX4_readWord_76 ?_
              refine lv_lsub hx hb dX4_readWord_79 ?_
              refine lv_topl (fun y_24 ey_24 => ?_)
              refine lv_lconst (v := 1) hx hb dX4_readWord_80 rfl ?_
              refine lv_ladd hx hb dX4_readWord_81 ?_
              refine lv_topl (fun y_25 ey_25 => ?_)
              refine lv_goto (tgt := 88) hx hb dX4_readWord_82 rfl ?_
              refine lv_lstore_n (lv' := [(1, .long y_25), (0, .ref hr1)]) hx hb dX4_readWord_88 rfl hl (bl rfl) rfl (fun ls hl => ?_)
              refine lv_aload_n hx hb dX4_readWord_89 rfl (lv_at hl 1 rfl) ?_
              refine lv_dup hx hb dX4_readWord_90 rfl ?_
              refine va_get (D := D) (ci := 4) (v := .int (iZ e2)) (C := RX4) (T := TX4) (N := 12) hx hb hts iX4 hown hK hP 0 rfl rfl 5 (bl rfl) (hts _ qf_X4_47) (fun _ h => h) rfl dX4_readWord_91 ?_
              refine lv_iconst (v := iZ 1) hx hb dX4_readWord_94 rfl ?_
              refine lv_iadd hx hb dX4_readWord_95 ?_
              refine lv_topi (fun x_26 ex_26 => ?_)
              obtain rfl : x_26 = iZ (e2 + 1) := ex_26.trans (iZ_add e2 1)
              refine va_put (D := D) (ci := 4) (v := .int (iZ (e2 + 1))) (ty := .int) (C := RX4) (T := TX4) (N := 12) hx hb hts iX4 tyX4 tyX4_ok nmX4 hown hK hP hD hS 0 rfl rfl 5 (bl rfl) (hts _ qf_X4_47) (fun _ h => h) rfl (by decide +kernel) rfl rfl (Nat.le_of_ble_eq_true rfl) dX4_readWord_96 (fun H locs hP hD hS => ?_)
              refine lv_goto (tgt := 7) hx hb dX4_readWord_99 rfl ?_
              exact ih1  _ _ _ _ _ (by omega) (by omega) (by omega) (hP.sub [0, 1, 2] rfl) (hD.sub [0, 1, 2] rfl rfl) hS (lv_sub hl [0, 1] rfl)
  exact HL1 902 _ _ _ _ _ (by omega) (by omega) (by omega) (hP.sub [0, 1, 2] rfl) (hD.sub [0, 1, 2] rfl rfl) hS (lv_sub hl [0, 1] rfl)
set_option maxHeartbeats 4000000 in
set_option maxRecDepth 100000 in
theorem k_next (l : Launch) (D : va_G) (k : Nat → ClassId) (hr1 tx kw : Nat) (bf : Nat → Int32) (kwf : Nat → Int64) (tp ln pl en ki va ke fk fp : Int) (nm : Int64) (hI : RDI (fun i => [0, tp, ln, en, en, ki, 0, -1, fk, fp].getD i 0)) : WD (σ := ((Nat → Int) × Int64)) l yX4_next cX4_next 1 none 1 0 0 D k [.ref hr1] [(hr1, .inr (4, [.ref tx, .ref kw, .int (iZ tp), .int (iZ ln), .int (iZ pl), .int (iZ en), .int (iZ ki), .int (iZ va), .int (iZ ke), .long nm, .int (iZ fk), .int (iZ fp)])), (tx, .inl (k 0, 900, .inl bf)), (kw, .inl (k 2, 25, .inr (.inl kwf)))] (fun _ => none) (fun u => (u.1 1 = tp) ∧ RDI u.1) (fun u => [(hr1, .inr (4, [.ref tx, .ref kw, .int (iZ (u.1 1)), .int (iZ (u.1 2)), .int (iZ (u.1 3)), .int (iZ (u.1 4)), .int (iZ (u.1 5)), .int (iZ (u.1 6)), .int (iZ (u.1 7)), .long u.2, .int (iZ (u.1 8)), .int (iZ (u.1 9))])), (tx, .inl (k 0, 900, .inl bf)), (kw, .inl (k 2, 25, .inr (.inl kwf)))]) := by
  refine MW (by decide) (Nat.le_of_ble_eq_true rfl) (fun p e s m below meth c ls A hx hb hml hr hlocks hin hts hown hKK hP hD hS hA hl => ?_)
  have hK := hKK.1
  have hl : lv_has ls 1 [(0, .ref hr1)] := hl
  have hI1 : (0 ≤ tp ∧ tp ≤ 900) ∧ (0 ≤ ln ∧ ln ≤ 900) ∧ (0 ≤ en ∧ en ≤ en) ∧ (en ≤ ln) ∧ (0 ≤ ki ∧ ki ≤ 4) ∧ (-2147483648 ≤ (0 : Int) ∧ (0 : Int) < 2147483648) ∧ (-1 ≤ (-1 : Int) ∧ (-1 : Int) ≤ 24) := hI
  have HL1 : ∀ (fu : Nat) (e2 : Int) (H : Heap) (locs : List Loc) (ls : Array Slot), (ln + 1 - e2) < (fu : Int) → en ≤ e2 → e2 ≤ ln → va_P D vwCl [(hr1, .inr (4, [.ref tx, .ref kw, .int (iZ tp), .int (iZ ln), .int (iZ pl), .int (iZ e2), .int (iZ ki), .int (iZ va), .int (iZ ke), .long nm, .int (iZ fk), .int (iZ fp)])), (tx, .inl (k 0, 900, .inl bf)), (kw, .inl (k 2, 25, .inr (.inl kwf)))] H → va_D A [(hr1, .inr (4, [.ref tx, .ref kw, .int (iZ tp), .int (iZ ln), .int (iZ pl), .int (iZ e2), .int (iZ ki), .int (iZ va), .int (iZ ke), .long nm, .int (iZ fk), .int (iZ fp)])), (tx, .inl (k 0, 900, .inl bf)), (kw, .inl (k 2, 25, .inr (.inl kwf)))] → va_S A s.heap H locs → lv_has ls 1 [(0, .ref hr1)] → W p l e (rj 1 0 0) s m [.ref hr1].toArray below meth c H locs 0 0 (MQ below (QW (σ := ((Nat → Int) × Int64)) (fun _ => none) (fun u => (u.1 1 = tp) ∧ RDI u.1) (fun u => [(hr1, .inr (4, [.ref tx, .ref kw, .int (iZ (u.1 1)), .int (iZ (u.1 2)), .int (iZ (u.1 3)), .int (iZ (u.1 4)), .int (iZ (u.1 5)), .int (iZ (u.1 6)), .int (iZ (u.1 7)), .long u.2, .int (iZ (u.1 8)), .int (iZ (u.1 9))])), (tx, .inl (k 0, 900, .inl bf)), (kw, .inl (k 2, 25, .inr (.inl kwf)))]) D A) [.ref hr1].toArray s 0 0 A) (F0 m 0 ls []) := by
    intro fu
    induction fu with
    | zero => intro e2 H locs ls hμ1 he1 he2 hP hD hS hl; exact absurd hμ1 (by omega)
    | succ fu ih1 =>
      intro e2 H locs ls hμ1 he1 he2 hP hD hS hl
      refine lv_aload_n hx hb dX4_next_0 rfl (lv_at hl 0 rfl) ?_
      refine va_get (D := D) (ci := 4) (v := .int (iZ e2)) (C := RX4) (T := TX4) (N := 12) hx hb hts iX4 hown hK hP 0 rfl rfl 5 (bl rfl) (hts _ qf_X4_47) (fun _ h => h) rfl dX4_next_1 ?_
      refine lv_aload_n hx hb dX4_next_4 rfl (lv_at hl 0 rfl) ?_
      refine va_get (D := D) (ci := 4) (v := .int (iZ ln)) (C := RX4) (T := TX4) (N := 12) hx hb hts iX4 hown hK hP 0 rfl rfl 3 (bl rfl) (hts _ qf_X4_45) (fun _ h => h) rfl dX4_next_5 ?_
      refine lv_icmp_ge (tgt := 52) hx hb dX4_next_8 rfl (fun c_1 => ?_) (fun c_1 => ?_)
      ·
        have c_1 := (zle (x := iZ ln) (y := iZ e2) rfl rfl ⟨by omega, by omega⟩ ⟨by omega, by omega⟩).mp c_1
        refine lv_aload_n hx hb dX4_next_52 rfl (lv_at hl 0 rfl) ?_
        refine lv_aload_n hx hb dX4_next_53 rfl (lv_at hl 0 rfl) ?_
        refine va_get (D := D) (ci := 4) (v := .int (iZ e2)) (C := RX4) (T := TX4) (N := 12) hx hb hts iX4 hown hK hP 0 rfl rfl 5 (bl rfl) (hts _ qf_X4_47) (fun _ h => h) rfl dX4_next_54 ?_
        refine va_put (D := D) (ci := 4) (v := .int (iZ e2)) (ty := .int) (C := RX4) (T := TX4) (N := 12) hx hb hts iX4 tyX4 tyX4_ok nmX4 hown hK hP hD hS 0 rfl rfl 4 (bl rfl) (hts _ qf_X4_53) (fun _ h => h) rfl (by decide +kernel) rfl rfl (Nat.le_of_ble_eq_true rfl) dX4_next_57 (fun H locs hP hD hS => ?_)
        refine lv_aload_n hx hb dX4_next_60 rfl (lv_at hl 0 rfl) ?_
        refine lv_iconst (v := iZ (-1)) hx hb dX4_next_61 rfl ?_
        refine va_put (D := D) (ci := 4) (v := .int (iZ (-1))) (ty := .int) (C := RX4) (T := TX4) (N := 12) hx hb hts iX4 tyX4 tyX4_ok nmX4 hown hK hP hD hS 0 rfl rfl 8 (bl rfl) (hts _ qf_X4_56) (fun _ h => h) rfl (by decide +kernel) rfl rfl (Nat.le_of_ble_eq_true rfl) dX4_next_62 (fun H locs hP hD hS => ?_)
        refine lv_aload_n hx hb dX4_next_65 rfl (lv_at hl 0 rfl) ?_
        refine lv_ldc2 (own := RX4) (v := (-1)) hx hb hown (hts _ qk_X4_59) dX4_next_66 ?_
        refine va_put (D := D) (ci := 4) (v := .long (-1)) (ty := .long) (C := RX4) (T := TX4) (N := 12) hx hb hts iX4 tyX4 tyX4_ok nmX4 hown hK hP hD hS 0 rfl rfl 9 (bl rfl) (hts _ qf_X4_61) (fun _ h => h) rfl (by decide +kernel) rfl rfl (Nat.le_of_ble_eq_true rfl) dX4_next_69 (fun H locs hP hD hS => ?_)
        refine lv_aload_n hx hb dX4_next_72 rfl (lv_at hl 0 rfl) ?_
        refine lv_iconst (v := iZ (-1)) hx hb dX4_next_73 rfl ?_
        refine va_put (D := D) (ci := 4) (v := .int (iZ (-1))) (ty := .int) (C := RX4) (T := TX4) (N := 12) hx hb hts iX4 tyX4 tyX4_ok nmX4 hown hK hP hD hS 0 rfl rfl 7 (bl rfl) (hts _ qf_X4_65) (fun _ h => h) rfl (by decide +kernel) rfl rfl (Nat.le_of_ble_eq_true rfl) dX4_next_74 (fun H locs hP hD hS => ?_)
        refine lv_aload_n hx hb dX4_next_77 rfl (lv_at hl 0 rfl) ?_
        refine va_get (D := D) (ci := 4) (v := .int (iZ e2)) (C := RX4) (T := TX4) (N := 12) hx hb hts iX4 hown hK hP 0 rfl rfl 5 (bl rfl) (hts _ qf_X4_47) (fun _ h => h) rfl dX4_next_78 ?_
        refine lv_aload_n hx hb dX4_next_81 rfl (lv_at hl 0 rfl) ?_
        refine va_get (D := D) (ci := 4) (v := .int (iZ ln)) (C := RX4) (T := TX4) (N := 12) hx hb hts iX4 hown hK hP 0 rfl rfl 3 (bl rfl) (hts _ qf_X4_45) (fun _ h => h) rfl dX4_next_82 ?_
        refine lv_icmp_lt (tgt := 96) hx hb dX4_next_85 rfl (fun c_2 => ?_) (fun c_2 => ?_)
        ·
          have c_2 := (zlt (x := iZ e2) (y := iZ ln) rfl rfl ⟨by omega, by omega⟩ ⟨by omega, by omega⟩).mp c_2
          refine lv_aload_n hx hb dX4_next_96 rfl (lv_at hl 0 rfl) ?_
          refine va_get (D := D) (ci := 4) (v := .ref tx) (C := RX4) (T := TX4) (N := 12) hx hb hts iX4 hown hK hP 0 rfl rfl 0 (bl rfl) (hts _ qf_X4_9) (fun _ h => h) rfl dX4_next_97 ?_
          refine lv_aload_n hx hb dX4_next_100 rfl (lv_at hl 0 rfl) ?_
          refine va_get (D := D) (ci := 4) (v := .int (iZ e2)) (C := RX4) (T := TX4) (N := 12) hx hb hts iX4 hown hK hP 0 rfl rfl 5 (bl rfl) (hts _ qf_X4_47) (fun _ h => h) rfl dX4_next_101 ?_
          refine va_bald hx hb hK hP 1 0 rfl rfl (zin (e := e2) (n := 900) ⟨by omega, by omega⟩ (bl rfl)) dX4_next_104 ?_
          refine lv_topi (fun x_3 ex_3 => ?_)
          obtain rfl : x_3 = iZ (gz bf e2) := ex_3.trans (gz_eq ⟨by omega, by omega⟩)
          have h_4 := gz_rg bf e2
          refine lv_bipush (v := iZ 97) hx hb dX4_next_105 bip_97 ?_
          refine lv_icmp_lt (tgt := 131) hx hb dX4_next_107 rfl (fun c_5 => ?_) (fun c_5 => ?_)
          ·
            have c_5 := (zlt (x := iZ (gz bf e2)) (y := iZ 97) rfl rfl (gz_rg bf e2) wn_97).mp c_5
            refine lv_aload_n hx hb dX4_next_131 rfl (lv_at hl 0 rfl) ?_
            refine va_get (D := D) (ci := 4) (v := .ref tx) (C := RX4) (T := TX4) (N := 12) hx hb hts iX4 hown hK hP 0 rfl rfl 0 (bl rfl) (hts _ qf_X4_9) (fun _ h => h) rfl dX4_next_132 ?_
            refine lv_aload_n hx hb dX4_next_135 rfl (lv_at hl 0 rfl) ?_
            refine va_get (D := D) (ci := 4) (v := .int (iZ e2)) (C := RX4) (T := TX4) (N := 12) hx hb hts iX4 hown hK hP 0 rfl rfl 5 (bl rfl) (hts _ qf_X4_47) (fun _ h => h) rfl dX4_next_136 ?_
            refine va_bald hx hb hK hP 1 0 rfl rfl (zin (e := e2) (n := 900) ⟨by omega, by omega⟩ (bl rfl)) dX4_next_139 ?_
            refine lv_topi (fun x_6 ex_6 => ?_)
            obtain rfl : x_6 = iZ (gz bf e2) := ex_6.trans (gz_eq ⟨by omega, by omega⟩)
            have h_7 := gz_rg bf e2
            refine lv_bipush (v := iZ 48) hx hb dX4_next_140 bip_48 ?_
            refine lv_icmp_lt (tgt := 166) hx hb dX4_next_142 rfl (fun c_8 => ?_) (fun c_8 => ?_)
            ·
              have c_8 := (zlt (x := iZ (gz bf e2)) (y := iZ 48) rfl rfl (gz_rg bf e2) wn_48).mp c_8
              refine lv_aload_n hx hb dX4_next_166 rfl (lv_at hl 0 rfl) ?_
              refine CWV (As := []) (rest := []) (wc := _) (wr := []) hx hb hml hown hts hKK hP hD hS hA (k_readSign l D k hr1 tx kw bf kwf tp ln e2 e2 ki (-1) (-1) fk fp (-1) (show RDI _ from (show (0 ≤ tp ∧ tp ≤ 900) ∧ (0 ≤ ln ∧ ln ≤ 900) ∧ (0 ≤ e2 ∧ e2 ≤ e2) ∧ (e2 ≤ ln) ∧ (0 ≤ ki ∧ ki ≤ 4) ∧ (-2147483648 ≤ (-1) ∧ (-1) < 2147483648) ∧ (-1 ≤ (-1) ∧ (-1) ≤ 24) from ⟨⟨by omega, by omega⟩, ⟨by omega, by omega⟩, ⟨by omega, by omega⟩, by omega, ⟨by omega, by omega⟩, ⟨by omega, by omega⟩, by omega, by omega⟩))  (by omega)) ci_X4_readSign qm_X4_77 ⟨Nat.le_of_ble_eq_true rfl, Nat.le_of_ble_eq_true rfl⟩ ⟨Nat.le_of_ble_eq_true rfl, Nat.le_of_ble_eq_true rfl⟩ [0, 1, 2] [] rfl rfl rfl rfl rfl (dj rfl) 0 rfl rfl rfl hl.1 rfl (Nat.le_of_ble_eq_true rfl) dX4_next_167 (fun u_9 H locs hφ hP hD hS => ?_)
              obtain ⟨I_10, nm_11⟩ := u_9
              obtain ⟨ah_12, b1h_12, b2h_12, b3h_12, b4h_12, b5h_12, b6h_12, b7h_12⟩ := hφ
              dsimp only at ah_12 b1h_12 b2h_12 b3h_12 b4h_12 b5h_12 b6h_12 b7h_12
              refine W.eq (g2 := F0 m 170 ls []) rfl ?_
              exact EWv hx hb hr hlocks hS (fun i => [0, (I_10 1), (I_10 2), (I_10 3), (I_10 4), (I_10 5), (I_10 6), (I_10 7), (I_10 8), (I_10 9)].getD i 0, nm_11) rfl ⟨show (I_10 1) = tp from (by omega), (show RDI _ from (show (0 ≤ (I_10 1) ∧ (I_10 1) ≤ 900) ∧ (0 ≤ (I_10 2) ∧ (I_10 2) ≤ 900) ∧ (0 ≤ (I_10 3) ∧ (I_10 3) ≤ (I_10 4)) ∧ ((I_10 4) ≤ (I_10 2)) ∧ (0 ≤ (I_10 5) ∧ (I_10 5) ≤ 4) ∧ (-2147483648 ≤ (I_10 6) ∧ (I_10 6) < 2147483648) ∧ (-1 ≤ (I_10 7) ∧ (I_10 7) ≤ 24) from ⟨b1h_12, b2h_12, b3h_12, b4h_12, b5h_12, b6h_12, b7h_12⟩))⟩ (hP.sub [0, 1, 2] rfl) (hD.sub [0, 1, 2] rfl rfl) dX4_next_170
            ·
              have c_8 := mt (zlt (x := iZ (gz bf e2)) (y := iZ 48) rfl rfl (gz_rg bf e2) wn_48).mpr c_8
              refine lv_aload_n hx hb dX4_next_145 rfl (lv_at hl 0 rfl) ?_
              refine va_get (D := D) (ci := 4) (v := .ref tx) (C := RX4) (T := TX4) (N := 12) hx hb hts iX4 hown hK hP 0 rfl rfl 0 (bl rfl) (hts _ qf_X4_9) (fun _ h => h) rfl dX4_next_146 ?_
              refine lv_aload_n hx hb dX4_next_149 rfl (lv_at hl 0 rfl) ?_
              refine va_get (D := D) (ci := 4) (v := .int (iZ e2)) (C := RX4) (T := TX4) (N := 12) hx hb hts iX4 hown hK hP 0 rfl rfl 5 (bl rfl) (hts _ qf_X4_47) (fun _ h => h) rfl dX4_next_150 ?_
              refine va_bald hx hb hK hP 1 0 rfl rfl (zin (e := e2) (n := 900) ⟨by omega, by omega⟩ (bl rfl)) dX4_next_153 ?_
              refine lv_topi (fun x_13 ex_13 => ?_)
              obtain rfl : x_13 = iZ (gz bf e2) := ex_13.trans (gz_eq ⟨by omega, by omega⟩)
              have h_14 := gz_rg bf e2
              refine lv_bipush (v := iZ 57) hx hb dX4_next_154 bip_57 ?_
              refine lv_icmp_gt (tgt := 166) hx hb dX4_next_156 rfl (fun c_15 => ?_) (fun c_15 => ?_)
              ·
                have c_15 := (zlt (x := iZ 57) (y := iZ (gz bf e2)) rfl rfl wn_57 (gz_rg bf e2)).mp c_15
                refine lv_aload_n hx hb dX4_next_166 rfl (lv_at hl 0 rfl) ?_
                refine CWV (As := []) (rest := []) (wc := _) (wr := []) hx hb hml hown hts hKK hP hD hS hA (k_readSign l D k hr1 tx kw bf kwf tp ln e2 e2 ki (-1) (-1) fk fp (-1) (show RDI _ from (show (0 ≤ tp ∧ tp ≤ 900) ∧ (0 ≤ ln ∧ ln ≤ 900) ∧ (0 ≤ e2 ∧ e2 ≤ e2) ∧ (e2 ≤ ln) ∧ (0 ≤ ki ∧ ki ≤ 4) ∧ (-2147483648 ≤ (-1) ∧ (-1) < 2147483648) ∧ (-1 ≤ (-1) ∧ (-1) ≤ 24) from ⟨⟨by omega, by omega⟩, ⟨by omega, by omega⟩, ⟨by omega, by omega⟩, by omega, ⟨by omega, by omega⟩, ⟨by omega, by omega⟩, by omega, by omega⟩))  (by omega)) ci_X4_readSign qm_X4_77 ⟨Nat.le_of_ble_eq_true rfl, Nat.le_of_ble_eq_true rfl⟩ ⟨Nat.le_of_ble_eq_true rfl, Nat.le_of_ble_eq_true rfl⟩ [0, 1, 2] [] rfl rfl rfl rfl rfl (dj rfl) 0 rfl rfl rfl hl.1 rfl (Nat.le_of_ble_eq_true rfl) dX4_next_167 (fun u_16 H locs hφ hP hD hS => ?_)
                obtain ⟨I_17, nm_18⟩ := u_16
                obtain ⟨ah_19, b1h_19, b2h_19, b3h_19, b4h_19, b5h_19, b6h_19, b7h_19⟩ := hφ
                dsimp only at ah_19 b1h_19 b2h_19 b3h_19 b4h_19 b5h_19 b6h_19 b7h_19
                refine W.eq (g2 := F0 m 170 ls []) rfl ?_
                exact EWv hx hb hr hlocks hS (fun i => [0, (I_17 1), (I_17 2), (I_17 3), (I_17 4), (I_17 5), (I_17 6), (I_17 7), (I_17 8), (I_17 9)].getD i 0, nm_18) rfl ⟨show (I_17 1) = tp from (by omega), (show RDI _ from (show (0 ≤ (I_17 1) ∧ (I_17 1) ≤ 900) ∧ (0 ≤ (I_17 2) ∧ (I_17 2) ≤ 900) ∧ (0 ≤ (I_17 3) ∧ (I_17 3) ≤ (I_17 4)) ∧ ((I_17 4) ≤ (I_17 2)) ∧ (0 ≤ (I_17 5) ∧ (I_17 5) ≤ 4) ∧ (-2147483648 ≤ (I_17 6) ∧ (I_17 6) < 2147483648) ∧ (-1 ≤ (I_17 7) ∧ (I_17 7) ≤ 24) from ⟨b1h_19, b2h_19, b3h_19, b4h_19, b5h_19, b6h_19, b7h_19⟩))⟩ (hP.sub [0, 1, 2] rfl) (hD.sub [0, 1, 2] rfl rfl) dX4_next_170
              ·
                have c_15 := mt (zlt (x := iZ 57) (y := iZ (gz bf e2)) rfl rfl wn_57 (gz_rg bf e2)).mpr c_15
                refine lv_aload_n hx hb dX4_next_159 rfl (lv_at hl 0 rfl) ?_
                refine CWV (As := []) (rest := []) (wc := _) (wr := []) hx hb hml hown hts hKK hP hD hS hA (k_readNumber l D k hr1 tx kw bf kwf tp ln e2 e2 ki (-1) (-1) fk fp (-1) (show RDI _ from (show (0 ≤ tp ∧ tp ≤ 900) ∧ (0 ≤ ln ∧ ln ≤ 900) ∧ (0 ≤ e2 ∧ e2 ≤ e2) ∧ (e2 ≤ ln) ∧ (0 ≤ ki ∧ ki ≤ 4) ∧ (-2147483648 ≤ (-1) ∧ (-1) < 2147483648) ∧ (-1 ≤ (-1) ∧ (-1) ≤ 24) from ⟨⟨by omega, by omega⟩, ⟨by omega, by omega⟩, ⟨by omega, by omega⟩, by omega, ⟨by omega, by omega⟩, ⟨by omega, by omega⟩, by omega, by omega⟩))  ) ci_X4_readNumber qm_X4_74 ⟨Nat.le_of_ble_eq_true rfl, Nat.le_of_ble_eq_true rfl⟩ ⟨Nat.le_of_ble_eq_true rfl, Nat.le_of_ble_eq_true rfl⟩ [0, 1, 2] [] rfl rfl rfl rfl rfl (dj rfl) 0 rfl rfl rfl hl.1 rfl (Nat.le_of_ble_eq_true rfl) dX4_next_160 (fun u_20 H locs hφ hP hD hS => ?_)
                obtain ⟨I_21, nm_22⟩ := u_20
                obtain ⟨ah_23, b1h_23, b2h_23, b3h_23, b4h_23, b5h_23, b6h_23, b7h_23⟩ := hφ
                dsimp only at ah_23 b1h_23 b2h_23 b3h_23 b4h_23 b5h_23 b6h_23 b7h_23
                refine W.eq (g2 := F0 m 163 ls []) rfl ?_
                refine lv_goto (tgt := 170) hx hb dX4_next_163 rfl ?_
                exact EWv hx hb hr hlocks hS (fun i => [0, (I_21 1), (I_21 2), (I_21 3), (I_21 4), (I_21 5), (I_21 6), (I_21 7), (I_21 8), (I_21 9)].getD i 0, nm_22) rfl ⟨show (I_21 1) = tp from (by omega), (show RDI _ from (show (0 ≤ (I_21 1) ∧ (I_21 1) ≤ 900) ∧ (0 ≤ (I_21 2) ∧ (I_21 2) ≤ 900) ∧ (0 ≤ (I_21 3) ∧ (I_21 3) ≤ (I_21 4)) ∧ ((I_21 4) ≤ (I_21 2)) ∧ (0 ≤ (I_21 5) ∧ (I_21 5) ≤ 4) ∧ (-2147483648 ≤ (I_21 6) ∧ (I_21 6) < 2147483648) ∧ (-1 ≤ (I_21 7) ∧ (I_21 7) ≤ 24) from ⟨b1h_23, b2h_23, b3h_23, b4h_23, b5h_23, b6h_23, b7h_23⟩))⟩ (hP.sub [0, 1, 2] rfl) (hD.sub [0, 1, 2] rfl rfl) dX4_next_170
          ·
            have c_5 := mt (zlt (x := iZ (gz bf e2)) (y := iZ 97) rfl rfl (gz_rg bf e2) wn_97).mpr c_5
            refine lv_aload_n hx hb dX4_next_110 rfl (lv_at hl 0 rfl) ?_
            refine va_get (D := D) (ci := 4) (v := .ref tx) (C := RX4) (T := TX4) (N := 12) hx hb hts iX4 hown hK hP 0 rfl rfl 0 (bl rfl) (hts _ qf_X4_9) (fun _ h => h) rfl dX4_next_111 ?_
            refine lv_aload_n hx hb dX4_next_114 rfl (lv_at hl 0 rfl) ?_
            refine va_get (D := D) (ci := 4) (v := .int (iZ e2)) (C := RX4) (T := TX4) (N := 12) hx hb hts iX4 hown hK hP 0 rfl rfl 5 (bl rfl) (hts _ qf_X4_47) (fun _ h => h) rfl dX4_next_115 ?_
            refine va_bald hx hb hK hP 1 0 rfl rfl (zin (e := e2) (n := 900) ⟨by omega, by omega⟩ (bl rfl)) dX4_next_118 ?_
            refine lv_topi (fun x_24 ex_24 => ?_)
            obtain rfl : x_24 = iZ (gz bf e2) := ex_24.trans (gz_eq ⟨by omega, by omega⟩)
            have h_25 := gz_rg bf e2
            refine lv_bipush (v := iZ 122) hx hb dX4_next_119 bip_122 ?_
            refine lv_icmp_gt (tgt := 131) hx hb dX4_next_121 rfl (fun c_26 => ?_) (fun c_26 => ?_)
            ·
              have c_26 := (zlt (x := iZ 122) (y := iZ (gz bf e2)) rfl rfl wn_122 (gz_rg bf e2)).mp c_26
              refine lv_aload_n hx hb dX4_next_131 rfl (lv_at hl 0 rfl) ?_
              refine va_get (D := D) (ci := 4) (v := .ref tx) (C := RX4) (T := TX4) (N := 12) hx hb hts iX4 hown hK hP 0 rfl rfl 0 (bl rfl) (hts _ qf_X4_9) (fun _ h => h) rfl dX4_next_132 ?_
              refine lv_aload_n hx hb dX4_next_135 rfl (lv_at hl 0 rfl) ?_
              refine va_get (D := D) (ci := 4) (v := .int (iZ e2)) (C := RX4) (T := TX4) (N := 12) hx hb hts iX4 hown hK hP 0 rfl rfl 5 (bl rfl) (hts _ qf_X4_47) (fun _ h => h) rfl dX4_next_136 ?_
              refine va_bald hx hb hK hP 1 0 rfl rfl (zin (e := e2) (n := 900) ⟨by omega, by omega⟩ (bl rfl)) dX4_next_139 ?_
              refine lv_topi (fun x_27 ex_27 => ?_)
              obtain rfl : x_27 = iZ (gz bf e2) := ex_27.trans (gz_eq ⟨by omega, by omega⟩)
              have h_28 := gz_rg bf e2
              refine lv_bipush (v := iZ 48) hx hb dX4_next_140 bip_48 ?_
              refine lv_icmp_lt (tgt := 166) hx hb dX4_next_142 rfl (fun c_29 => ?_) (fun c_29 => ?_)
              ·
                have c_29 := (zlt (x := iZ (gz bf e2)) (y := iZ 48) rfl rfl (gz_rg bf e2) wn_48).mp c_29
                refine lv_aload_n hx hb dX4_next_166 rfl (lv_at hl 0 rfl) ?_
                refine CWV (As := []) (rest := []) (wc := _) (wr := []) hx hb hml hown hts hKK hP hD hS hA (k_readSign l D k hr1 tx kw bf kwf tp ln e2 e2 ki (-1) (-1) fk fp (-1) (show RDI _ from (show (0 ≤ tp ∧ tp ≤ 900) ∧ (0 ≤ ln ∧ ln ≤ 900) ∧ (0 ≤ e2 ∧ e2 ≤ e2) ∧ (e2 ≤ ln) ∧ (0 ≤ ki ∧ ki ≤ 4) ∧ (-2147483648 ≤ (-1) ∧ (-1) < 2147483648) ∧ (-1 ≤ (-1) ∧ (-1) ≤ 24) from ⟨⟨by omega, by omega⟩, ⟨by omega, by omega⟩, ⟨by omega, by omega⟩, by omega, ⟨by omega, by omega⟩, ⟨by omega, by omega⟩, by omega, by omega⟩))  (by omega)) ci_X4_readSign qm_X4_77 ⟨Nat.le_of_ble_eq_true rfl, Nat.le_of_ble_eq_true rfl⟩ ⟨Nat.le_of_ble_eq_true rfl, Nat.le_of_ble_eq_true rfl⟩ [0, 1, 2] [] rfl rfl rfl rfl rfl (dj rfl) 0 rfl rfl rfl hl.1 rfl (Nat.le_of_ble_eq_true rfl) dX4_next_167 (fun u_30 H locs hφ hP hD hS => ?_)
                obtain ⟨I_31, nm_32⟩ := u_30
                obtain ⟨ah_33, b1h_33, b2h_33, b3h_33, b4h_33, b5h_33, b6h_33, b7h_33⟩ := hφ
                dsimp only at ah_33 b1h_33 b2h_33 b3h_33 b4h_33 b5h_33 b6h_33 b7h_33
                refine W.eq (g2 := F0 m 170 ls []) rfl ?_
                exact EWv hx hb hr hlocks hS (fun i => [0, (I_31 1), (I_31 2), (I_31 3), (I_31 4), (I_31 5), (I_31 6), (I_31 7), (I_31 8), (I_31 9)].getD i 0, nm_32) rfl ⟨show (I_31 1) = tp from (by omega), (show RDI _ from (show (0 ≤ (I_31 1) ∧ (I_31 1) ≤ 900) ∧ (0 ≤ (I_31 2) ∧ (I_31 2) ≤ 900) ∧ (0 ≤ (I_31 3) ∧ (I_31 3) ≤ (I_31 4)) ∧ ((I_31 4) ≤ (I_31 2)) ∧ (0 ≤ (I_31 5) ∧ (I_31 5) ≤ 4) ∧ (-2147483648 ≤ (I_31 6) ∧ (I_31 6) < 2147483648) ∧ (-1 ≤ (I_31 7) ∧ (I_31 7) ≤ 24) from ⟨b1h_33, b2h_33, b3h_33, b4h_33, b5h_33, b6h_33, b7h_33⟩))⟩ (hP.sub [0, 1, 2] rfl) (hD.sub [0, 1, 2] rfl rfl) dX4_next_170
              ·
                have c_29 := mt (zlt (x := iZ (gz bf e2)) (y := iZ 48) rfl rfl (gz_rg bf e2) wn_48).mpr c_29
                refine lv_aload_n hx hb dX4_next_145 rfl (lv_at hl 0 rfl) ?_
                refine va_get (D := D) (ci := 4) (v := .ref tx) (C := RX4) (T := TX4) (N := 12) hx hb hts iX4 hown hK hP 0 rfl rfl 0 (bl rfl) (hts _ qf_X4_9) (fun _ h => h) rfl dX4_next_146 ?_
                refine lv_aload_n hx hb dX4_next_149 rfl (lv_at hl 0 rfl) ?_
                refine va_get (D := D) (ci := 4) (v := .int (iZ e2)) (C := RX4) (T := TX4) (N := 12) hx hb hts iX4 hown hK hP 0 rfl rfl 5 (bl rfl) (hts _ qf_X4_47) (fun _ h => h) rfl dX4_next_150 ?_
                refine va_bald hx hb hK hP 1 0 rfl rfl (zin (e := e2) (n := 900) ⟨by omega, by omega⟩ (bl rfl)) dX4_next_153 ?_
                refine lv_topi (fun x_34 ex_34 => ?_)
                obtain rfl : x_34 = iZ (gz bf e2) := ex_34.trans (gz_eq ⟨by omega, by omega⟩)
                have h_35 := gz_rg bf e2
                refine lv_bipush (v := iZ 57) hx hb dX4_next_154 bip_57 ?_
                refine lv_icmp_gt (tgt := 166) hx hb dX4_next_156 rfl (fun c_36 => ?_) (fun c_36 => ?_)
                ·
                  have c_36 := (zlt (x := iZ 57) (y := iZ (gz bf e2)) rfl rfl wn_57 (gz_rg bf e2)).mp c_36
                  refine lv_aload_n hx hb dX4_next_166 rfl (lv_at hl 0 rfl) ?_
                  refine CWV (As := []) (rest := []) (wc := _) (wr := []) hx hb hml hown hts hKK hP hD hS hA (k_readSign l D k hr1 tx kw bf kwf tp ln e2 e2 ki (-1) (-1) fk fp (-1) (show RDI _ from (show (0 ≤ tp ∧ tp ≤ 900) ∧ (0 ≤ ln ∧ ln ≤ 900) ∧ (0 ≤ e2 ∧ e2 ≤ e2) ∧ (e2 ≤ ln) ∧ (0 ≤ ki ∧ ki ≤ 4) ∧ (-2147483648 ≤ (-1) ∧ (-1) < 2147483648) ∧ (-1 ≤ (-1) ∧ (-1) ≤ 24) from ⟨⟨by omega, by omega⟩, ⟨by omega, by omega⟩, ⟨by omega, by omega⟩, by omega, ⟨by omega, by omega⟩, ⟨by omega, by omega⟩, by omega, by omega⟩))  (by omega)) ci_X4_readSign qm_X4_77 ⟨Nat.le_of_ble_eq_true rfl, Nat.le_of_ble_eq_true rfl⟩ ⟨Nat.le_of_ble_eq_true rfl, Nat.le_of_ble_eq_true rfl⟩ [0, 1, 2] [] rfl rfl rfl rfl rfl (dj rfl) 0 rfl rfl rfl hl.1 rfl (Nat.le_of_ble_eq_true rfl) dX4_next_167 (fun u_37 H locs hφ hP hD hS => ?_)
                  obtain ⟨I_38, nm_39⟩ := u_37
                  obtain ⟨ah_40, b1h_40, b2h_40, b3h_40, b4h_40, b5h_40, b6h_40, b7h_40⟩ := hφ
                  dsimp only at ah_40 b1h_40 b2h_40 b3h_40 b4h_40 b5h_40 b6h_40 b7h_40
                  refine W.eq (g2 := F0 m 170 ls []) rfl ?_
                  exact EWv hx hb hr hlocks hS (fun i => [0, (I_38 1), (I_38 2), (I_38 3), (I_38 4), (I_38 5), (I_38 6), (I_38 7), (I_38 8), (I_38 9)].getD i 0, nm_39) rfl ⟨show (I_38 1) = tp from (by omega), (show RDI _ from (show (0 ≤ (I_38 1) ∧ (I_38 1) ≤ 900) ∧ (0 ≤ (I_38 2) ∧ (I_38 2) ≤ 900) ∧ (0 ≤ (I_38 3) ∧ (I_38 3) ≤ (I_38 4)) ∧ ((I_38 4) ≤ (I_38 2)) ∧ (0 ≤ (I_38 5) ∧ (I_38 5) ≤ 4) ∧ (-2147483648 ≤ (I_38 6) ∧ (I_38 6) < 2147483648) ∧ (-1 ≤ (I_38 7) ∧ (I_38 7) ≤ 24) from ⟨b1h_40, b2h_40, b3h_40, b4h_40, b5h_40, b6h_40, b7h_40⟩))⟩ (hP.sub [0, 1, 2] rfl) (hD.sub [0, 1, 2] rfl rfl) dX4_next_170
                ·
                  have c_36 := mt (zlt (x := iZ 57) (y := iZ (gz bf e2)) rfl rfl wn_57 (gz_rg bf e2)).mpr c_36
                  refine lv_aload_n hx hb dX4_next_159 rfl (lv_at hl 0 rfl) ?_
                  refine CWV (As := []) (rest := []) (wc := _) (wr := []) hx hb hml hown hts hKK hP hD hS hA (k_readNumber l D k hr1 tx kw bf kwf tp ln e2 e2 ki (-1) (-1) fk fp (-1) (show RDI _ from (show (0 ≤ tp ∧ tp ≤ 900) ∧ (0 ≤ ln ∧ ln ≤ 900) ∧ (0 ≤ e2 ∧ e2 ≤ e2) ∧ (e2 ≤ ln) ∧ (0 ≤ ki ∧ ki ≤ 4) ∧ (-2147483648 ≤ (-1) ∧ (-1) < 2147483648) ∧ (-1 ≤ (-1) ∧ (-1) ≤ 24) from ⟨⟨by omega, by omega⟩, ⟨by omega, by omega⟩, ⟨by omega, by omega⟩, by omega, ⟨by omega, by omega⟩, ⟨by omega, by omega⟩, by omega, by omega⟩))  ) ci_X4_readNumber qm_X4_74 ⟨Nat.le_of_ble_eq_true rfl, Nat.le_of_ble_eq_true rfl⟩ ⟨Nat.le_of_ble_eq_true rfl, Nat.le_of_ble_eq_true rfl⟩ [0, 1, 2] [] rfl rfl rfl rfl rfl (dj rfl) 0 rfl rfl rfl hl.1 rfl (Nat.le_of_ble_eq_true rfl) dX4_next_160 (fun u_41 H locs hφ hP hD hS => ?_)
                  obtain ⟨I_42, nm_43⟩ := u_41
                  obtain ⟨ah_44, b1h_44, b2h_44, b3h_44, b4h_44, b5h_44, b6h_44, b7h_44⟩ := hφ
                  dsimp only at ah_44 b1h_44 b2h_44 b3h_44 b4h_44 b5h_44 b6h_44 b7h_44
                  refine W.eq (g2 := F0 m 163 ls []) rfl ?_
                  refine lv_goto (tgt := 170) hx hb dX4_next_163 rfl ?_
                  exact EWv hx hb hr hlocks hS (fun i => [0, (I_42 1), (I_42 2), (I_42 3), (I_42 4), (I_42 5), (I_42 6), (I_42 7), (I_42 8), (I_42 9)].getD i 0, nm_43) rfl ⟨show (I_42 1) = tp from (by omega), (show RDI _ from (show (0 ≤ (I_42 1) ∧ (I_42 1) ≤ 900) ∧ (0 ≤ (I_42 2) ∧ (I_42 2) ≤ 900) ∧ (0 ≤ (I_42 3) ∧ (I_42 3) ≤ (I_42 4)) ∧ ((I_42 4) ≤ (I_42 2)) ∧ (0 ≤ (I_42 5) ∧ (I_42 5) ≤ 4) ∧ (-2147483648 ≤ (I_42 6) ∧ (I_42 6) < 2147483648) ∧ (-1 ≤ (I_42 7) ∧ (I_42 7) ≤ 24) from ⟨b1h_44, b2h_44, b3h_44, b4h_44, b5h_44, b6h_44, b7h_44⟩))⟩ (hP.sub [0, 1, 2] rfl) (hD.sub [0, 1, 2] rfl rfl) dX4_next_170
            ·
              have c_26 := mt (zlt (x := iZ 122) (y := iZ (gz bf e2)) rfl rfl wn_122 (gz_rg bf e2)).mpr c_26
              refine lv_aload_n hx hb dX4_next_124 rfl (lv_at hl 0 rfl) ?_
              refine CWV (As := []) (rest := []) (wc := _) (wr := []) hx hb hml hown hts hKK hP hD hS hA (k_readWord l D k hr1 tx kw bf kwf tp ln e2 e2 ki (-1) (-1) fk fp (-1) (show RDI _ from (show (0 ≤ tp ∧ tp ≤ 900) ∧ (0 ≤ ln ∧ ln ≤ 900) ∧ (0 ≤ e2 ∧ e2 ≤ e2) ∧ (e2 ≤ ln) ∧ (0 ≤ ki ∧ ki ≤ 4) ∧ (-2147483648 ≤ (-1) ∧ (-1) < 2147483648) ∧ (-1 ≤ (-1) ∧ (-1) ≤ 24) from ⟨⟨by omega, by omega⟩, ⟨by omega, by omega⟩, ⟨by omega, by omega⟩, by omega, ⟨by omega, by omega⟩, ⟨by omega, by omega⟩, by omega, by omega⟩))  ) ci_X4_readWord qm_X4_71 ⟨Nat.le_of_ble_eq_true rfl, Nat.le_of_ble_eq_true rfl⟩ ⟨Nat.le_of_ble_eq_true rfl, Nat.le_of_ble_eq_true rfl⟩ [0, 1, 2] [] rfl rfl rfl rfl rfl (dj rfl) 0 rfl rfl rfl hl.1 rfl (Nat.le_of_ble_eq_true rfl) dX4_next_125 (fun u_45 H locs hφ hP hD hS => ?_)
              obtain ⟨I_46, nm_47⟩ := u_45
              obtain ⟨ah_48, b1h_48, b2h_48, b3h_48, b4h_48, b5h_48, b6h_48, b7h_48⟩ := hφ
              dsimp only at ah_48 b1h_48 b2h_48 b3h_48 b4h_48 b5h_48 b6h_48 b7h_48
              refine W.eq (g2 := F0 m 128 ls []) rfl ?_
              refine lv_goto (tgt := 170) hx hb dX4_next_128 rfl ?_
              exact EWv hx hb hr hlocks hS (fun i => [0, (I_46 1), (I_46 2), (I_46 3), (I_46 4), (I_46 5), (I_46 6), (I_46 7), (I_46 8), (I_46 9)].getD i 0, nm_47) rfl ⟨show (I_46 1) = tp from (by omega), (show RDI _ from (show (0 ≤ (I_46 1) ∧ (I_46 1) ≤ 900) ∧ (0 ≤ (I_46 2) ∧ (I_46 2) ≤ 900) ∧ (0 ≤ (I_46 3) ∧ (I_46 3) ≤ (I_46 4)) ∧ ((I_46 4) ≤ (I_46 2)) ∧ (0 ≤ (I_46 5) ∧ (I_46 5) ≤ 4) ∧ (-2147483648 ≤ (I_46 6) ∧ (I_46 6) < 2147483648) ∧ (-1 ≤ (I_46 7) ∧ (I_46 7) ≤ 24) from ⟨b1h_48, b2h_48, b3h_48, b4h_48, b5h_48, b6h_48, b7h_48⟩))⟩ (hP.sub [0, 1, 2] rfl) (hD.sub [0, 1, 2] rfl rfl) dX4_next_170
        ·
          have c_2 := mt (zlt (x := iZ e2) (y := iZ ln) rfl rfl ⟨by omega, by omega⟩ ⟨by omega, by omega⟩).mpr c_2
          refine lv_aload_n hx hb dX4_next_88 rfl (lv_at hl 0 rfl) ?_
          refine lv_iconst (v := iZ 0) hx hb dX4_next_89 rfl ?_
          refine va_put (D := D) (ci := 4) (v := .int (iZ 0)) (ty := .int) (C := RX4) (T := TX4) (N := 12) hx hb hts iX4 tyX4 tyX4_ok nmX4 hown hK hP hD hS 0 rfl rfl 6 (bl rfl) (hts _ qf_X4_68) (fun _ h => h) rfl (by decide +kernel) rfl rfl (Nat.le_of_ble_eq_true rfl) dX4_next_90 (fun H locs hP hD hS => ?_)
          refine lv_goto (tgt := 170) hx hb dX4_next_93 rfl ?_
          exact EWv hx hb hr hlocks hS (fun i => [0, tp, ln, e2, e2, 0, (-1), (-1), fk, fp].getD i 0, (-1)) rfl ⟨show tp = tp from (by omega), (show RDI _ from (show (0 ≤ tp ∧ tp ≤ 900) ∧ (0 ≤ ln ∧ ln ≤ 900) ∧ (0 ≤ e2 ∧ e2 ≤ e2) ∧ (e2 ≤ ln) ∧ (0 ≤ 0 ∧ 0 ≤ 4) ∧ (-2147483648 ≤ (-1) ∧ (-1) < 2147483648) ∧ (-1 ≤ (-1) ∧ (-1) ≤ 24) from ⟨⟨by omega, by omega⟩, ⟨by omega, by omega⟩, ⟨by omega, by omega⟩, by omega, ⟨by omega, by omega⟩, ⟨by omega, by omega⟩, by omega, by omega⟩))⟩ (hP.sub [0, 1, 2] rfl) (hD.sub [0, 1, 2] rfl rfl) dX4_next_170
      ·
        have c_1 := mt (zle (x := iZ ln) (y := iZ e2) rfl rfl ⟨by omega, by omega⟩ ⟨by omega, by omega⟩).mpr c_1
        refine lv_aload_n hx hb dX4_next_11 rfl (lv_at hl 0 rfl) ?_
        refine va_get (D := D) (ci := 4) (v := .ref tx) (C := RX4) (T := TX4) (N := 12) hx hb hts iX4 hown hK hP 0 rfl rfl 0 (bl rfl) (hts _ qf_X4_9) (fun _ h => h) rfl dX4_next_12 ?_
        refine lv_aload_n hx hb dX4_next_15 rfl (lv_at hl 0 rfl) ?_
        refine va_get (D := D) (ci := 4) (v := .int (iZ e2)) (C := RX4) (T := TX4) (N := 12) hx hb hts iX4 hown hK hP 0 rfl rfl 5 (bl rfl) (hts _ qf_X4_47) (fun _ h => h) rfl dX4_next_16 ?_
        refine va_bald hx hb hK hP 1 0 rfl rfl (zin (e := e2) (n := 900) ⟨by omega, by omega⟩ (bl rfl)) dX4_next_19 ?_
        refine lv_topi (fun x_49 ex_49 => ?_)
        obtain rfl : x_49 = iZ (gz bf e2) := ex_49.trans (gz_eq ⟨by omega, by omega⟩)
        have h_50 := gz_rg bf e2
        refine lv_bipush (v := iZ 10) hx hb dX4_next_20 bip_10 ?_
        refine lv_icmp_eq (tgt := 39) hx hb dX4_next_22 rfl (fun c_51 => ?_) (fun c_51 => ?_)
        ·
          have c_51 := (zeq (x := iZ (gz bf e2)) (y := iZ 10) rfl rfl (gz_rg bf e2) wn_10).mp c_51
          refine lv_aload_n hx hb dX4_next_39 rfl (lv_at hl 0 rfl) ?_
          refine lv_dup hx hb dX4_next_40 rfl ?_
          refine va_get (D := D) (ci := 4) (v := .int (iZ e2)) (C := RX4) (T := TX4) (N := 12) hx hb hts iX4 hown hK hP 0 rfl rfl 5 (bl rfl) (hts _ qf_X4_47) (fun _ h => h) rfl dX4_next_41 ?_
          refine lv_iconst (v := iZ 1) hx hb dX4_next_44 rfl ?_
          refine lv_iadd hx hb dX4_next_45 ?_
          refine lv_topi (fun x_52 ex_52 => ?_)
          obtain rfl : x_52 = iZ (e2 + 1) := ex_52.trans (iZ_add e2 1)
          refine va_put (D := D) (ci := 4) (v := .int (iZ (e2 + 1))) (ty := .int) (C := RX4) (T := TX4) (N := 12) hx hb hts iX4 tyX4 tyX4_ok nmX4 hown hK hP hD hS 0 rfl rfl 5 (bl rfl) (hts _ qf_X4_47) (fun _ h => h) rfl (by decide +kernel) rfl rfl (Nat.le_of_ble_eq_true rfl) dX4_next_46 (fun H locs hP hD hS => ?_)
          refine lv_goto (tgt := 0) hx hb dX4_next_49 rfl ?_
          exact ih1  _ _ _ _ (by omega) (by omega) (by omega) (hP.sub [0, 1, 2] rfl) (hD.sub [0, 1, 2] rfl rfl) hS (lv_sub hl [0] rfl)
        ·
          have c_51 := mt (zeq (x := iZ (gz bf e2)) (y := iZ 10) rfl rfl (gz_rg bf e2) wn_10).mpr c_51
          refine lv_aload_n hx hb dX4_next_25 rfl (lv_at hl 0 rfl) ?_
          refine va_get (D := D) (ci := 4) (v := .ref tx) (C := RX4) (T := TX4) (N := 12) hx hb hts iX4 hown hK hP 0 rfl rfl 0 (bl rfl) (hts _ qf_X4_9) (fun _ h => h) rfl dX4_next_26 ?_
          refine lv_aload_n hx hb dX4_next_29 rfl (lv_at hl 0 rfl) ?_
          refine va_get (D := D) (ci := 4) (v := .int (iZ e2)) (C := RX4) (T := TX4) (N := 12) hx hb hts iX4 hown hK hP 0 rfl rfl 5 (bl rfl) (hts _ qf_X4_47) (fun _ h => h) rfl dX4_next_30 ?_
          refine va_bald hx hb hK hP 1 0 rfl rfl (zin (e := e2) (n := 900) ⟨by omega, by omega⟩ (bl rfl)) dX4_next_33 ?_
          refine lv_topi (fun x_53 ex_53 => ?_)
          obtain rfl : x_53 = iZ (gz bf e2) := ex_53.trans (gz_eq ⟨by omega, by omega⟩)
          have h_54 := gz_rg bf e2
          refine lv_bipush (v := iZ 32) hx hb dX4_next_34 bip_32 ?_
          refine lv_icmp_ne (tgt := 52) hx hb dX4_next_36 rfl (fun c_55 => ?_) (fun c_55 => ?_)
          ·
            have c_55 := mt (zeq (x := iZ (gz bf e2)) (y := iZ 32) rfl rfl (gz_rg bf e2) wn_32).mpr c_55
            refine lv_aload_n hx hb dX4_next_52 rfl (lv_at hl 0 rfl) ?_
            refine lv_aload_n hx hb dX4_next_53 rfl (lv_at hl 0 rfl) ?_
            refine va_get (D := D) (ci := 4) (v := .int (iZ e2)) (C := RX4) (T := TX4) (N := 12) hx hb hts iX4 hown hK hP 0 rfl rfl 5 (bl rfl) (hts _ qf_X4_47) (fun _ h => h) rfl dX4_next_54 ?_
            refine va_put (D := D) (ci := 4) (v := .int (iZ e2)) (ty := .int) (C := RX4) (T := TX4) (N := 12) hx hb hts iX4 tyX4 tyX4_ok nmX4 hown hK hP hD hS 0 rfl rfl 4 (bl rfl) (hts _ qf_X4_53) (fun _ h => h) rfl (by decide +kernel) rfl rfl (Nat.le_of_ble_eq_true rfl) dX4_next_57 (fun H locs hP hD hS => ?_)
            refine lv_aload_n hx hb dX4_next_60 rfl (lv_at hl 0 rfl) ?_
            refine lv_iconst (v := iZ (-1)) hx hb dX4_next_61 rfl ?_
            refine va_put (D := D) (ci := 4) (v := .int (iZ (-1))) (ty := .int) (C := RX4) (T := TX4) (N := 12) hx hb hts iX4 tyX4 tyX4_ok nmX4 hown hK hP hD hS 0 rfl rfl 8 (bl rfl) (hts _ qf_X4_56) (fun _ h => h) rfl (by decide +kernel) rfl rfl (Nat.le_of_ble_eq_true rfl) dX4_next_62 (fun H locs hP hD hS => ?_)
            refine lv_aload_n hx hb dX4_next_65 rfl (lv_at hl 0 rfl) ?_
            refine lv_ldc2 (own := RX4) (v := (-1)) hx hb hown (hts _ qk_X4_59) dX4_next_66 ?_
            refine va_put (D := D) (ci := 4) (v := .long (-1)) (ty := .long) (C := RX4) (T := TX4) (N := 12) hx hb hts iX4 tyX4 tyX4_ok nmX4 hown hK hP hD hS 0 rfl rfl 9 (bl rfl) (hts _ qf_X4_61) (fun _ h => h) rfl (by decide +kernel) rfl rfl (Nat.le_of_ble_eq_true rfl) dX4_next_69 (fun H locs hP hD hS => ?_)
            refine lv_aload_n hx hb dX4_next_72 rfl (lv_at hl 0 rfl) ?_
            refine lv_iconst (v := iZ (-1)) hx hb dX4_next_73 rfl ?_
            refine va_put (D := D) (ci := 4) (v := .int (iZ (-1))) (ty := .int) (C := RX4) (T := TX4) (N := 12) hx hb hts iX4 tyX4 tyX4_ok nmX4 hown hK hP hD hS 0 rfl rfl 7 (bl rfl) (hts _ qf_X4_65) (fun _ h => h) rfl (by decide +kernel) rfl rfl (Nat.le_of_ble_eq_true rfl) dX4_next_74 (fun H locs hP hD hS => ?_)
            refine lv_aload_n hx hb dX4_next_77 rfl (lv_at hl 0 rfl) ?_
            refine va_get (D := D) (ci := 4) (v := .int (iZ e2)) (C := RX4) (T := TX4) (N := 12) hx hb hts iX4 hown hK hP 0 rfl rfl 5 (bl rfl) (hts _ qf_X4_47) (fun _ h => h) rfl dX4_next_78 ?_
            refine lv_aload_n hx hb dX4_next_81 rfl (lv_at hl 0 rfl) ?_
            refine va_get (D := D) (ci := 4) (v := .int (iZ ln)) (C := RX4) (T := TX4) (N := 12) hx hb hts iX4 hown hK hP 0 rfl rfl 3 (bl rfl) (hts _ qf_X4_45) (fun _ h => h) rfl dX4_next_82 ?_
            refine lv_icmp_lt (tgt := 96) hx hb dX4_next_85 rfl (fun c_56 => ?_) (fun c_56 => ?_)
            ·
              have c_56 := (zlt (x := iZ e2) (y := iZ ln) rfl rfl ⟨by omega, by omega⟩ ⟨by omega, by omega⟩).mp c_56
              refine lv_aload_n hx hb dX4_next_96 rfl (lv_at hl 0 rfl) ?_
              refine va_get (D := D) (ci := 4) (v := .ref tx) (C := RX4) (T := TX4) (N := 12) hx hb hts iX4 hown hK hP 0 rfl rfl 0 (bl rfl) (hts _ qf_X4_9) (fun _ h => h) rfl dX4_next_97 ?_
              refine lv_aload_n hx hb dX4_next_100 rfl (lv_at hl 0 rfl) ?_
              refine va_get (D := D) (ci := 4) (v := .int (iZ e2)) (C := RX4) (T := TX4) (N := 12) hx hb hts iX4 hown hK hP 0 rfl rfl 5 (bl rfl) (hts _ qf_X4_47) (fun _ h => h) rfl dX4_next_101 ?_
              refine va_bald hx hb hK hP 1 0 rfl rfl (zin (e := e2) (n := 900) ⟨by omega, by omega⟩ (bl rfl)) dX4_next_104 ?_
              refine lv_topi (fun x_57 ex_57 => ?_)
              obtain rfl : x_57 = iZ (gz bf e2) := ex_57.trans (gz_eq ⟨by omega, by omega⟩)
              have h_58 := gz_rg bf e2
              refine lv_bipush (v := iZ 97) hx hb dX4_next_105 bip_97 ?_
              refine lv_icmp_lt (tgt := 131) hx hb dX4_next_107 rfl (fun c_59 => ?_) (fun c_59 => ?_)
              ·
                have c_59 := (zlt (x := iZ (gz bf e2)) (y := iZ 97) rfl rfl (gz_rg bf e2) wn_97).mp c_59
                refine lv_aload_n hx hb dX4_next_131 rfl (lv_at hl 0 rfl) ?_
                refine va_get (D := D) (ci := 4) (v := .ref tx) (C := RX4) (T := TX4) (N := 12) hx hb hts iX4 hown hK hP 0 rfl rfl 0 (bl rfl) (hts _ qf_X4_9) (fun _ h => h) rfl dX4_next_132 ?_
                refine lv_aload_n hx hb dX4_next_135 rfl (lv_at hl 0 rfl) ?_
                refine va_get (D := D) (ci := 4) (v := .int (iZ e2)) (C := RX4) (T := TX4) (N := 12) hx hb hts iX4 hown hK hP 0 rfl rfl 5 (bl rfl) (hts _ qf_X4_47) (fun _ h => h) rfl dX4_next_136 ?_
                refine va_bald hx hb hK hP 1 0 rfl rfl (zin (e := e2) (n := 900) ⟨by omega, by omega⟩ (bl rfl)) dX4_next_139 ?_
                refine lv_topi (fun x_60 ex_60 => ?_)
                obtain rfl : x_60 = iZ (gz bf e2) := ex_60.trans (gz_eq ⟨by omega, by omega⟩)
                have h_61 := gz_rg bf e2
                refine lv_bipush (v := iZ 48) hx hb dX4_next_140 bip_48 ?_
                refine lv_icmp_lt (tgt := 166) hx hb dX4_next_142 rfl (fun c_62 => ?_) (fun c_62 => ?_)
                ·
                  have c_62 := (zlt (x := iZ (gz bf e2)) (y := iZ 48) rfl rfl (gz_rg bf e2) wn_48).mp c_62
                  refine lv_aload_n hx hb dX4_next_166 rfl (lv_at hl 0 rfl) ?_
                  refine CWV (As := []) (rest := []) (wc := _) (wr := []) hx hb hml hown hts hKK hP hD hS hA (k_readSign l D k hr1 tx kw bf kwf tp ln e2 e2 ki (-1) (-1) fk fp (-1) (show RDI _ from (show (0 ≤ tp ∧ tp ≤ 900) ∧ (0 ≤ ln ∧ ln ≤ 900) ∧ (0 ≤ e2 ∧ e2 ≤ e2) ∧ (e2 ≤ ln) ∧ (0 ≤ ki ∧ ki ≤ 4) ∧ (-2147483648 ≤ (-1) ∧ (-1) < 2147483648) ∧ (-1 ≤ (-1) ∧ (-1) ≤ 24) from ⟨⟨by omega, by omega⟩, ⟨by omega, by omega⟩, ⟨by omega, by omega⟩, by omega, ⟨by omega, by omega⟩, ⟨by omega, by omega⟩, by omega, by omega⟩))  (by omega)) ci_X4_readSign qm_X4_77 ⟨Nat.le_of_ble_eq_true rfl, Nat.le_of_ble_eq_true rfl⟩ ⟨Nat.le_of_ble_eq_true rfl, Nat.le_of_ble_eq_true rfl⟩ [0, 1, 2] [] rfl rfl rfl rfl rfl (dj rfl) 0 rfl rfl rfl hl.1 rfl (Nat.le_of_ble_eq_true rfl) dX4_next_167 (fun u_63 H locs hφ hP hD hS => ?_)
                  obtain ⟨I_64, nm_65⟩ := u_63
                  obtain ⟨ah_66, b1h_66, b2h_66, b3h_66, b4h_66, b5h_66, b6h_66, b7h_66⟩ := hφ
                  dsimp only at ah_66 b1h_66 b2h_66 b3h_66 b4h_66 b5h_66 b6h_66 b7h_66
                  refine W.eq (g2 := F0 m 170 ls []) rfl ?_
                  exact EWv hx hb hr hlocks hS (fun i => [0, (I_64 1), (I_64 2), (I_64 3), (I_64 4), (I_64 5), (I_64 6), (I_64 7), (I_64 8), (I_64 9)].getD i 0, nm_65) rfl ⟨show (I_64 1) = tp from (by omega), (show RDI _ from (show (0 ≤ (I_64 1) ∧ (I_64 1) ≤ 900) ∧ (0 ≤ (I_64 2) ∧ (I_64 2) ≤ 900) ∧ (0 ≤ (I_64 3) ∧ (I_64 3) ≤ (I_64 4)) ∧ ((I_64 4) ≤ (I_64 2)) ∧ (0 ≤ (I_64 5) ∧ (I_64 5) ≤ 4) ∧ (-2147483648 ≤ (I_64 6) ∧ (I_64 6) < 2147483648) ∧ (-1 ≤ (I_64 7) ∧ (I_64 7) ≤ 24) from ⟨b1h_66, b2h_66, b3h_66, b4h_66, b5h_66, b6h_66, b7h_66⟩))⟩ (hP.sub [0, 1, 2] rfl) (hD.sub [0, 1, 2] rfl rfl) dX4_next_170
                ·
                  have c_62 := mt (zlt (x := iZ (gz bf e2)) (y := iZ 48) rfl rfl (gz_rg bf e2) wn_48).mpr c_62
                  refine lv_aload_n hx hb dX4_next_145 rfl (lv_at hl 0 rfl) ?_
                  refine va_get (D := D) (ci := 4) (v := .ref tx) (C := RX4) (T := TX4) (N := 12) hx hb hts iX4 hown hK hP 0 rfl rfl 0 (bl rfl) (hts _ qf_X4_9) (fun _ h => h) rfl dX4_next_146 ?_
                  refine lv_aload_n hx hb dX4_next_149 rfl (lv_at hl 0 rfl) ?_
                  refine va_get (D := D) (ci := 4) (v := .int (iZ e2)) (C := RX4) (T := TX4) (N := 12) hx hb hts iX4 hown hK hP 0 rfl rfl 5 (bl rfl) (hts _ qf_X4_47) (fun _ h => h) rfl dX4_next_150 ?_
                  refine va_bald hx hb hK hP 1 0 rfl rfl (zin (e := e2) (n := 900) ⟨by omega, by omega⟩ (bl rfl)) dX4_next_153 ?_
                  refine lv_topi (fun x_67 ex_67 => ?_)
                  obtain rfl : x_67 = iZ (gz bf e2) := ex_67.trans (gz_eq ⟨by omega, by omega⟩)
                  have h_68 := gz_rg bf e2
                  refine lv_bipush (v := iZ 57) hx hb dX4_next_154 bip_57 ?_
                  refine lv_icmp_gt (tgt := 166) hx hb dX4_next_156 rfl (fun c_69 => ?_) (fun c_69 => ?_)
                  ·
                    have c_69 := (zlt (x := iZ 57) (y := iZ (gz bf e2)) rfl rfl wn_57 (gz_rg bf e2)).mp c_69
                    refine lv_aload_n hx hb dX4_next_166 rfl (lv_at hl 0 rfl) ?_
                    refine CWV (As := []) (rest := []) (wc := _) (wr := []) hx hb hml hown hts hKK hP hD hS hA (k_readSign l D k hr1 tx kw bf kwf tp ln e2 e2 ki (-1) (-1) fk fp (-1) (show RDI _ from (show (0 ≤ tp ∧ tp ≤ 900) ∧ (0 ≤ ln ∧ ln ≤ 900) ∧ (0 ≤ e2 ∧ e2 ≤ e2) ∧ (e2 ≤ ln) ∧ (0 ≤ ki ∧ ki ≤ 4) ∧ (-2147483648 ≤ (-1) ∧ (-1) < 2147483648) ∧ (-1 ≤ (-1) ∧ (-1) ≤ 24) from ⟨⟨by omega, by omega⟩, ⟨by omega, by omega⟩, ⟨by omega, by omega⟩, by omega, ⟨by omega, by omega⟩, ⟨by omega, by omega⟩, by omega, by omega⟩))  (by omega)) ci_X4_readSign qm_X4_77 ⟨Nat.le_of_ble_eq_true rfl, Nat.le_of_ble_eq_true rfl⟩ ⟨Nat.le_of_ble_eq_true rfl, Nat.le_of_ble_eq_true rfl⟩ [0, 1, 2] [] rfl rfl rfl rfl rfl (dj rfl) 0 rfl rfl rfl hl.1 rfl (Nat.le_of_ble_eq_true rfl) dX4_next_167 (fun u_70 H locs hφ hP hD hS => ?_)
                    obtain ⟨I_71, nm_72⟩ := u_70
                    obtain ⟨ah_73, b1h_73, b2h_73, b3h_73, b4h_73, b5h_73, b6h_73, b7h_73⟩ := hφ
                    dsimp only at ah_73 b1h_73 b2h_73 b3h_73 b4h_73 b5h_73 b6h_73 b7h_73
                    refine W.eq (g2 := F0 m 170 ls []) rfl ?_
                    exact EWv hx hb hr hlocks hS (fun i => [0, (I_71 1), (I_71 2), (I_71 3), (I_71 4), (I_71 5), (I_71 6), (I_71 7), (I_71 8), (I_71 9)].getD i 0, nm_72) rfl ⟨show (I_71 1) = tp from (by omega), (show RDI _ from (show (0 ≤ (I_71 1) ∧ (I_71 1) ≤ 900) ∧ (0 ≤ (I_71 2) ∧ (I_71 2) ≤ 900) ∧ (0 ≤ (I_71 3) ∧ (I_71 3) ≤ (I_71 4)) ∧ ((I_71 4) ≤ (I_71 2)) ∧ (0 ≤ (I_71 5) ∧ (I_71 5) ≤ 4) ∧ (-2147483648 ≤ (I_71 6) ∧ (I_71 6) < 2147483648) ∧ (-1 ≤ (I_71 7) ∧ (I_71 7) ≤ 24) from ⟨b1h_73, b2h_73, b3h_73, b4h_73, b5h_73, b6h_73, b7h_73⟩))⟩ (hP.sub [0, 1, 2] rfl) (hD.sub [0, 1, 2] rfl rfl) dX4_next_170
                  ·
                    have c_69 := mt (zlt (x := iZ 57) (y := iZ (gz bf e2)) rfl rfl wn_57 (gz_rg bf e2)).mpr c_69
                    refine lv_aload_n hx hb dX4_next_159 rfl (lv_at hl 0 rfl) ?_
                    refine CWV (As := []) (rest := []) (wc := _) (wr := []) hx hb hml hown hts hKK hP hD hS hA (k_readNumber l D k hr1 tx kw bf kwf tp ln e2 e2 ki (-1) (-1) fk fp (-1) (show RDI _ from (show (0 ≤ tp ∧ tp ≤ 900) ∧ (0 ≤ ln ∧ ln ≤ 900) ∧ (0 ≤ e2 ∧ e2 ≤ e2) ∧ (e2 ≤ ln) ∧ (0 ≤ ki ∧ ki ≤ 4) ∧ (-2147483648 ≤ (-1) ∧ (-1) < 2147483648) ∧ (-1 ≤ (-1) ∧ (-1) ≤ 24) from ⟨⟨by omega, by omega⟩, ⟨by omega, by omega⟩, ⟨by omega, by omega⟩, by omega, ⟨by omega, by omega⟩, ⟨by omega, by omega⟩, by omega, by omega⟩))  ) ci_X4_readNumber qm_X4_74 ⟨Nat.le_of_ble_eq_true rfl, Nat.le_of_ble_eq_true rfl⟩ ⟨Nat.le_of_ble_eq_true rfl, Nat.le_of_ble_eq_true rfl⟩ [0, 1, 2] [] rfl rfl rfl rfl rfl (dj rfl) 0 rfl rfl rfl hl.1 rfl (Nat.le_of_ble_eq_true rfl) dX4_next_160 (fun u_74 H locs hφ hP hD hS => ?_)
                    obtain ⟨I_75, nm_76⟩ := u_74
                    obtain ⟨ah_77, b1h_77, b2h_77, b3h_77, b4h_77, b5h_77, b6h_77, b7h_77⟩ := hφ
                    dsimp only at ah_77 b1h_77 b2h_77 b3h_77 b4h_77 b5h_77 b6h_77 b7h_77
                    refine W.eq (g2 := F0 m 163 ls []) rfl ?_
                    refine lv_goto (tgt := 170) hx hb dX4_next_163 rfl ?_
                    exact EWv hx hb hr hlocks hS (fun i => [0, (I_75 1), (I_75 2), (I_75 3), (I_75 4), (I_75 5), (I_75 6), (I_75 7), (I_75 8), (I_75 9)].getD i 0, nm_76) rfl ⟨show (I_75 1) = tp from (by omega), (show RDI _ from (show (0 ≤ (I_75 1) ∧ (I_75 1) ≤ 900) ∧ (0 ≤ (I_75 2) ∧ (I_75 2) ≤ 900) ∧ (0 ≤ (I_75 3) ∧ (I_75 3) ≤ (I_75 4)) ∧ ((I_75 4) ≤ (I_75 2)) ∧ (0 ≤ (I_75 5) ∧ (I_75 5) ≤ 4) ∧ (-2147483648 ≤ (I_75 6) ∧ (I_75 6) < 2147483648) ∧ (-1 ≤ (I_75 7) ∧ (I_75 7) ≤ 24) from ⟨b1h_77, b2h_77, b3h_77, b4h_77, b5h_77, b6h_77, b7h_77⟩))⟩ (hP.sub [0, 1, 2] rfl) (hD.sub [0, 1, 2] rfl rfl) dX4_next_170
              ·
                have c_59 := mt (zlt (x := iZ (gz bf e2)) (y := iZ 97) rfl rfl (gz_rg bf e2) wn_97).mpr c_59
                refine lv_aload_n hx hb dX4_next_110 rfl (lv_at hl 0 rfl) ?_
                refine va_get (D := D) (ci := 4) (v := .ref tx) (C := RX4) (T := TX4) (N := 12) hx hb hts iX4 hown hK hP 0 rfl rfl 0 (bl rfl) (hts _ qf_X4_9) (fun _ h => h) rfl dX4_next_111 ?_
                refine lv_aload_n hx hb dX4_next_114 rfl (lv_at hl 0 rfl) ?_
                refine va_get (D := D) (ci := 4) (v := .int (iZ e2)) (C := RX4) (T := TX4) (N := 12) hx hb hts iX4 hown hK hP 0 rfl rfl 5 (bl rfl) (hts _ qf_X4_47) (fun _ h => h) rfl dX4_next_115 ?_
                refine va_bald hx hb hK hP 1 0 rfl rfl (zin (e := e2) (n := 900) ⟨by omega, by omega⟩ (bl rfl)) dX4_next_118 ?_
                refine lv_topi (fun x_78 ex_78 => ?_)
                obtain rfl : x_78 = iZ (gz bf e2) := ex_78.trans (gz_eq ⟨by omega, by omega⟩)
                have h_79 := gz_rg bf e2
                refine lv_bipush (v := iZ 122) hx hb dX4_next_119 bip_122 ?_
                refine lv_icmp_gt (tgt := 131) hx hb dX4_next_121 rfl (fun c_80 => ?_) (fun c_80 => ?_)
                ·
                  have c_80 := (zlt (x := iZ 122) (y := iZ (gz bf e2)) rfl rfl wn_122 (gz_rg bf e2)).mp c_80
                  refine lv_aload_n hx hb dX4_next_131 rfl (lv_at hl 0 rfl) ?_
                  refine va_get (D := D) (ci := 4) (v := .ref tx) (C := RX4) (T := TX4) (N := 12) hx hb hts iX4 hown hK hP 0 rfl rfl 0 (bl rfl) (hts _ qf_X4_9) (fun _ h => h) rfl dX4_next_132 ?_
                  refine lv_aload_n hx hb dX4_next_135 rfl (lv_at hl 0 rfl) ?_
                  refine va_get (D := D) (ci := 4) (v := .int (iZ e2)) (C := RX4) (T := TX4) (N := 12) hx hb hts iX4 hown hK hP 0 rfl rfl 5 (bl rfl) (hts _ qf_X4_47) (fun _ h => h) rfl dX4_next_136 ?_
                  refine va_bald hx hb hK hP 1 0 rfl rfl (zin (e := e2) (n := 900) ⟨by omega, by omega⟩ (bl rfl)) dX4_next_139 ?_
                  refine lv_topi (fun x_81 ex_81 => ?_)
                  obtain rfl : x_81 = iZ (gz bf e2) := ex_81.trans (gz_eq ⟨by omega, by omega⟩)
                  have h_82 := gz_rg bf e2
                  refine lv_bipush (v := iZ 48) hx hb dX4_next_140 bip_48 ?_
                  refine lv_icmp_lt (tgt := 166) hx hb dX4_next_142 rfl (fun c_83 => ?_) (fun c_83 => ?_)
                  ·
                    have c_83 := (zlt (x := iZ (gz bf e2)) (y := iZ 48) rfl rfl (gz_rg bf e2) wn_48).mp c_83
                    refine lv_aload_n hx hb dX4_next_166 rfl (lv_at hl 0 rfl) ?_
                    refine CWV (As := []) (rest := []) (wc := _) (wr := []) hx hb hml hown hts hKK hP hD hS hA (k_readSign l D k hr1 tx kw bf kwf tp ln e2 e2 ki (-1) (-1) fk fp (-1) (show RDI _ from (show (0 ≤ tp ∧ tp ≤ 900) ∧ (0 ≤ ln ∧ ln ≤ 900) ∧ (0 ≤ e2 ∧ e2 ≤ e2) ∧ (e2 ≤ ln) ∧ (0 ≤ ki ∧ ki ≤ 4) ∧ (-2147483648 ≤ (-1) ∧ (-1) < 2147483648) ∧ (-1 ≤ (-1) ∧ (-1) ≤ 24) from ⟨⟨by omega, by omega⟩, ⟨by omega, by omega⟩, ⟨by omega, by omega⟩, by omega, ⟨by omega, by omega⟩, ⟨by omega, by omega⟩, by omega, by omega⟩))  (by omega)) ci_X4_readSign qm_X4_77 ⟨Nat.le_of_ble_eq_true rfl, Nat.le_of_ble_eq_true rfl⟩ ⟨Nat.le_of_ble_eq_true rfl, Nat.le_of_ble_eq_true rfl⟩ [0, 1, 2] [] rfl rfl rfl rfl rfl (dj rfl) 0 rfl rfl rfl hl.1 rfl (Nat.le_of_ble_eq_true rfl) dX4_next_167 (fun u_84 H locs hφ hP hD hS => ?_)
                    obtain ⟨I_85, nm_86⟩ := u_84
                    obtain ⟨ah_87, b1h_87, b2h_87, b3h_87, b4h_87, b5h_87, b6h_87, b7h_87⟩ := hφ
                    dsimp only at ah_87 b1h_87 b2h_87 b3h_87 b4h_87 b5h_87 b6h_87 b7h_87
                    refine W.eq (g2 := F0 m 170 ls []) rfl ?_
                    exact EWv hx hb hr hlocks hS (fun i => [0, (I_85 1), (I_85 2), (I_85 3), (I_85 4), (I_85 5), (I_85 6), (I_85 7), (I_85 8), (I_85 9)].getD i 0, nm_86) rfl ⟨show (I_85 1) = tp from (by omega), (show RDI _ from (show (0 ≤ (I_85 1) ∧ (I_85 1) ≤ 900) ∧ (0 ≤ (I_85 2) ∧ (I_85 2) ≤ 900) ∧ (0 ≤ (I_85 3) ∧ (I_85 3) ≤ (I_85 4)) ∧ ((I_85 4) ≤ (I_85 2)) ∧ (0 ≤ (I_85 5) ∧ (I_85 5) ≤ 4) ∧ (-2147483648 ≤ (I_85 6) ∧ (I_85 6) < 2147483648) ∧ (-1 ≤ (I_85 7) ∧ (I_85 7) ≤ 24) from ⟨b1h_87, b2h_87, b3h_87, b4h_87, b5h_87, b6h_87, b7h_87⟩))⟩ (hP.sub [0, 1, 2] rfl) (hD.sub [0, 1, 2] rfl rfl) dX4_next_170
                  ·
                    have c_83 := mt (zlt (x := iZ (gz bf e2)) (y := iZ 48) rfl rfl (gz_rg bf e2) wn_48).mpr c_83
                    refine lv_aload_n hx hb dX4_next_145 rfl (lv_at hl 0 rfl) ?_
                    refine va_get (D := D) (ci := 4) (v := .ref tx) (C := RX4) (T := TX4) (N := 12) hx hb hts iX4 hown hK hP 0 rfl rfl 0 (bl rfl) (hts _ qf_X4_9) (fun _ h => h) rfl dX4_next_146 ?_
                    refine lv_aload_n hx hb dX4_next_149 rfl (lv_at hl 0 rfl) ?_
                    refine va_get (D := D) (ci := 4) (v := .int (iZ e2)) (C := RX4) (T := TX4) (N := 12) hx hb hts iX4 hown hK hP 0 rfl rfl 5 (bl rfl) (hts _ qf_X4_47) (fun _ h => h) rfl dX4_next_150 ?_
                    refine va_bald hx hb hK hP 1 0 rfl rfl (zin (e := e2) (n := 900) ⟨by omega, by omega⟩ (bl rfl)) dX4_next_153 ?_
                    refine lv_topi (fun x_88 ex_88 => ?_)
                    obtain rfl : x_88 = iZ (gz bf e2) := ex_88.trans (gz_eq ⟨by omega, by omega⟩)
                    have h_89 := gz_rg bf e2
                    refine lv_bipush (v := iZ 57) hx hb dX4_next_154 bip_57 ?_
                    refine lv_icmp_gt (tgt := 166) hx hb dX4_next_156 rfl (fun c_90 => ?_) (fun c_90 => ?_)
                    ·
                      have c_90 := (zlt (x := iZ 57) (y := iZ (gz bf e2)) rfl rfl wn_57 (gz_rg bf e2)).mp c_90
                      refine lv_aload_n hx hb dX4_next_166 rfl (lv_at hl 0 rfl) ?_
                      refine CWV (As := []) (rest := []) (wc := _) (wr := []) hx hb hml hown hts hKK hP hD hS hA (k_readSign l D k hr1 tx kw bf kwf tp ln e2 e2 ki (-1) (-1) fk fp (-1) (show RDI _ from (show (0 ≤ tp ∧ tp ≤ 900) ∧ (0 ≤ ln ∧ ln ≤ 900) ∧ (0 ≤ e2 ∧ e2 ≤ e2) ∧ (e2 ≤ ln) ∧ (0 ≤ ki ∧ ki ≤ 4) ∧ (-2147483648 ≤ (-1) ∧ (-1) < 2147483648) ∧ (-1 ≤ (-1) ∧ (-1) ≤ 24) from ⟨⟨by omega, by omega⟩, ⟨by omega, by omega⟩, ⟨by omega, by omega⟩, by omega, ⟨by omega, by omega⟩, ⟨by omega, by omega⟩, by omega, by omega⟩))  (by omega)) ci_X4_readSign qm_X4_77 ⟨Nat.le_of_ble_eq_true rfl, Nat.le_of_ble_eq_true rfl⟩ ⟨Nat.le_of_ble_eq_true rfl, Nat.le_of_ble_eq_true rfl⟩ [0, 1, 2] [] rfl rfl rfl rfl rfl (dj rfl) 0 rfl rfl rfl hl.1 rfl (Nat.le_of_ble_eq_true rfl) dX4_next_167 (fun u_91 H locs hφ hP hD hS => ?_)
                      obtain ⟨I_92, nm_93⟩ := u_91
                      obtain ⟨ah_94, b1h_94, b2h_94, b3h_94, b4h_94, b5h_94, b6h_94, b7h_94⟩ := hφ
                      dsimp only at ah_94 b1h_94 b2h_94 b3h_94 b4h_94 b5h_94 b6h_94 b7h_94
                      refine W.eq (g2 := F0 m 170 ls []) rfl ?_
                      exact EWv hx hb hr hlocks hS (fun i => [0, (I_92 1), (I_92 2), (I_92 3), (I_92 4), (I_92 5), (I_92 6), (I_92 7), (I_92 8), (I_92 9)].getD i 0, nm_93) rfl ⟨show (I_92 1) = tp from (by omega), (show RDI _ from (show (0 ≤ (I_92 1) ∧ (I_92 1) ≤ 900) ∧ (0 ≤ (I_92 2) ∧ (I_92 2) ≤ 900) ∧ (0 ≤ (I_92 3) ∧ (I_92 3) ≤ (I_92 4)) ∧ ((I_92 4) ≤ (I_92 2)) ∧ (0 ≤ (I_92 5) ∧ (I_92 5) ≤ 4) ∧ (-2147483648 ≤ (I_92 6) ∧ (I_92 6) < 2147483648) ∧ (-1 ≤ (I_92 7) ∧ (I_92 7) ≤ 24) from ⟨b1h_94, b2h_94, b3h_94, b4h_94, b5h_94, b6h_94, b7h_94⟩))⟩ (hP.sub [0, 1, 2] rfl) (hD.sub [0, 1, 2] rfl rfl) dX4_next_170
                    ·
                      have c_90 := mt (zlt (x := iZ 57) (y := iZ (gz bf e2)) rfl rfl wn_57 (gz_rg bf e2)).mpr c_90
                      refine lv_aload_n hx hb dX4_next_159 rfl (lv_at hl 0 rfl) ?_
                      refine CWV (As := []) (rest := []) (wc := _) (wr := []) hx hb hml hown hts hKK hP hD hS hA (k_readNumber l D k hr1 tx kw bf kwf tp ln e2 e2 ki (-1) (-1) fk fp (-1) (show RDI _ from (show (0 ≤ tp ∧ tp ≤ 900) ∧ (0 ≤ ln ∧ ln ≤ 900) ∧ (0 ≤ e2 ∧ e2 ≤ e2) ∧ (e2 ≤ ln) ∧ (0 ≤ ki ∧ ki ≤ 4) ∧ (-2147483648 ≤ (-1) ∧ (-1) < 2147483648) ∧ (-1 ≤ (-1) ∧ (-1) ≤ 24) from ⟨⟨by omega, by omega⟩, ⟨by omega, by omega⟩, ⟨by omega, by omega⟩, by omega, ⟨by omega, by omega⟩, ⟨by omega, by omega⟩, by omega, by omega⟩))  ) ci_X4_readNumber qm_X4_74 ⟨Nat.le_of_ble_eq_true rfl, Nat.le_of_ble_eq_true rfl⟩ ⟨Nat.le_of_ble_eq_true rfl, Nat.le_of_ble_eq_true rfl⟩ [0, 1, 2] [] rfl rfl rfl rfl rfl (dj rfl) 0 rfl rfl rfl hl.1 rfl (Nat.le_of_ble_eq_true rfl) dX4_next_160 (fun u_95 H locs hφ hP hD hS => ?_)
                      obtain ⟨I_96, nm_97⟩ := u_95
                      obtain ⟨ah_98, b1h_98, b2h_98, b3h_98, b4h_98, b5h_98, b6h_98, b7h_98⟩ := hφ
                      dsimp only at ah_98 b1h_98 b2h_98 b3h_98 b4h_98 b5h_98 b6h_98 b7h_98
                      refine W.eq (g2 := F0 m 163 ls []) rfl ?_
                      refine lv_goto (tgt := 170) hx hb dX4_next_163 rfl ?_
                      exact EWv hx hb hr hlocks hS (fun i => [0, (I_96 1), (I_96 2), (I_96 3), (I_96 4), (I_96 5), (I_96 6), (I_96 7), (I_96 8), (I_96 9)].getD i 0, nm_97) rfl ⟨show (I_96 1) = tp from (by omega), (show RDI _ from (show (0 ≤ (I_96 1) ∧ (I_96 1) ≤ 900) ∧ (0 ≤ (I_96 2) ∧ (I_96 2) ≤ 900) ∧ (0 ≤ (I_96 3) ∧ (I_96 3) ≤ (I_96 4)) ∧ ((I_96 4) ≤ (I_96 2)) ∧ (0 ≤ (I_96 5) ∧ (I_96 5) ≤ 4) ∧ (-2147483648 ≤ (I_96 6) ∧ (I_96 6) < 2147483648) ∧ (-1 ≤ (I_96 7) ∧ (I_96 7) ≤ 24) from ⟨b1h_98, b2h_98, b3h_98, b4h_98, b5h_98, b6h_98, b7h_98⟩))⟩ (hP.sub [0, 1, 2] rfl) (hD.sub [0, 1, 2] rfl rfl) dX4_next_170
                ·
                  have c_80 := mt (zlt (x := iZ 122) (y := iZ (gz bf e2)) rfl rfl wn_122 (gz_rg bf e2)).mpr c_80
                  refine lv_aload_n hx hb dX4_next_124 rfl (lv_at hl 0 rfl) ?_
                  refine CWV (As := []) (rest := []) (wc := _) (wr := []) hx hb hml hown hts hKK hP hD hS hA (k_readWord l D k hr1 tx kw bf kwf tp ln e2 e2 ki (-1) (-1) fk fp (-1) (show RDI _ from (show (0 ≤ tp ∧ tp ≤ 900) ∧ (0 ≤ ln ∧ ln ≤ 900) ∧ (0 ≤ e2 ∧ e2 ≤ e2) ∧ (e2 ≤ ln) ∧ (0 ≤ ki ∧ ki ≤ 4) ∧ (-2147483648 ≤ (-1) ∧ (-1) < 2147483648) ∧ (-1 ≤ (-1) ∧ (-1) ≤ 24) from ⟨⟨by omega, by omega⟩, ⟨by omega, by omega⟩, ⟨by omega, by omega⟩, by omega, ⟨by omega, by omega⟩, ⟨by omega, by omega⟩, by omega, by omega⟩))  ) ci_X4_readWord qm_X4_71 ⟨Nat.le_of_ble_eq_true rfl, Nat.le_of_ble_eq_true rfl⟩ ⟨Nat.le_of_ble_eq_true rfl, Nat.le_of_ble_eq_true rfl⟩ [0, 1, 2] [] rfl rfl rfl rfl rfl (dj rfl) 0 rfl rfl rfl hl.1 rfl (Nat.le_of_ble_eq_true rfl) dX4_next_125 (fun u_99 H locs hφ hP hD hS => ?_)
                  obtain ⟨I_100, nm_101⟩ := u_99
                  obtain ⟨ah_102, b1h_102, b2h_102, b3h_102, b4h_102, b5h_102, b6h_102, b7h_102⟩ := hφ
                  dsimp only at ah_102 b1h_102 b2h_102 b3h_102 b4h_102 b5h_102 b6h_102 b7h_102
                  refine W.eq (g2 := F0 m 128 ls []) rfl ?_
                  refine lv_goto (tgt := 170) hx hb dX4_next_128 rfl ?_
                  exact EWv hx hb hr hlocks hS (fun i => [0, (I_100 1), (I_100 2), (I_100 3), (I_100 4), (I_100 5), (I_100 6), (I_100 7), (I_100 8), (I_100 9)].getD i 0, nm_101) rfl ⟨show (I_100 1) = tp from (by omega), (show RDI _ from (show (0 ≤ (I_100 1) ∧ (I_100 1) ≤ 900) ∧ (0 ≤ (I_100 2) ∧ (I_100 2) ≤ 900) ∧ (0 ≤ (I_100 3) ∧ (I_100 3) ≤ (I_100 4)) ∧ ((I_100 4) ≤ (I_100 2)) ∧ (0 ≤ (I_100 5) ∧ (I_100 5) ≤ 4) ∧ (-2147483648 ≤ (I_100 6) ∧ (I_100 6) < 2147483648) ∧ (-1 ≤ (I_100 7) ∧ (I_100 7) ≤ 24) from ⟨b1h_102, b2h_102, b3h_102, b4h_102, b5h_102, b6h_102, b7h_102⟩))⟩ (hP.sub [0, 1, 2] rfl) (hD.sub [0, 1, 2] rfl rfl) dX4_next_170
            ·
              have c_56 := mt (zlt (x := iZ e2) (y := iZ ln) rfl rfl ⟨by omega, by omega⟩ ⟨by omega, by omega⟩).mpr c_56
              refine lv_aload_n hx hb dX4_next_88 rfl (lv_at hl 0 rfl) ?_
              refine lv_iconst (v := iZ 0) hx hb dX4_next_89 rfl ?_
              refine va_put (D := D) (ci := 4) (v := .int (iZ 0)) (ty := .int) (C := RX4) (T := TX4) (N := 12) hx hb hts iX4 tyX4 tyX4_ok nmX4 hown hK hP hD hS 0 rfl rfl 6 (bl rfl) (hts _ qf_X4_68) (fun _ h => h) rfl (by decide +kernel) rfl rfl (Nat.le_of_ble_eq_true rfl) dX4_next_90 (fun H locs hP hD hS => ?_)
              refine lv_goto (tgt := 170) hx hb dX4_next_93 rfl ?_
              exact EWv hx hb hr hlocks hS (fun i => [0, tp, ln, e2, e2, 0, (-1), (-1), fk, fp].getD i 0, (-1)) rfl ⟨show tp = tp from (by omega), (show RDI _ from (show (0 ≤ tp ∧ tp ≤ 900) ∧ (0 ≤ ln ∧ ln ≤ 900) ∧ (0 ≤ e2 ∧ e2 ≤ e2) ∧ (e2 ≤ ln) ∧ (0 ≤ 0 ∧ 0 ≤ 4) ∧ (-2147483648 ≤ (-1) ∧ (-1) < 2147483648) ∧ (-1 ≤ (-1) ∧ (-1) ≤ 24) from ⟨⟨by omega, by omega⟩, ⟨by omega, by omega⟩, ⟨by omega, by omega⟩, by omega, ⟨by omega, by omega⟩, ⟨by omega, by omega⟩, by omega, by omega⟩))⟩ (hP.sub [0, 1, 2] rfl) (hD.sub [0, 1, 2] rfl rfl) dX4_next_170
          ·
            have c_55 := (zeq (x := iZ (gz bf e2)) (y := iZ 32) rfl rfl (gz_rg bf e2) wn_32).mp c_55
            refine lv_aload_n hx hb dX4_next_39 rfl (lv_at hl 0 rfl) ?_
            refine lv_dup hx hb dX4_next_40 rfl ?_
            refine va_get (D := D) (ci := 4) (v := .int (iZ e2)) (C := RX4) (T := TX4) (N := 12) hx hb hts iX4 hown hK hP 0 rfl rfl 5 (bl rfl) (hts _ qf_X4_47) (fun _ h => h) rfl dX4_next_41 ?_
            refine lv_iconst (v := iZ 1) hx hb dX4_next_44 rfl ?_
            refine lv_iadd hx hb dX4_next_45 ?_
            refine lv_topi (fun x_103 ex_103 => ?_)
            obtain rfl : x_103 = iZ (e2 + 1) := ex_103.trans (iZ_add e2 1)
            refine va_put (D := D) (ci := 4) (v := .int (iZ (e2 + 1))) (ty := .int) (C := RX4) (T := TX4) (N := 12) hx hb hts iX4 tyX4 tyX4_ok nmX4 hown hK hP hD hS 0 rfl rfl 5 (bl rfl) (hts _ qf_X4_47) (fun _ h => h) rfl (by decide +kernel) rfl rfl (Nat.le_of_ble_eq_true rfl) dX4_next_46 (fun H locs hP hD hS => ?_)
            refine lv_goto (tgt := 0) hx hb dX4_next_49 rfl ?_
            exact ih1  _ _ _ _ (by omega) (by omega) (by omega) (hP.sub [0, 1, 2] rfl) (hD.sub [0, 1, 2] rfl rfl) hS (lv_sub hl [0] rfl)
  exact HL1 902 _ _ _ _ (by omega) (by omega) (by omega) (hP.sub [0, 1, 2] rfl) (hD.sub [0, 1, 2] rfl rfl) hS (lv_sub hl [0] rfl)
end
