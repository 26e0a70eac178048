section
theorem qf_X8_12 : Cond.fieldLink RX8 12 "SlowWorlds$World" "sky" "LSlowWorlds$Sky;" ∈ gw := tbt (tb1 (List.mem_of_getElem? (i := 168) rfl)) rfl
theorem iX8 : ∀ w ∈ u_ws RX8 TX8 3, w ∈ gw := by
  intro w hw
  obtain ⟨k, hk, rfl⟩ := List.mem_map.mp hw
  have hk := List.mem_range.mp hk
  match k, hk with
  | 0, _ => exact tbt (tb1 (List.mem_of_getElem? (i := 177) rfl)) rfl
  | 1, _ => exact tbt (tb1 (List.mem_of_getElem? (i := 179) rfl)) rfl
  | 2, _ => exact tbt (tb1 (List.mem_of_getElem? (i := 181) rfl)) rfl
  | (k + 3), hk => exact absurd hk (by omega)
theorem qf_X8_64 : Cond.fieldLink RX8 64 "SlowWorlds$Sky" "law" "I" ∈ gw := tbt (tb1 (List.mem_of_getElem? (i := 61) rfl)) rfl
theorem qf_X8_21 : Cond.fieldLink RX8 21 "SlowWorlds$World" "course" "LSlowWorlds$Course;" ∈ gw := tbt (tb1 (List.mem_of_getElem? (i := 171) rfl)) rfl
theorem qm_X8_56 : Cond.methodLink RX8 56 yX0_firstKnown ∈ gw := tbt (tb5 (List.mem_of_getElem? (i := 9) rfl)) rfl
theorem qf_X8_67 : Cond.fieldLink RX8 67 "SlowWorlds$Course" "givers" "[I" ∈ gw := tbt (tb1 (List.mem_of_getElem? (i := 95) rfl)) rfl
theorem qc_X5_fact : Cond.code yX5_fact cX5_fact 3 (some .int) ∈ gw := tbt (tb4 (List.mem_of_getElem? (i := 36) rfl)) rfl
theorem qi_yX5_fact : Cond.instanceMethod yX5_fact ∈ gw := tbt (tb4 (List.mem_of_getElem? (i := 34) rfl)) rfl
theorem qs_X5_fact : Cond.selects (yX5_fact).cls yX5_fact yX5_fact ∈ gw := tbt (tb4 (List.mem_of_getElem? (i := 35) rfl)) rfl
theorem ci_X5_fact : CIv yX5_fact cX5_fact 3 (some .int) 2 := ⟨qc_X5_fact, qi_yX5_fact, qs_X5_fact, qz_X5, by decide +kernel⟩
theorem qm_X8_71 : Cond.methodLink RX8 71 yX5_fact ∈ gw := tbt (tb5 (List.mem_of_getElem? (i := 14) rfl)) rfl
theorem qf_X8_74 : Cond.fieldLink RX8 74 "SlowWorlds$Course" "sent" "[I" ∈ gw := tbt (tb1 (List.mem_of_getElem? (i := 99) rfl)) rfl
theorem qf_X8_53 : Cond.fieldLink RX8 53 "SlowWorlds$Course" "orders" "I" ∈ gw := tbt (tb1 (List.mem_of_getElem? (i := 108) rfl)) rfl
theorem qc_X8_goesAhead : Cond.code yX8_goesAhead cX8_goesAhead 4 (some .boolean) ∈ gw := tbt (tb5 (List.mem_of_getElem? (i := 13) rfl)) rfl
theorem qi_yX8_goesAhead : Cond.instanceMethod yX8_goesAhead ∈ gw := tbt (tb5 (List.mem_of_getElem? (i := 12) rfl)) rfl
theorem qs_X8_goesAhead : Cond.selects (yX8_goesAhead).cls yX8_goesAhead yX8_goesAhead ∈ gw := tb0 (List.mem_of_getElem? (i := 25) rfl) rfl
theorem qz_X8 : Cond.initialized RX8 ∈ gw := tbt (tb1 (List.mem_of_getElem? (i := 2) rfl)) rfl
theorem ci_X8_goesAhead : CIv yX8_goesAhead cX8_goesAhead 4 (some .boolean) 3 := ⟨qc_X8_goesAhead, qi_yX8_goesAhead, qs_X8_goesAhead, qz_X8, by decide +kernel⟩
theorem qm_X8_60 : Cond.methodLink RX8 60 yX8_goesAhead ∈ gw := tbt (tb5 (List.mem_of_getElem? (i := 10) rfl)) rfl
theorem qf_X8_77 : Cond.fieldLink RX8 77 "SlowWorlds$Sky" "rocks" "I" ∈ gw := tbt (tb1 (List.mem_of_getElem? (i := 55) rfl)) rfl
theorem qc_X8_ruler : Cond.code yX8_ruler cX8_ruler 7 (some .int) ∈ gw := tbt (tb5 (List.mem_of_getElem? (i := 8) rfl)) rfl
theorem qi_yX8_ruler : Cond.instanceMethod yX8_ruler ∈ gw := tbt (tb5 (List.mem_of_getElem? (i := 6) rfl)) rfl
theorem qs_X8_ruler : Cond.selects (yX8_ruler).cls yX8_ruler yX8_ruler ∈ gw := tbt (tb5 (List.mem_of_getElem? (i := 7) rfl)) rfl
theorem ci_X8_ruler : CIv yX8_ruler cX8_ruler 7 (some .int) 2 := ⟨qc_X8_ruler, qi_yX8_ruler, qs_X8_ruler, qz_X8, by decide +kernel⟩
theorem qm_X8_80 : Cond.methodLink RX8 80 yX8_ruler ∈ gw := tbt (tb5 (List.mem_of_getElem? (i := 50) rfl)) rfl
theorem qc_J6_compare_7cf53 : Cond.code yJ6_compare_7cf53 cJ6_compare_7cf53 2 (some .int) ∈ gw := tbt (tb5 (List.mem_of_getElem? (i := 37) rfl)) rfl
theorem qt_yJ6_compare_7cf53 : Cond.static yJ6_compare_7cf53 ∈ gw := tbt (tb5 (List.mem_of_getElem? (i := 36) rfl)) rfl
theorem qz_J6 : Cond.initialized RJ6 ∈ gw := tbt (tb1 (List.mem_of_getElem? (i := 21) rfl)) rfl
theorem ci_J6_compare_7cf53 : CIs yJ6_compare_7cf53 cJ6_compare_7cf53 2 (some .int) 2 := ⟨qc_J6_compare_7cf53, qt_yJ6_compare_7cf53, qz_J6, by decide +kernel⟩
theorem qm_X8_83 : Cond.methodLink RX8 83 yJ6_compare_7cf53 ∈ gw := tbt (tb5 (List.mem_of_getElem? (i := 35) rfl)) rfl
def fb_X8_goesAhead_0 : List UInt8 := [0x2a, 0xb4, 0x00, 0x0c, 0xb4, 0x00, 0x40, 0xaa, 0x00, 0x00, 0x00, 0x7a, 0x00, 0x00, 0x00, 0x00, 0x00, 0x00, 0x00, 0x02, 0x00, 0x00, 0x00, 0x19, 0x00, 0x00, 0x00, 0x34, 0x00, 0x00, 0x00, 0x4f, 0x2a, 0xb4, 0x00, 0x15, 0x1b, 0x1d, 0xb6, 0x00, 0x38, 0x2a, 0xb4, 0x00, 0x15, 0x1c, 0x1d, 0xb6, 0x00, 0x38, 0xa2, 0x00, 0x07, 0x04, 0xa7, 0x00, 0x04, 0x03, 0xac, 0x2a, 0xb4, 0x00, 0x15, 0x1b]
theorem fl_X8_goesAhead_0 {p j : Nat} {b : UInt8} (e : p = 0 + j) (h : fb_X8_goesAhead_0[j]? = some b) : cX8_goesAhead.data.toList[p]? = some b := fq_l (n := 64) (show (cX8_goesAhead.data.toList.drop 0).take 64 = fb_X8_goesAhead_0 by decide +kernel) e h
theorem dX8_goesAhead_0 : decode cX8_goesAhead 0 = .ok (.aload_n 0, 1) := fq1_42 (fl_X8_goesAhead_0 (j := 0) rfl rfl)
theorem dX8_goesAhead_1 : decode cX8_goesAhead 1 = .ok (.getfield 12, 3) := fq3_180 (fl_X8_goesAhead_0 (j := 1) rfl rfl) (fl_X8_goesAhead_0 (j := 2) rfl rfl) (fl_X8_goesAhead_0 (j := 3) rfl rfl) rfl
theorem dX8_goesAhead_4 : decode cX8_goesAhead 4 = .ok (.getfield 64, 3) := fq3_180 (fl_X8_goesAhead_0 (j := 4) rfl rfl) (fl_X8_goesAhead_0 (j := 5) rfl rfl) (fl_X8_goesAhead_0 (j := 6) rfl rfl) rfl
theorem dX8_goesAhead_7 : decode cX8_goesAhead 7 = .ok (.tableswitch 122 0 2 #[25, 52, 79], 25) := by decide +kernel
theorem dX8_goesAhead_32 : decode cX8_goesAhead 32 = .ok (.aload_n 0, 1) := fq1_42 (fl_X8_goesAhead_0 (j := 32) rfl rfl)
theorem dX8_goesAhead_33 : decode cX8_goesAhead 33 = .ok (.getfield 21, 3) := fq3_180 (fl_X8_goesAhead_0 (j := 33) rfl rfl) (fl_X8_goesAhead_0 (j := 34) rfl rfl) (fl_X8_goesAhead_0 (j := 35) rfl rfl) rfl
theorem dX8_goesAhead_36 : decode cX8_goesAhead 36 = .ok (.iload_n 1, 1) := fq1_27 (fl_X8_goesAhead_0 (j := 36) rfl rfl)
theorem dX8_goesAhead_37 : decode cX8_goesAhead 37 = .ok (.iload_n 3, 1) := fq1_29 (fl_X8_goesAhead_0 (j := 37) rfl rfl)
theorem dX8_goesAhead_38 : decode cX8_goesAhead 38 = .ok (.invokevirtual 56, 3) := fq3_182 (fl_X8_goesAhead_0 (j := 38) rfl rfl) (fl_X8_goesAhead_0 (j := 39) rfl rfl) (fl_X8_goesAhead_0 (j := 40) rfl rfl) rfl
theorem dX8_goesAhead_41 : decode cX8_goesAhead 41 = .ok (.aload_n 0, 1) := fq1_42 (fl_X8_goesAhead_0 (j := 41) rfl rfl)
theorem dX8_goesAhead_42 : decode cX8_goesAhead 42 = .ok (.getfield 21, 3) := fq3_180 (fl_X8_goesAhead_0 (j := 42) rfl rfl) (fl_X8_goesAhead_0 (j := 43) rfl rfl) (fl_X8_goesAhead_0 (j := 44) rfl rfl) rfl
theorem dX8_goesAhead_45 : decode cX8_goesAhead 45 = .ok (.iload_n 2, 1) := fq1_28 (fl_X8_goesAhead_0 (j := 45) rfl rfl)
theorem dX8_goesAhead_46 : decode cX8_goesAhead 46 = .ok (.iload_n 3, 1) := fq1_29 (fl_X8_goesAhead_0 (j := 46) rfl rfl)
theorem dX8_goesAhead_47 : decode cX8_goesAhead 47 = .ok (.invokevirtual 56, 3) := fq3_182 (fl_X8_goesAhead_0 (j := 47) rfl rfl) (fl_X8_goesAhead_0 (j := 48) rfl rfl) (fl_X8_goesAhead_0 (j := 49) rfl rfl) rfl
theorem dX8_goesAhead_50 : decode cX8_goesAhead 50 = .ok (.if_icmp .ge 7, 3) := fq3_162 (fl_X8_goesAhead_0 (j := 50) rfl rfl) (fl_X8_goesAhead_0 (j := 51) rfl rfl) (fl_X8_goesAhead_0 (j := 52) rfl rfl) (s2p rfl (bl rfl))
theorem dX8_goesAhead_53 : decode cX8_goesAhead 53 = .ok (.iconst 1, 1) := fq1_4 (fl_X8_goesAhead_0 (j := 53) rfl rfl)
theorem dX8_goesAhead_54 : decode cX8_goesAhead 54 = .ok (.goto 4, 3) := fq3_167 (fl_X8_goesAhead_0 (j := 54) rfl rfl) (fl_X8_goesAhead_0 (j := 55) rfl rfl) (fl_X8_goesAhead_0 (j := 56) rfl rfl) (s2p rfl (bl rfl))
theorem dX8_goesAhead_57 : decode cX8_goesAhead 57 = .ok (.iconst 0, 1) := fq1_3 (fl_X8_goesAhead_0 (j := 57) rfl rfl)
theorem dX8_goesAhead_58 : decode cX8_goesAhead 58 = .ok (.ireturn, 1) := fq1_172 (fl_X8_goesAhead_0 (j := 58) rfl rfl)
theorem dX8_goesAhead_59 : decode cX8_goesAhead 59 = .ok (.aload_n 0, 1) := fq1_42 (fl_X8_goesAhead_0 (j := 59) rfl rfl)
theorem dX8_goesAhead_60 : decode cX8_goesAhead 60 = .ok (.getfield 21, 3) := fq3_180 (fl_X8_goesAhead_0 (j := 60) rfl rfl) (fl_X8_goesAhead_0 (j := 61) rfl rfl) (fl_X8_goesAhead_0 (j := 62) rfl rfl) rfl
theorem dX8_goesAhead_63 : decode cX8_goesAhead 63 = .ok (.iload_n 1, 1) := fq1_27 (fl_X8_goesAhead_0 (j := 63) rfl rfl)
def fb_X8_goesAhead_1 : List UInt8 := [0x1d, 0xb6, 0x00, 0x38, 0x2a, 0xb4, 0x00, 0x15, 0x1c, 0x1d, 0xb6, 0x00, 0x38, 0xa4, 0x00, 0x07, 0x04, 0xa7, 0x00, 0x04, 0x03, 0xac, 0x2a, 0xb4, 0x00, 0x0c, 0x2a, 0xb4, 0x00, 0x15, 0xb4, 0x00, 0x43, 0x1b, 0x2e, 0x06, 0xb6, 0x00, 0x47, 0x2a, 0xb4, 0x00, 0x0c, 0x2a, 0xb4, 0x00, 0x15, 0xb4, 0x00, 0x43, 0x1c, 0x2e, 0x06, 0xb6, 0x00, 0x47, 0xa4, 0x00, 0x07, 0x04, 0xa7, 0x00, 0x04, 0x03]
theorem fl_X8_goesAhead_1 {p j : Nat} {b : UInt8} (e : p = 64 + j) (h : fb_X8_goesAhead_1[j]? = some b) : cX8_goesAhead.data.toList[p]? = some b := fq_l (n := 64) (show (cX8_goesAhead.data.toList.drop 64).take 64 = fb_X8_goesAhead_1 by decide +kernel) e h
theorem dX8_goesAhead_64 : decode cX8_goesAhead 64 = .ok (.iload_n 3, 1) := fq1_29 (fl_X8_goesAhead_1 (j := 0) rfl rfl)
theorem dX8_goesAhead_65 : decode cX8_goesAhead 65 = .ok (.invokevirtual 56, 3) := fq3_182 (fl_X8_goesAhead_1 (j := 1) rfl rfl) (fl_X8_goesAhead_1 (j := 2) rfl rfl) (fl_X8_goesAhead_1 (j := 3) rfl rfl) rfl
theorem dX8_goesAhead_68 : decode cX8_goesAhead 68 = .ok (.aload_n 0, 1) := fq1_42 (fl_X8_goesAhead_1 (j := 4) rfl rfl)
theorem dX8_goesAhead_69 : decode cX8_goesAhead 69 = .ok (.getfield 21, 3) := fq3_180 (fl_X8_goesAhead_1 (j := 5) rfl rfl) (fl_X8_goesAhead_1 (j := 6) rfl rfl) (fl_X8_goesAhead_1 (j := 7) rfl rfl) rfl
theorem dX8_goesAhead_72 : decode cX8_goesAhead 72 = .ok (.iload_n 2, 1) := fq1_28 (fl_X8_goesAhead_1 (j := 8) rfl rfl)
theorem dX8_goesAhead_73 : decode cX8_goesAhead 73 = .ok (.iload_n 3, 1) := fq1_29 (fl_X8_goesAhead_1 (j := 9) rfl rfl)
theorem dX8_goesAhead_74 : decode cX8_goesAhead 74 = .ok (.invokevirtual 56, 3) := fq3_182 (fl_X8_goesAhead_1 (j := 10) rfl rfl) (fl_X8_goesAhead_1 (j := 11) rfl rfl) (fl_X8_goesAhead_1 (j := 12) rfl rfl) rfl
theorem dX8_goesAhead_77 : decode cX8_goesAhead 77 = .ok (.if_icmp .le 7, 3) := fq3_164 (fl_X8_goesAhead_1 (j := 13) rfl rfl) (fl_X8_goesAhead_1 (j := 14) rfl rfl) (fl_X8_goesAhead_1 (j := 15) rfl rfl) (s2p rfl (bl rfl))
theorem dX8_goesAhead_80 : decode cX8_goesAhead 80 = .ok (.iconst 1, 1) := fq1_4 (fl_X8_goesAhead_1 (j := 16) rfl rfl)
theorem dX8_goesAhead_81 : decode cX8_goesAhead 81 = .ok (.goto 4, 3) := fq3_167 (fl_X8_goesAhead_1 (j := 17) rfl rfl) (fl_X8_goesAhead_1 (j := 18) rfl rfl) (fl_X8_goesAhead_1 (j := 19) rfl rfl) (s2p rfl (bl rfl))
theorem dX8_goesAhead_84 : decode cX8_goesAhead 84 = .ok (.iconst 0, 1) := fq1_3 (fl_X8_goesAhead_1 (j := 20) rfl rfl)
theorem dX8_goesAhead_85 : decode cX8_goesAhead 85 = .ok (.ireturn, 1) := fq1_172 (fl_X8_goesAhead_1 (j := 21) rfl rfl)
theorem dX8_goesAhead_86 : decode cX8_goesAhead 86 = .ok (.aload_n 0, 1) := fq1_42 (fl_X8_goesAhead_1 (j := 22) rfl rfl)
theorem dX8_goesAhead_87 : decode cX8_goesAhead 87 = .ok (.getfield 12, 3) := fq3_180 (fl_X8_goesAhead_1 (j := 23) rfl rfl) (fl_X8_goesAhead_1 (j := 24) rfl rfl) (fl_X8_goesAhead_1 (j := 25) rfl rfl) rfl
theorem dX8_goesAhead_90 : decode cX8_goesAhead 90 = .ok (.aload_n 0, 1) := fq1_42 (fl_X8_goesAhead_1 (j := 26) rfl rfl)
theorem dX8_goesAhead_91 : decode cX8_goesAhead 91 = .ok (.getfield 21, 3) := fq3_180 (fl_X8_goesAhead_1 (j := 27) rfl rfl) (fl_X8_goesAhead_1 (j := 28) rfl rfl) (fl_X8_goesAhead_1 (j := 29) rfl rfl) rfl
theorem dX8_goesAhead_94 : decode cX8_goesAhead 94 = .ok (.getfield 67, 3) := fq3_180 (fl_X8_goesAhead_1 (j := 30) rfl rfl) (fl_X8_goesAhead_1 (j := 31) rfl rfl) (fl_X8_goesAhead_1 (j := 32) rfl rfl) rfl
theorem dX8_goesAhead_97 : decode cX8_goesAhead 97 = .ok (.iload_n 1, 1) := fq1_27 (fl_X8_goesAhead_1 (j := 33) rfl rfl)
theorem dX8_goesAhead_98 : decode cX8_goesAhead 98 = .ok (.iaload, 1) := fq1_46 (fl_X8_goesAhead_1 (j := 34) rfl rfl)
theorem dX8_goesAhead_99 : decode cX8_goesAhead 99 = .ok (.iconst 3, 1) := fq1_6 (fl_X8_goesAhead_1 (j := 35) rfl rfl)
theorem dX8_goesAhead_100 : decode cX8_goesAhead 100 = .ok (.invokevirtual 71, 3) := fq3_182 (fl_X8_goesAhead_1 (j := 36) rfl rfl) (fl_X8_goesAhead_1 (j := 37) rfl rfl) (fl_X8_goesAhead_1 (j := 38) rfl rfl) rfl
theorem dX8_goesAhead_103 : decode cX8_goesAhead 103 = .ok (.aload_n 0, 1) := fq1_42 (fl_X8_goesAhead_1 (j := 39) rfl rfl)
theorem dX8_goesAhead_104 : decode cX8_goesAhead 104 = .ok (.getfield 12, 3) := fq3_180 (fl_X8_goesAhead_1 (j := 40) rfl rfl) (fl_X8_goesAhead_1 (j := 41) rfl rfl) (fl_X8_goesAhead_1 (j := 42) rfl rfl) rfl
theorem dX8_goesAhead_107 : decode cX8_goesAhead 107 = .ok (.aload_n 0, 1) := fq1_42 (fl_X8_goesAhead_1 (j := 43) rfl rfl)
theorem dX8_goesAhead_108 : decode cX8_goesAhead 108 = .ok (.getfield 21, 3) := fq3_180 (fl_X8_goesAhead_1 (j := 44) rfl rfl) (fl_X8_goesAhead_1 (j := 45) rfl rfl) (fl_X8_goesAhead_1 (j := 46) rfl rfl) rfl
theorem dX8_goesAhead_111 : decode cX8_goesAhead 111 = .ok (.getfield 67, 3) := fq3_180 (fl_X8_goesAhead_1 (j := 47) rfl rfl) (fl_X8_goesAhead_1 (j := 48) rfl rfl) (fl_X8_goesAhead_1 (j := 49) rfl rfl) rfl
theorem dX8_goesAhead_114 : decode cX8_goesAhead 114 = .ok (.iload_n 2, 1) := fq1_28 (fl_X8_goesAhead_1 (j := 50) rfl rfl)
theorem dX8_goesAhead_115 : decode cX8_goesAhead 115 = .ok (.iaload, 1) := fq1_46 (fl_X8_goesAhead_1 (j := 51) rfl rfl)
theorem dX8_goesAhead_116 : decode cX8_goesAhead 116 = .ok (.iconst 3, 1) := fq1_6 (fl_X8_goesAhead_1 (j := 52) rfl rfl)
theorem dX8_goesAhead_117 : decode cX8_goesAhead 117 = .ok (.invokevirtual 71, 3) := fq3_182 (fl_X8_goesAhead_1 (j := 53) rfl rfl) (fl_X8_goesAhead_1 (j := 54) rfl rfl) (fl_X8_goesAhead_1 (j := 55) rfl rfl) rfl
theorem dX8_goesAhead_120 : decode cX8_goesAhead 120 = .ok (.if_icmp .le 7, 3) := fq3_164 (fl_X8_goesAhead_1 (j := 56) rfl rfl) (fl_X8_goesAhead_1 (j := 57) rfl rfl) (fl_X8_goesAhead_1 (j := 58) rfl rfl) (s2p rfl (bl rfl))
theorem dX8_goesAhead_123 : decode cX8_goesAhead 123 = .ok (.iconst 1, 1) := fq1_4 (fl_X8_goesAhead_1 (j := 59) rfl rfl)
theorem dX8_goesAhead_124 : decode cX8_goesAhead 124 = .ok (.goto 4, 3) := fq3_167 (fl_X8_goesAhead_1 (j := 60) rfl rfl) (fl_X8_goesAhead_1 (j := 61) rfl rfl) (fl_X8_goesAhead_1 (j := 62) rfl rfl) (s2p rfl (bl rfl))
theorem dX8_goesAhead_127 : decode cX8_goesAhead 127 = .ok (.iconst 0, 1) := fq1_3 (fl_X8_goesAhead_1 (j := 63) rfl rfl)
def fb_X8_goesAhead_2 : List UInt8 := [0xac, 0x2a, 0xb4, 0x00, 0x15, 0xb4, 0x00, 0x4a, 0x1b, 0x2e, 0x2a, 0xb4, 0x00, 0x15, 0xb4, 0x00, 0x4a, 0x1c, 0x2e, 0xa2, 0x00, 0x07, 0x04, 0xa7, 0x00, 0x04, 0x03, 0xac]
theorem fl_X8_goesAhead_2 {p j : Nat} {b : UInt8} (e : p = 128 + j) (h : fb_X8_goesAhead_2[j]? = some b) : cX8_goesAhead.data.toList[p]? = some b := fq_l (n := 64) (show (cX8_goesAhead.data.toList.drop 128).take 64 = fb_X8_goesAhead_2 by decide +kernel) e h
theorem dX8_goesAhead_128 : decode cX8_goesAhead 128 = .ok (.ireturn, 1) := fq1_172 (fl_X8_goesAhead_2 (j := 0) rfl rfl)
theorem dX8_goesAhead_129 : decode cX8_goesAhead 129 = .ok (.aload_n 0, 1) := fq1_42 (fl_X8_goesAhead_2 (j := 1) rfl rfl)
theorem dX8_goesAhead_130 : decode cX8_goesAhead 130 = .ok (.getfield 21, 3) := fq3_180 (fl_X8_goesAhead_2 (j := 2) rfl rfl) (fl_X8_goesAhead_2 (j := 3) rfl rfl) (fl_X8_goesAhead_2 (j := 4) rfl rfl) rfl
theorem dX8_goesAhead_133 : decode cX8_goesAhead 133 = .ok (.getfield 74, 3) := fq3_180 (fl_X8_goesAhead_2 (j := 5) rfl rfl) (fl_X8_goesAhead_2 (j := 6) rfl rfl) (fl_X8_goesAhead_2 (j := 7) rfl rfl) rfl
theorem dX8_goesAhead_136 : decode cX8_goesAhead 136 = .ok (.iload_n 1, 1) := fq1_27 (fl_X8_goesAhead_2 (j := 8) rfl rfl)
theorem dX8_goesAhead_137 : decode cX8_goesAhead 137 = .ok (.iaload, 1) := fq1_46 (fl_X8_goesAhead_2 (j := 9) rfl rfl)
theorem dX8_goesAhead_138 : decode cX8_goesAhead 138 = .ok (.aload_n 0, 1) := fq1_42 (fl_X8_goesAhead_2 (j := 10) rfl rfl)
theorem dX8_goesAhead_139 : decode cX8_goesAhead 139 = .ok (.getfield 21, 3) := fq3_180 (fl_X8_goesAhead_2 (j := 11) rfl rfl) (fl_X8_goesAhead_2 (j := 12) rfl rfl) (fl_X8_goesAhead_2 (j := 13) rfl rfl) rfl
theorem dX8_goesAhead_142 : decode cX8_goesAhead 142 = .ok (.getfield 74, 3) := fq3_180 (fl_X8_goesAhead_2 (j := 14) rfl rfl) (fl_X8_goesAhead_2 (j := 15) rfl rfl) (fl_X8_goesAhead_2 (j := 16) rfl rfl) rfl
theorem dX8_goesAhead_145 : decode cX8_goesAhead 145 = .ok (.iload_n 2, 1) := fq1_28 (fl_X8_goesAhead_2 (j := 17) rfl rfl)
theorem dX8_goesAhead_146 : decode cX8_goesAhead 146 = .ok (.iaload, 1) := fq1_46 (fl_X8_goesAhead_2 (j := 18) rfl rfl)
theorem dX8_goesAhead_147 : decode cX8_goesAhead 147 = .ok (.if_icmp .ge 7, 3) := fq3_162 (fl_X8_goesAhead_2 (j := 19) rfl rfl) (fl_X8_goesAhead_2 (j := 20) rfl rfl) (fl_X8_goesAhead_2 (j := 21) rfl rfl) (s2p rfl (bl rfl))
theorem dX8_goesAhead_150 : decode cX8_goesAhead 150 = .ok (.iconst 1, 1) := fq1_4 (fl_X8_goesAhead_2 (j := 22) rfl rfl)
theorem dX8_goesAhead_151 : decode cX8_goesAhead 151 = .ok (.goto 4, 3) := fq3_167 (fl_X8_goesAhead_2 (j := 23) rfl rfl) (fl_X8_goesAhead_2 (j := 24) rfl rfl) (fl_X8_goesAhead_2 (j := 25) rfl rfl) (s2p rfl (bl rfl))
theorem dX8_goesAhead_154 : decode cX8_goesAhead 154 = .ok (.iconst 0, 1) := fq1_3 (fl_X8_goesAhead_2 (j := 26) rfl rfl)
theorem dX8_goesAhead_155 : decode cX8_goesAhead 155 = .ok (.ireturn, 1) := fq1_172 (fl_X8_goesAhead_2 (j := 27) rfl rfl)
def fb_X8_isOneForAll_0 : List UInt8 := [0x03, 0x3e, 0x03, 0x36, 0x04, 0x03, 0x36, 0x05, 0x15, 0x05, 0x2a, 0xb4, 0x00, 0x0c, 0xb4, 0x00, 0x4d, 0xa2, 0x00, 0x49, 0x2a, 0xb4, 0x00, 0x15, 0x1b, 0x15, 0x05, 0xb6, 0x00, 0x38, 0x36, 0x06, 0x2a, 0xb4, 0x00, 0x15, 0x1c, 0x15, 0x05, 0xb6, 0x00, 0x38, 0x36, 0x07, 0x15, 0x06, 0x02, 0x9f, 0x00, 0x25, 0x15, 0x07, 0x02, 0x9f, 0x00, 0x1f, 0x15, 0x06, 0x15, 0x07, 0xb8, 0x00, 0x53, 0x36]
theorem fl_X8_isOneForAll_0 {p j : Nat} {b : UInt8} (e : p = 0 + j) (h : fb_X8_isOneForAll_0[j]? = some b) : cX8_isOneForAll.data.toList[p]? = some b := fq_l (n := 64) (show (cX8_isOneForAll.data.toList.drop 0).take 64 = fb_X8_isOneForAll_0 by decide +kernel) e h
theorem dX8_isOneForAll_0 : decode cX8_isOneForAll 0 = .ok (.iconst 0, 1) := fq1_3 (fl_X8_isOneForAll_0 (j := 0) rfl rfl)
theorem dX8_isOneForAll_1 : decode cX8_isOneForAll 1 = .ok (.istore_n 3, 1) := fq1_62 (fl_X8_isOneForAll_0 (j := 1) rfl rfl)
theorem dX8_isOneForAll_2 : decode cX8_isOneForAll 2 = .ok (.iconst 0, 1) := fq1_3 (fl_X8_isOneForAll_0 (j := 2) rfl rfl)
theorem dX8_isOneForAll_3 : decode cX8_isOneForAll 3 = .ok (.istore 4, 2) := fq2_54 (fl_X8_isOneForAll_0 (j := 3) rfl rfl) (fl_X8_isOneForAll_0 (j := 4) rfl rfl) rfl
theorem dX8_isOneForAll_5 : decode cX8_isOneForAll 5 = .ok (.iconst 0, 1) := fq1_3 (fl_X8_isOneForAll_0 (j := 5) rfl rfl)
theorem dX8_isOneForAll_6 : decode cX8_isOneForAll 6 = .ok (.istore 5, 2) := fq2_54 (fl_X8_isOneForAll_0 (j := 6) rfl rfl) (fl_X8_isOneForAll_0 (j := 7) rfl rfl) rfl
theorem dX8_isOneForAll_8 : decode cX8_isOneForAll 8 = .ok (.iload 5, 2) := fq2_21 (fl_X8_isOneForAll_0 (j := 8) rfl rfl) (fl_X8_isOneForAll_0 (j := 9) rfl rfl) rfl
theorem dX8_isOneForAll_10 : decode cX8_isOneForAll 10 = .ok (.aload_n 0, 1) := fq1_42 (fl_X8_isOneForAll_0 (j := 10) rfl rfl)
theorem dX8_isOneForAll_11 : decode cX8_isOneForAll 11 = .ok (.getfield 12, 3) := fq3_180 (fl_X8_isOneForAll_0 (j := 11) rfl rfl) (fl_X8_isOneForAll_0 (j := 12) rfl rfl) (fl_X8_isOneForAll_0 (j := 13) rfl rfl) rfl
theorem dX8_isOneForAll_14 : decode cX8_isOneForAll 14 = .ok (.getfield 77, 3) := fq3_180 (fl_X8_isOneForAll_0 (j := 14) rfl rfl) (fl_X8_isOneForAll_0 (j := 15) rfl rfl) (fl_X8_isOneForAll_0 (j := 16) rfl rfl) rfl
theorem dX8_isOneForAll_17 : decode cX8_isOneForAll 17 = .ok (.if_icmp .ge 73, 3) := fq3_162 (fl_X8_isOneForAll_0 (j := 17) rfl rfl) (fl_X8_isOneForAll_0 (j := 18) rfl rfl) (fl_X8_isOneForAll_0 (j := 19) rfl rfl) (s2p rfl (bl rfl))
theorem dX8_isOneForAll_20 : decode cX8_isOneForAll 20 = .ok (.aload_n 0, 1) := fq1_42 (fl_X8_isOneForAll_0 (j := 20) rfl rfl)
theorem dX8_isOneForAll_21 : decode cX8_isOneForAll 21 = .ok (.getfield 21, 3) := fq3_180 (fl_X8_isOneForAll_0 (j := 21) rfl rfl) (fl_X8_isOneForAll_0 (j := 22) rfl rfl) (fl_X8_isOneForAll_0 (j := 23) rfl rfl) rfl
theorem dX8_isOneForAll_24 : decode cX8_isOneForAll 24 = .ok (.iload_n 1, 1) := fq1_27 (fl_X8_isOneForAll_0 (j := 24) rfl rfl)
theorem dX8_isOneForAll_25 : decode cX8_isOneForAll 25 = .ok (.iload 5, 2) := fq2_21 (fl_X8_isOneForAll_0 (j := 25) rfl rfl) (fl_X8_isOneForAll_0 (j := 26) rfl rfl) rfl
theorem dX8_isOneForAll_27 : decode cX8_isOneForAll 27 = .ok (.invokevirtual 56, 3) := fq3_182 (fl_X8_isOneForAll_0 (j := 27) rfl rfl) (fl_X8_isOneForAll_0 (j := 28) rfl rfl) (fl_X8_isOneForAll_0 (j := 29) rfl rfl) rfl
theorem dX8_isOneForAll_30 : decode cX8_isOneForAll 30 = .ok (.istore 6, 2) := fq2_54 (fl_X8_isOneForAll_0 (j := 30) rfl rfl) (fl_X8_isOneForAll_0 (j := 31) rfl rfl) rfl
theorem dX8_isOneForAll_32 : decode cX8_isOneForAll 32 = .ok (.aload_n 0, 1) := fq1_42 (fl_X8_isOneForAll_0 (j := 32) rfl rfl)
theorem dX8_isOneForAll_33 : decode cX8_isOneForAll 33 = .ok (.getfield 21, 3) := fq3_180 (fl_X8_isOneForAll_0 (j := 33) rfl rfl) (fl_X8_isOneForAll_0 (j := 34) rfl rfl) (fl_X8_isOneForAll_0 (j := 35) rfl rfl) rfl
theorem dX8_isOneForAll_36 : decode cX8_isOneForAll 36 = .ok (.iload_n 2, 1) := fq1_28 (fl_X8_isOneForAll_0 (j := 36) rfl rfl)
theorem dX8_isOneForAll_37 : decode cX8_isOneForAll 37 = .ok (.iload 5, 2) := fq2_21 (fl_X8_isOneForAll_0 (j := 37) rfl rfl) (fl_X8_isOneForAll_0 (j := 38) rfl rfl) rfl
theorem dX8_isOneForAll_39 : decode cX8_isOneForAll 39 = .ok (.invokevirtual 56, 3) := fq3_182 (fl_X8_isOneForAll_0 (j := 39) rfl rfl) (fl_X8_isOneForAll_0 (j := 40) rfl rfl) (fl_X8_isOneForAll_0 (j := 41) rfl rfl) rfl
theorem dX8_isOneForAll_42 : decode cX8_isOneForAll 42 = .ok (.istore 7, 2) := fq2_54 (fl_X8_isOneForAll_0 (j := 42) rfl rfl) (fl_X8_isOneForAll_0 (j := 43) rfl rfl) rfl
theorem dX8_isOneForAll_44 : decode cX8_isOneForAll 44 = .ok (.iload 6, 2) := fq2_21 (fl_X8_isOneForAll_0 (j := 44) rfl rfl) (fl_X8_isOneForAll_0 (j := 45) rfl rfl) rfl
theorem dX8_isOneForAll_46 : decode cX8_isOneForAll 46 = .ok (.iconst (-1), 1) := fq1_2 (fl_X8_isOneForAll_0 (j := 46) rfl rfl)
theorem dX8_isOneForAll_47 : decode cX8_isOneForAll 47 = .ok (.if_icmp .eq 37, 3) := fq3_159 (fl_X8_isOneForAll_0 (j := 47) rfl rfl) (fl_X8_isOneForAll_0 (j := 48) rfl rfl) (fl_X8_isOneForAll_0 (j := 49) rfl rfl) (s2p rfl (bl rfl))
theorem dX8_isOneForAll_50 : decode cX8_isOneForAll 50 = .ok (.iload 7, 2) := fq2_21 (fl_X8_isOneForAll_0 (j := 50) rfl rfl) (fl_X8_isOneForAll_0 (j := 51) rfl rfl) rfl
theorem dX8_isOneForAll_52 : decode cX8_isOneForAll 52 = .ok (.iconst (-1), 1) := fq1_2 (fl_X8_isOneForAll_0 (j := 52) rfl rfl)
theorem dX8_isOneForAll_53 : decode cX8_isOneForAll 53 = .ok (.if_icmp .eq 31, 3) := fq3_159 (fl_X8_isOneForAll_0 (j := 53) rfl rfl) (fl_X8_isOneForAll_0 (j := 54) rfl rfl) (fl_X8_isOneForAll_0 (j := 55) rfl rfl) (s2p rfl (bl rfl))
theorem dX8_isOneForAll_56 : decode cX8_isOneForAll 56 = .ok (.iload 6, 2) := fq2_21 (fl_X8_isOneForAll_0 (j := 56) rfl rfl) (fl_X8_isOneForAll_0 (j := 57) rfl rfl) rfl
theorem dX8_isOneForAll_58 : decode cX8_isOneForAll 58 = .ok (.iload 7, 2) := fq2_21 (fl_X8_isOneForAll_0 (j := 58) rfl rfl) (fl_X8_isOneForAll_0 (j := 59) rfl rfl) rfl
theorem dX8_isOneForAll_60 : decode cX8_isOneForAll 60 = .ok (.invokestatic 83, 3) := fq3_184 (fl_X8_isOneForAll_0 (j := 60) rfl rfl) (fl_X8_isOneForAll_0 (j := 61) rfl rfl) (fl_X8_isOneForAll_0 (j := 62) rfl rfl) rfl
def fb_X8_isOneForAll_1 : List UInt8 := [0x08, 0x1d, 0x99, 0x00, 0x0c, 0x15, 0x08, 0x15, 0x04, 0x9f, 0x00, 0x05, 0x03, 0xac, 0x04, 0x3e, 0x15, 0x08, 0x36, 0x04, 0x84, 0x05, 0x01, 0xa7, 0xff, 0xb1, 0x04, 0xac]
theorem fl_X8_isOneForAll_1 {p j : Nat} {b : UInt8} (e : p = 64 + j) (h : fb_X8_isOneForAll_1[j]? = some b) : cX8_isOneForAll.data.toList[p]? = some b := fq_l (n := 64) (show (cX8_isOneForAll.data.toList.drop 64).take 64 = fb_X8_isOneForAll_1 by decide +kernel) e h
theorem dX8_isOneForAll_63 : decode cX8_isOneForAll 63 = .ok (.istore 8, 2) := fq2_54 (fl_X8_isOneForAll_0 (j := 63) rfl rfl) (fl_X8_isOneForAll_1 (j := 0) rfl rfl) rfl
theorem dX8_isOneForAll_65 : decode cX8_isOneForAll 65 = .ok (.iload_n 3, 1) := fq1_29 (fl_X8_isOneForAll_1 (j := 1) rfl rfl)
theorem dX8_isOneForAll_66 : decode cX8_isOneForAll 66 = .ok (.ifCond .eq 12, 3) := fq3_153 (fl_X8_isOneForAll_1 (j := 2) rfl rfl) (fl_X8_isOneForAll_1 (j := 3) rfl rfl) (fl_X8_isOneForAll_1 (j := 4) rfl rfl) (s2p rfl (bl rfl))
theorem dX8_isOneForAll_69 : decode cX8_isOneForAll 69 = .ok (.iload 8, 2) := fq2_21 (fl_X8_isOneForAll_1 (j := 5) rfl rfl) (fl_X8_isOneForAll_1 (j := 6) rfl rfl) rfl
theorem dX8_isOneForAll_71 : decode cX8_isOneForAll 71 = .ok (.iload 4, 2) := fq2_21 (fl_X8_isOneForAll_1 (j := 7) rfl rfl) (fl_X8_isOneForAll_1 (j := 8) rfl rfl) rfl
theorem dX8_isOneForAll_73 : decode cX8_isOneForAll 73 = .ok (.if_icmp .eq 5, 3) := fq3_159 (fl_X8_isOneForAll_1 (j := 9) rfl rfl) (fl_X8_isOneForAll_1 (j := 10) rfl rfl) (fl_X8_isOneForAll_1 (j := 11) rfl rfl) (s2p rfl (bl rfl))
theorem dX8_isOneForAll_76 : decode cX8_isOneForAll 76 = .ok (.iconst 0, 1) := fq1_3 (fl_X8_isOneForAll_1 (j := 12) rfl rfl)
theorem dX8_isOneForAll_77 : decode cX8_isOneForAll 77 = .ok (.ireturn, 1) := fq1_172 (fl_X8_isOneForAll_1 (j := 13) rfl rfl)
theorem dX8_isOneForAll_78 : decode cX8_isOneForAll 78 = .ok (.iconst 1, 1) := fq1_4 (fl_X8_isOneForAll_1 (j := 14) rfl rfl)
theorem dX8_isOneForAll_79 : decode cX8_isOneForAll 79 = .ok (.istore_n 3, 1) := fq1_62 (fl_X8_isOneForAll_1 (j := 15) rfl rfl)
theorem dX8_isOneForAll_80 : decode cX8_isOneForAll 80 = .ok (.iload 8, 2) := fq2_21 (fl_X8_isOneForAll_1 (j := 16) rfl rfl) (fl_X8_isOneForAll_1 (j := 17) rfl rfl) rfl
theorem dX8_isOneForAll_82 : decode cX8_isOneForAll 82 = .ok (.istore 4, 2) := fq2_54 (fl_X8_isOneForAll_1 (j := 18) rfl rfl) (fl_X8_isOneForAll_1 (j := 19) rfl rfl) rfl
theorem dX8_isOneForAll_84 : decode cX8_isOneForAll 84 = .ok (.iinc 5 1, 3) := fq3_132 (fl_X8_isOneForAll_1 (j := 20) rfl rfl) (fl_X8_isOneForAll_1 (j := 21) rfl rfl) (fl_X8_isOneForAll_1 (j := 22) rfl rfl) rfl (s1p rfl (bl rfl))
theorem dX8_isOneForAll_87 : decode cX8_isOneForAll 87 = .ok (.goto (-79), 3) := fq3_167 (fl_X8_isOneForAll_1 (j := 23) rfl rfl) (fl_X8_isOneForAll_1 (j := 24) rfl rfl) (fl_X8_isOneForAll_1 (j := 25) rfl rfl) (by decide)
theorem dX8_isOneForAll_90 : decode cX8_isOneForAll 90 = .ok (.iconst 1, 1) := fq1_4 (fl_X8_isOneForAll_1 (j := 26) rfl rfl)
theorem dX8_isOneForAll_91 : decode cX8_isOneForAll 91 = .ok (.ireturn, 1) := fq1_172 (fl_X8_isOneForAll_1 (j := 27) rfl rfl)
def fb_X8_ruler_0 : List UInt8 := [0x02, 0x3e, 0x03, 0x36, 0x04, 0x15, 0x04, 0x2a, 0xb4, 0x00, 0x15, 0xb4, 0x00, 0x35, 0xa2, 0x00, 0x40, 0x2a, 0xb4, 0x00, 0x15, 0x15, 0x04, 0x1b, 0xb6, 0x00, 0x38, 0x36, 0x05, 0x15, 0x05, 0x02, 0x9f, 0x00, 0x0d, 0x15, 0x05, 0x1c, 0xa3, 0x00, 0x07, 0x04, 0xa7, 0x00, 0x04, 0x03, 0x36, 0x06, 0x15, 0x06, 0x99, 0x00, 0x16, 0x1d, 0x02, 0x9f, 0x00, 0x0e, 0x2a, 0x15, 0x04, 0x1d, 0x1b, 0xb6]
theorem fl_X8_ruler_0 {p j : Nat} {b : UInt8} (e : p = 0 + j) (h : fb_X8_ruler_0[j]? = some b) : cX8_ruler.data.toList[p]? = some b := fq_l (n := 64) (show (cX8_ruler.data.toList.drop 0).take 64 = fb_X8_ruler_0 by decide +kernel) e h
theorem dX8_ruler_0 : decode cX8_ruler 0 = .ok (.iconst (-1), 1) := fq1_2 (fl_X8_ruler_0 (j := 0) rfl rfl)
theorem dX8_ruler_1 : decode cX8_ruler 1 = .ok (.istore_n 3, 1) := fq1_62 (fl_X8_ruler_0 (j := 1) rfl rfl)
theorem dX8_ruler_2 : decode cX8_ruler 2 = .ok (.iconst 0, 1) := fq1_3 (fl_X8_ruler_0 (j := 2) rfl rfl)
theorem dX8_ruler_3 : decode cX8_ruler 3 = .ok (.istore 4, 2) := fq2_54 (fl_X8_ruler_0 (j := 3) rfl rfl) (fl_X8_ruler_0 (j := 4) rfl rfl) rfl
theorem dX8_ruler_5 : decode cX8_ruler 5 = .ok (.iload 4, 2) := fq2_21 (fl_X8_ruler_0 (j := 5) rfl rfl) (fl_X8_ruler_0 (j := 6) rfl rfl) rfl
theorem dX8_ruler_7 : decode cX8_ruler 7 = .ok (.aload_n 0, 1) := fq1_42 (fl_X8_ruler_0 (j := 7) rfl rfl)
theorem dX8_ruler_8 : decode cX8_ruler 8 = .ok (.getfield 21, 3) := fq3_180 (fl_X8_ruler_0 (j := 8) rfl rfl) (fl_X8_ruler_0 (j := 9) rfl rfl) (fl_X8_ruler_0 (j := 10) rfl rfl) rfl
theorem dX8_ruler_11 : decode cX8_ruler 11 = .ok (.getfield 53, 3) := fq3_180 (fl_X8_ruler_0 (j := 11) rfl rfl) (fl_X8_ruler_0 (j := 12) rfl rfl) (fl_X8_ruler_0 (j := 13) rfl rfl) rfl
theorem dX8_ruler_14 : decode cX8_ruler 14 = .ok (.if_icmp .ge 64, 3) := fq3_162 (fl_X8_ruler_0 (j := 14) rfl rfl) (fl_X8_ruler_0 (j := 15) rfl rfl) (fl_X8_ruler_0 (j := 16) rfl rfl) (s2p rfl (bl rfl))
theorem dX8_ruler_17 : decode cX8_ruler 17 = .ok (.aload_n 0, 1) := fq1_42 (fl_X8_ruler_0 (j := 17) rfl rfl)
theorem dX8_ruler_18 : decode cX8_ruler 18 = .ok (.getfield 21, 3) := fq3_180 (fl_X8_ruler_0 (j := 18) rfl rfl) (fl_X8_ruler_0 (j := 19) rfl rfl) (fl_X8_ruler_0 (j := 20) rfl rfl) rfl
theorem dX8_ruler_21 : decode cX8_ruler 21 = .ok (.iload 4, 2) := fq2_21 (fl_X8_ruler_0 (j := 21) rfl rfl) (fl_X8_ruler_0 (j := 22) rfl rfl) rfl
theorem dX8_ruler_23 : decode cX8_ruler 23 = .ok (.iload_n 1, 1) := fq1_27 (fl_X8_ruler_0 (j := 23) rfl rfl)
theorem dX8_ruler_24 : decode cX8_ruler 24 = .ok (.invokevirtual 56, 3) := fq3_182 (fl_X8_ruler_0 (j := 24) rfl rfl) (fl_X8_ruler_0 (j := 25) rfl rfl) (fl_X8_ruler_0 (j := 26) rfl rfl) rfl
theorem dX8_ruler_27 : decode cX8_ruler 27 = .ok (.istore 5, 2) := fq2_54 (fl_X8_ruler_0 (j := 27) rfl rfl) (fl_X8_ruler_0 (j := 28) rfl rfl) rfl
theorem dX8_ruler_29 : decode cX8_ruler 29 = .ok (.iload 5, 2) := fq2_21 (fl_X8_ruler_0 (j := 29) rfl rfl) (fl_X8_ruler_0 (j := 30) rfl rfl) rfl
theorem dX8_ruler_31 : decode cX8_ruler 31 = .ok (.iconst (-1), 1) := fq1_2 (fl_X8_ruler_0 (j := 31) rfl rfl)
theorem dX8_ruler_32 : decode cX8_ruler 32 = .ok (.if_icmp .eq 13, 3) := fq3_159 (fl_X8_ruler_0 (j := 32) rfl rfl) (fl_X8_ruler_0 (j := 33) rfl rfl) (fl_X8_ruler_0 (j := 34) rfl rfl) (s2p rfl (bl rfl))
theorem dX8_ruler_35 : decode cX8_ruler 35 = .ok (.iload 5, 2) := fq2_21 (fl_X8_ruler_0 (j := 35) rfl rfl) (fl_X8_ruler_0 (j := 36) rfl rfl) rfl
theorem dX8_ruler_37 : decode cX8_ruler 37 = .ok (.iload_n 2, 1) := fq1_28 (fl_X8_ruler_0 (j := 37) rfl rfl)
theorem dX8_ruler_38 : decode cX8_ruler 38 = .ok (.if_icmp .gt 7, 3) := fq3_163 (fl_X8_ruler_0 (j := 38) rfl rfl) (fl_X8_ruler_0 (j := 39) rfl rfl) (fl_X8_ruler_0 (j := 40) rfl rfl) (s2p rfl (bl rfl))
theorem dX8_ruler_41 : decode cX8_ruler 41 = .ok (.iconst 1, 1) := fq1_4 (fl_X8_ruler_0 (j := 41) rfl rfl)
theorem dX8_ruler_42 : decode cX8_ruler 42 = .ok (.goto 4, 3) := fq3_167 (fl_X8_ruler_0 (j := 42) rfl rfl) (fl_X8_ruler_0 (j := 43) rfl rfl) (fl_X8_ruler_0 (j := 44) rfl rfl) (s2p rfl (bl rfl))
theorem dX8_ruler_45 : decode cX8_ruler 45 = .ok (.iconst 0, 1) := fq1_3 (fl_X8_ruler_0 (j := 45) rfl rfl)
theorem dX8_ruler_46 : decode cX8_ruler 46 = .ok (.istore 6, 2) := fq2_54 (fl_X8_ruler_0 (j := 46) rfl rfl) (fl_X8_ruler_0 (j := 47) rfl rfl) rfl
theorem dX8_ruler_48 : decode cX8_ruler 48 = .ok (.iload 6, 2) := fq2_21 (fl_X8_ruler_0 (j := 48) rfl rfl) (fl_X8_ruler_0 (j := 49) rfl rfl) rfl
theorem dX8_ruler_50 : decode cX8_ruler 50 = .ok (.ifCond .eq 22, 3) := fq3_153 (fl_X8_ruler_0 (j := 50) rfl rfl) (fl_X8_ruler_0 (j := 51) rfl rfl) (fl_X8_ruler_0 (j := 52) rfl rfl) (s2p rfl (bl rfl))
theorem dX8_ruler_53 : decode cX8_ruler 53 = .ok (.iload_n 3, 1) := fq1_29 (fl_X8_ruler_0 (j := 53) rfl rfl)
theorem dX8_ruler_54 : decode cX8_ruler 54 = .ok (.iconst (-1), 1) := fq1_2 (fl_X8_ruler_0 (j := 54) rfl rfl)
theorem dX8_ruler_55 : decode cX8_ruler 55 = .ok (.if_icmp .eq 14, 3) := fq3_159 (fl_X8_ruler_0 (j := 55) rfl rfl) (fl_X8_ruler_0 (j := 56) rfl rfl) (fl_X8_ruler_0 (j := 57) rfl rfl) (s2p rfl (bl rfl))
theorem dX8_ruler_58 : decode cX8_ruler 58 = .ok (.aload_n 0, 1) := fq1_42 (fl_X8_ruler_0 (j := 58) rfl rfl)
theorem dX8_ruler_59 : decode cX8_ruler 59 = .ok (.iload 4, 2) := fq2_21 (fl_X8_ruler_0 (j := 59) rfl rfl) (fl_X8_ruler_0 (j := 60) rfl rfl) rfl
theorem dX8_ruler_61 : decode cX8_ruler 61 = .ok (.iload_n 3, 1) := fq1_29 (fl_X8_ruler_0 (j := 61) rfl rfl)
theorem dX8_ruler_62 : decode cX8_ruler 62 = .ok (.iload_n 1, 1) := fq1_27 (fl_X8_ruler_0 (j := 62) rfl rfl)
def fb_X8_ruler_1 : List UInt8 := [0x00, 0x3c, 0x99, 0x00, 0x06, 0x15, 0x04, 0x3e, 0x84, 0x04, 0x01, 0xa7, 0xff, 0xba, 0x1d, 0xac]
theorem fl_X8_ruler_1 {p j : Nat} {b : UInt8} (e : p = 64 + j) (h : fb_X8_ruler_1[j]? = some b) : cX8_ruler.data.toList[p]? = some b := fq_l (n := 64) (show (cX8_ruler.data.toList.drop 64).take 64 = fb_X8_ruler_1 by decide +kernel) e h
theorem dX8_ruler_63 : decode cX8_ruler 63 = .ok (.invokevirtual 60, 3) := fq3_182 (fl_X8_ruler_0 (j := 63) rfl rfl) (fl_X8_ruler_1 (j := 0) rfl rfl) (fl_X8_ruler_1 (j := 1) rfl rfl) rfl
theorem dX8_ruler_66 : decode cX8_ruler 66 = .ok (.ifCond .eq 6, 3) := fq3_153 (fl_X8_ruler_1 (j := 2) rfl rfl) (fl_X8_ruler_1 (j := 3) rfl rfl) (fl_X8_ruler_1 (j := 4) rfl rfl) (s2p rfl (bl rfl))
theorem dX8_ruler_69 : decode cX8_ruler 69 = .ok (.iload 4, 2) := fq2_21 (fl_X8_ruler_1 (j := 5) rfl rfl) (fl_X8_ruler_1 (j := 6) rfl rfl) rfl
theorem dX8_ruler_71 : decode cX8_ruler 71 = .ok (.istore_n 3, 1) := fq1_62 (fl_X8_ruler_1 (j := 7) rfl rfl)
theorem dX8_ruler_72 : decode cX8_ruler 72 = .ok (.iinc 4 1, 3) := fq3_132 (fl_X8_ruler_1 (j := 8) rfl rfl) (fl_X8_ruler_1 (j := 9) rfl rfl) (fl_X8_ruler_1 (j := 10) rfl rfl) rfl (s1p rfl (bl rfl))
theorem dX8_ruler_75 : decode cX8_ruler 75 = .ok (.goto (-70), 3) := fq3_167 (fl_X8_ruler_1 (j := 11) rfl rfl) (fl_X8_ruler_1 (j := 12) rfl rfl) (fl_X8_ruler_1 (j := 13) rfl rfl) (by decide)
theorem dX8_ruler_78 : decode cX8_ruler 78 = .ok (.iload_n 3, 1) := fq1_29 (fl_X8_ruler_1 (j := 14) rfl rfl)
theorem dX8_ruler_79 : decode cX8_ruler 79 = .ok (.ireturn, 1) := fq1_172 (fl_X8_ruler_1 (j := 15) rfl rfl)
def fb_X8_rulerOfAll_0 : List UInt8 := [0x2a, 0xb4, 0x00, 0x0c, 0xb4, 0x00, 0x4d, 0x9a, 0x00, 0x07, 0x02, 0xa7, 0x00, 0x09, 0x2a, 0x03, 0x1b, 0xb6, 0x00, 0x50, 0x3d, 0x04, 0x3e, 0x1d, 0x2a, 0xb4, 0x00, 0x0c, 0xb4, 0x00, 0x4d, 0xa2, 0x00, 0x1a, 0x1c, 0x02, 0x9f, 0x00, 0x15, 0x2a, 0x1d, 0x1b, 0xb6, 0x00, 0x50, 0x1c, 0x9f, 0x00, 0x05, 0x02, 0x3d, 0x84, 0x03, 0x01, 0xa7, 0xff, 0xe1, 0x1c, 0xac]
theorem fl_X8_rulerOfAll_0 {p j : Nat} {b : UInt8} (e : p = 0 + j) (h : fb_X8_rulerOfAll_0[j]? = some b) : cX8_rulerOfAll.data.toList[p]? = some b := fq_l (n := 64) (show (cX8_rulerOfAll.data.toList.drop 0).take 64 = fb_X8_rulerOfAll_0 by decide +kernel) e h
theorem dX8_rulerOfAll_0 : decode cX8_rulerOfAll 0 = .ok (.aload_n 0, 1) := fq1_42 (fl_X8_rulerOfAll_0 (j := 0) rfl rfl)
theorem dX8_rulerOfAll_1 : decode cX8_rulerOfAll 1 = .ok (.getfield 12, 3) := fq3_180 (fl_X8_rulerOfAll_0 (j := 1) rfl rfl) (fl_X8_rulerOfAll_0 (j := 2) rfl rfl) (fl_X8_rulerOfAll_0 (j := 3) rfl rfl) rfl
theorem dX8_rulerOfAll_4 : decode cX8_rulerOfAll 4 = .ok (.getfield 77, 3) := fq3_180 (fl_X8_rulerOfAll_0 (j := 4) rfl rfl) (fl_X8_rulerOfAll_0 (j := 5) rfl rfl) (fl_X8_rulerOfAll_0 (j := 6) rfl rfl) rfl
theorem dX8_rulerOfAll_7 : decode cX8_rulerOfAll 7 = .ok (.ifCond .ne 7, 3) := fq3_154 (fl_X8_rulerOfAll_0 (j := 7) rfl rfl) (fl_X8_rulerOfAll_0 (j := 8) rfl rfl) (fl_X8_rulerOfAll_0 (j := 9) rfl rfl) (s2p rfl (bl rfl))
theorem dX8_rulerOfAll_10 : decode cX8_rulerOfAll 10 = .ok (.iconst (-1), 1) := fq1_2 (fl_X8_rulerOfAll_0 (j := 10) rfl rfl)
theorem dX8_rulerOfAll_11 : decode cX8_rulerOfAll 11 = .ok (.goto 9, 3) := fq3_167 (fl_X8_rulerOfAll_0 (j := 11) rfl rfl) (fl_X8_rulerOfAll_0 (j := 12) rfl rfl) (fl_X8_rulerOfAll_0 (j := 13) rfl rfl) (s2p rfl (bl rfl))
theorem dX8_rulerOfAll_14 : decode cX8_rulerOfAll 14 = .ok (.aload_n 0, 1) := fq1_42 (fl_X8_rulerOfAll_0 (j := 14) rfl rfl)
theorem dX8_rulerOfAll_15 : decode cX8_rulerOfAll 15 = .ok (.iconst 0, 1) := fq1_3 (fl_X8_rulerOfAll_0 (j := 15) rfl rfl)
theorem dX8_rulerOfAll_16 : decode cX8_rulerOfAll 16 = .ok (.iload_n 1, 1) := fq1_27 (fl_X8_rulerOfAll_0 (j := 16) rfl rfl)
theorem dX8_rulerOfAll_17 : decode cX8_rulerOfAll 17 = .ok (.invokevirtual 80, 3) := fq3_182 (fl_X8_rulerOfAll_0 (j := 17) rfl rfl) (fl_X8_rulerOfAll_0 (j := 18) rfl rfl) (fl_X8_rulerOfAll_0 (j := 19) rfl rfl) rfl
theorem dX8_rulerOfAll_20 : decode cX8_rulerOfAll 20 = .ok (.istore_n 2, 1) := fq1_61 (fl_X8_rulerOfAll_0 (j := 20) rfl rfl)
theorem dX8_rulerOfAll_21 : decode cX8_rulerOfAll 21 = .ok (.iconst 1, 1) := fq1_4 (fl_X8_rulerOfAll_0 (j := 21) rfl rfl)
theorem dX8_rulerOfAll_22 : decode cX8_rulerOfAll 22 = .ok (.istore_n 3, 1) := fq1_62 (fl_X8_rulerOfAll_0 (j := 22) rfl rfl)
theorem dX8_rulerOfAll_23 : decode cX8_rulerOfAll 23 = .ok (.iload_n 3, 1) := fq1_29 (fl_X8_rulerOfAll_0 (j := 23) rfl rfl)
theorem dX8_rulerOfAll_24 : decode cX8_rulerOfAll 24 = .ok (.aload_n 0, 1) := fq1_42 (fl_X8_rulerOfAll_0 (j := 24) rfl rfl)
theorem dX8_rulerOfAll_25 : decode cX8_rulerOfAll 25 = .ok (.getfield 12, 3) := fq3_180 (fl_X8_rulerOfAll_0 (j := 25) rfl rfl) (fl_X8_rulerOfAll_0 (j := 26) rfl rfl) (fl_X8_rulerOfAll_0 (j := 27) rfl rfl) rfl
theorem dX8_rulerOfAll_28 : decode cX8_rulerOfAll 28 = .ok (.getfield 77, 3) := fq3_180 (fl_X8_rulerOfAll_0 (j := 28) rfl rfl) (fl_X8_rulerOfAll_0 (j := 29) rfl rfl) (fl_X8_rulerOfAll_0 (j := 30) rfl rfl) rfl
theorem dX8_rulerOfAll_31 : decode cX8_rulerOfAll 31 = .ok (.if_icmp .ge 26, 3) := fq3_162 (fl_X8_rulerOfAll_0 (j := 31) rfl rfl) (fl_X8_rulerOfAll_0 (j := 32) rfl rfl) (fl_X8_rulerOfAll_0 (j := 33) rfl rfl) (s2p rfl (bl rfl))
theorem dX8_rulerOfAll_34 : decode cX8_rulerOfAll 34 = .ok (.iload_n 2, 1) := fq1_28 (fl_X8_rulerOfAll_0 (j := 34) rfl rfl)
theorem dX8_rulerOfAll_35 : decode cX8_rulerOfAll 35 = .ok (.iconst (-1), 1) := fq1_2 (fl_X8_rulerOfAll_0 (j := 35) rfl rfl)
theorem dX8_rulerOfAll_36 : decode cX8_rulerOfAll 36 = .ok (.if_icmp .eq 21, 3) := fq3_159 (fl_X8_rulerOfAll_0 (j := 36) rfl rfl) (fl_X8_rulerOfAll_0 (j := 37) rfl rfl) (fl_X8_rulerOfAll_0 (j := 38) rfl rfl) (s2p rfl (bl rfl))
theorem dX8_rulerOfAll_39 : decode cX8_rulerOfAll 39 = .ok (.aload_n 0, 1) := fq1_42 (fl_X8_rulerOfAll_0 (j := 39) rfl rfl)
theorem dX8_rulerOfAll_40 : decode cX8_rulerOfAll 40 = .ok (.iload_n 3, 1) := fq1_29 (fl_X8_rulerOfAll_0 (j := 40) rfl rfl)
theorem dX8_rulerOfAll_41 : decode cX8_rulerOfAll 41 = .ok (.iload_n 1, 1) := fq1_27 (fl_X8_rulerOfAll_0 (j := 41) rfl rfl)
theorem dX8_rulerOfAll_42 : decode cX8_rulerOfAll 42 = .ok (.invokevirtual 80, 3) := fq3_182 (fl_X8_rulerOfAll_0 (j := 42) rfl rfl) (fl_X8_rulerOfAll_0 (j := 43) rfl rfl) (fl_X8_rulerOfAll_0 (j := 44) rfl rfl) rfl
theorem dX8_rulerOfAll_45 : decode cX8_rulerOfAll 45 = .ok (.iload_n 2, 1) := fq1_28 (fl_X8_rulerOfAll_0 (j := 45) rfl rfl)
theorem dX8_rulerOfAll_46 : decode cX8_rulerOfAll 46 = .ok (.if_icmp .eq 5, 3) := fq3_159 (fl_X8_rulerOfAll_0 (j := 46) rfl rfl) (fl_X8_rulerOfAll_0 (j := 47) rfl rfl) (fl_X8_rulerOfAll_0 (j := 48) rfl rfl) (s2p rfl (bl rfl))
theorem dX8_rulerOfAll_49 : decode cX8_rulerOfAll 49 = .ok (.iconst (-1), 1) := fq1_2 (fl_X8_rulerOfAll_0 (j := 49) rfl rfl)
theorem dX8_rulerOfAll_50 : decode cX8_rulerOfAll 50 = .ok (.istore_n 2, 1) := fq1_61 (fl_X8_rulerOfAll_0 (j := 50) rfl rfl)
theorem dX8_rulerOfAll_51 : decode cX8_rulerOfAll 51 = .ok (.iinc 3 1, 3) := fq3_132 (fl_X8_rulerOfAll_0 (j := 51) rfl rfl) (fl_X8_rulerOfAll_0 (j := 52) rfl rfl) (fl_X8_rulerOfAll_0 (j := 53) rfl rfl) rfl (s1p rfl (bl rfl))
theorem dX8_rulerOfAll_54 : decode cX8_rulerOfAll 54 = .ok (.goto (-31), 3) := fq3_167 (fl_X8_rulerOfAll_0 (j := 54) rfl rfl) (fl_X8_rulerOfAll_0 (j := 55) rfl rfl) (fl_X8_rulerOfAll_0 (j := 56) rfl rfl) (by decide)
theorem dX8_rulerOfAll_57 : decode cX8_rulerOfAll 57 = .ok (.iload_n 2, 1) := fq1_28 (fl_X8_rulerOfAll_0 (j := 57) rfl rfl)
theorem dX8_rulerOfAll_58 : decode cX8_rulerOfAll 58 = .ok (.ireturn, 1) := fq1_172 (fl_X8_rulerOfAll_0 (j := 58) rfl rfl)
end

section
theorem rg_w {f : Nat → Int32} {lo hi h2 n : Int} (h : rgI f lo hi n) (hh : hi ≤ h2) : rgI f lo h2 n := fun e a b => ⟨(h e a b).1, Int.le_trans (h e a b).2 hh⟩
set_option maxHeartbeats 4000000 in
set_option maxRecDepth 100000 in
theorem k_goesAhead (l : Launch) (D : va_G) (k : Nat → ClassId) (hw1 hc hy cw cg cs ck : Nat) (gf sf kf0 : Nat → Int32) (wk od : Int) (hwk : 0 ≤ wk ∧ wk ≤ 400) (hod : 0 ≤ od ∧ od ≤ 20) (rgg0 : rgI gf 0 5 od) (hs hf : Nat) (fs : List Value) (f1 : fs[1]? = some (.ref hf)) (f : Nat → Int32) (n : Int) (hn : n ≤ 6) (hx0 : FXI f n) (f3 : fs[3]? = some (.int (iZ n))) (hn0 : 0 ≤ n) (lw : Int) (f5 : fs[5]? = some (.int (iZ lw))) (hlw : -2147483648 ≤ lw ∧ lw < 2147483648) (a b r : Int) (ha0 : 0 ≤ a ∧ a < od) (hb0 : 0 ≤ b ∧ b < od) (hr0 : 0 ≤ r ∧ r < 6) : RP l yX8_goesAhead cX8_goesAhead 4 (some .boolean) 1 D k [.ref hw1, .int (iZ a), .int (iZ b), .int (iZ r)] [(hw1, .inr (8, [.ref hs, .ref hc, .ref hy])), (hc, .inr (0, [.ref cw, .ref cg, .ref cs, .ref ck, .int (iZ wk), .int (iZ od)])), (cg, .inl (k 1, 20, .inl gf)), (cs, .inl (k 1, 20, .inl sf)), (ck, .inl (k 1, 120, .inl kf0)), (hs, .inr (5, fs)), (hf, .inl (k 1, 36, .inl f))] (fun z => z = 0 ∨ z = 1) := by
  refine MRP (by decide) (Nat.le_of_ble_eq_true rfl) (fun p e s m below meth c ls hx hb hml hr hlocks hts hown hKK hP hl => ?_)
  have hK := hKK.1
  have hl : lv_has ls 4 [(0, .ref hw1), (1, .int (iZ a)), (2, .int (iZ b)), (3, .int (iZ r))] := hl
  refine lv_aload_n hx hb dX8_goesAhead_0 rfl (lv_at hl 0 rfl) ?_
  refine va_get (D := D) (ci := 8) (v := .ref hs) (C := RX8) (T := TX8) (N := 3) hx hb hts iX8 hown hK hP 0 rfl rfl 0 (bl rfl) (hts _ qf_X8_12) (fun _ h => h) rfl dX8_goesAhead_1 ?_
  refine va_get (D := D) (ci := 5) (v := .int (iZ lw)) (C := RX5) (T := TX5) (N := 7) hx hb hts iX5 hown hK hP 5 rfl rfl 5 (bl rfl) (hts _ qf_X8_64) (fun _ h => h) f5 dX8_goesAhead_4 ?_
  rcases Classical.em (lw = 0) with c_1 | c_1
  ·
    refine lv_tableIn (tgt := 32) (off := 25) hx hb dX8_goesAhead_7 (by rw [iZ_ti ⟨by omega, by omega⟩]; omega) (by rw [iZ_ti ⟨by omega, by omega⟩]; omega) (by rw [iZ_ti ⟨by omega, by omega⟩, c_1]; rfl) (by decide) ?_
    refine lv_aload_n hx hb dX8_goesAhead_32 rfl (lv_at hl 0 rfl) ?_
    refine va_get (D := D) (ci := 8) (v := .ref hc) (C := RX8) (T := TX8) (N := 3) hx hb hts iX8 hown hK hP 0 rfl rfl 1 (bl rfl) (hts _ qf_X8_21) (fun _ h => h) rfl dX8_goesAhead_33 ?_
    refine lv_iload_n hx hb dX8_goesAhead_36 rfl (lv_at hl 1 rfl) ?_
    refine lv_iload_n hx hb dX8_goesAhead_37 rfl (lv_at hl 3 rfl) ?_
    refine CRV (As := [.int (iZ a), .int (iZ r)]) (rest := []) hx hb hml hown hts hKK (hP.sub (ws' := [(hc, .inr (0, [.ref cw, .ref cg, .ref cs, .ref ck, .int (iZ wk), .int (iZ od)])), (ck, .inl (k 1, 120, .inl kf0))]) [1, 4] rfl) (k_firstKnown l D k hc ck [.ref cw, .ref cg, .ref cs, .ref ck, .int (iZ wk), .int (iZ od)] rfl kf0 a r ⟨by omega, by omega⟩ ⟨by omega, by omega⟩) ci_X0_firstKnown qm_X8_56 ⟨Nat.le_of_ble_eq_true rfl, Nat.le_of_ble_eq_true rfl⟩ ⟨Nat.le_of_ble_eq_true rfl, Nat.le_of_ble_eq_true rfl⟩ 0 rfl rfl rfl hl.1 rfl (Nat.le_of_ble_eq_true rfl) dX8_goesAhead_38 ?_
    have hg_h_2 := gz_rg kf0 ((a * 6) + r)
    refine lv_aload_n hx hb dX8_goesAhead_41 rfl (lv_at hl 0 rfl) ?_
    refine va_get (D := D) (ci := 8) (v := .ref hc) (C := RX8) (T := TX8) (N := 3) hx hb hts iX8 hown hK hP 0 rfl rfl 1 (bl rfl) (hts _ qf_X8_21) (fun _ h => h) rfl dX8_goesAhead_42 ?_
    refine lv_iload_n hx hb dX8_goesAhead_45 rfl (lv_at hl 2 rfl) ?_
    refine lv_iload_n hx hb dX8_goesAhead_46 rfl (lv_at hl 3 rfl) ?_
    refine CRV (As := [.int (iZ b), .int (iZ r)]) (rest := [.int (iZ (gz kf0 ((a * 6) + r)))]) hx hb hml hown hts hKK (hP.sub (ws' := [(hc, .inr (0, [.ref cw, .ref cg, .ref cs, .ref ck, .int (iZ wk), .int (iZ od)])), (ck, .inl (k 1, 120, .inl kf0))]) [1, 4] rfl) (k_firstKnown l D k hc ck [.ref cw, .ref cg, .ref cs, .ref ck, .int (iZ wk), .int (iZ od)] rfl kf0 b r ⟨by omega, by omega⟩ ⟨by omega, by omega⟩) ci_X0_firstKnown qm_X8_56 ⟨Nat.le_of_ble_eq_true rfl, Nat.le_of_ble_eq_true rfl⟩ ⟨Nat.le_of_ble_eq_true rfl, Nat.le_of_ble_eq_true rfl⟩ 0 rfl rfl rfl hl.1 rfl (Nat.le_of_ble_eq_true rfl) dX8_goesAhead_47 ?_
    have hg_h_3 := gz_rg kf0 ((b * 6) + r)
    refine lv_icmp_ge (tgt := 57) hx hb dX8_goesAhead_50 rfl (fun c_4 => ?_) (fun c_4 => ?_)
    ·
      have c_4 := (zle (x := iZ (gz kf0 ((b * 6) + r))) (y := iZ (gz kf0 ((a * 6) + r))) rfl rfl (gz_rg kf0 ((b * 6) + r)) (gz_rg kf0 ((a * 6) + r))).mp c_4
      refine lv_iconst (v := iZ 0) hx hb dX8_goesAhead_57 rfl ?_
      exact EPz hx hb hr hlocks (by omega) (by omega) dX8_goesAhead_58
    ·
      have c_4 := mt (zle (x := iZ (gz kf0 ((b * 6) + r))) (y := iZ (gz kf0 ((a * 6) + r))) rfl rfl (gz_rg kf0 ((b * 6) + r)) (gz_rg kf0 ((a * 6) + r))).mpr c_4
      refine lv_iconst (v := iZ 1) hx hb dX8_goesAhead_53 rfl ?_
      refine lv_goto (tgt := 58) hx hb dX8_goesAhead_54 rfl ?_
      exact EPz hx hb hr hlocks (by omega) (by omega) dX8_goesAhead_58
  ·
    rcases Classical.em (lw = 1) with c_5 | c_5
    ·
      refine lv_tableIn (tgt := 59) (off := 52) hx hb dX8_goesAhead_7 (by rw [iZ_ti ⟨by omega, by omega⟩]; omega) (by rw [iZ_ti ⟨by omega, by omega⟩]; omega) (by rw [iZ_ti ⟨by omega, by omega⟩, c_5]; rfl) (by decide) ?_
      refine lv_aload_n hx hb dX8_goesAhead_59 rfl (lv_at hl 0 rfl) ?_
      refine va_get (D := D) (ci := 8) (v := .ref hc) (C := RX8) (T := TX8) (N := 3) hx hb hts iX8 hown hK hP 0 rfl rfl 1 (bl rfl) (hts _ qf_X8_21) (fun _ h => h) rfl dX8_goesAhead_60 ?_
      refine lv_iload_n hx hb dX8_goesAhead_63 rfl (lv_at hl 1 rfl) ?_
      refine lv_iload_n hx hb dX8_goesAhead_64 rfl (lv_at hl 3 rfl) ?_
      refine CRV (As := [.int (iZ a), .int (iZ r)]) (rest := []) hx hb hml hown hts hKK (hP.sub (ws' := [(hc, .inr (0, [.ref cw, .ref cg, .ref cs, .ref ck, .int (iZ wk), .int (iZ od)])), (ck, .inl (k 1, 120, .inl kf0))]) [1, 4] rfl) (k_firstKnown l D k hc ck [.ref cw, .ref cg, .ref cs, .ref ck, .int (iZ wk), .int (iZ od)] rfl kf0 a r ⟨by omega, by omega⟩ ⟨by omega, by omega⟩) ci_X0_firstKnown qm_X8_56 ⟨Nat.le_of_ble_eq_true rfl, Nat.le_of_ble_eq_true rfl⟩ ⟨Nat.le_of_ble_eq_true rfl, Nat.le_of_ble_eq_true rfl⟩ 0 rfl rfl rfl hl.1 rfl (Nat.le_of_ble_eq_true rfl) dX8_goesAhead_65 ?_
      have hg_h_6 := gz_rg kf0 ((a * 6) + r)
      refine lv_aload_n hx hb dX8_goesAhead_68 rfl (lv_at hl 0 rfl) ?_
      refine va_get (D := D) (ci := 8) (v := .ref hc) (C := RX8) (T := TX8) (N := 3) hx hb hts iX8 hown hK hP 0 rfl rfl 1 (bl rfl) (hts _ qf_X8_21) (fun _ h => h) rfl dX8_goesAhead_69 ?_
      refine lv_iload_n hx hb dX8_goesAhead_72 rfl (lv_at hl 2 rfl) ?_
      refine lv_iload_n hx hb dX8_goesAhead_73 rfl (lv_at hl 3 rfl) ?_
      refine CRV (As := [.int (iZ b), .int (iZ r)]) (rest := [.int (iZ (gz kf0 ((a * 6) + r)))]) hx hb hml hown hts hKK (hP.sub (ws' := [(hc, .inr (0, [.ref cw, .ref cg, .ref cs, .ref ck, .int (iZ wk), .int (iZ od)])), (ck, .inl (k 1, 120, .inl kf0))]) [1, 4] rfl) (k_firstKnown l D k hc ck [.ref cw, .ref cg, .ref cs, .ref ck, .int (iZ wk), .int (iZ od)] rfl kf0 b r ⟨by omega, by omega⟩ ⟨by omega, by omega⟩) ci_X0_firstKnown qm_X8_56 ⟨Nat.le_of_ble_eq_true rfl, Nat.le_of_ble_eq_true rfl⟩ ⟨Nat.le_of_ble_eq_true rfl, Nat.le_of_ble_eq_true rfl⟩ 0 rfl rfl rfl hl.1 rfl (Nat.le_of_ble_eq_true rfl) dX8_goesAhead_74 ?_
      have hg_h_7 := gz_rg kf0 ((b * 6) + r)
      refine lv_icmp_le (tgt := 84) hx hb dX8_goesAhead_77 rfl (fun c_8 => ?_) (fun c_8 => ?_)
      ·
        have c_8 := (zle (x := iZ (gz kf0 ((a * 6) + r))) (y := iZ (gz kf0 ((b * 6) + r))) rfl rfl (gz_rg kf0 ((a * 6) + r)) (gz_rg kf0 ((b * 6) + r))).mp c_8
        refine lv_iconst (v := iZ 0) hx hb dX8_goesAhead_84 rfl ?_
        exact EPz hx hb hr hlocks (by omega) (by omega) dX8_goesAhead_85
      ·
        have c_8 := mt (zle (x := iZ (gz kf0 ((a * 6) + r))) (y := iZ (gz kf0 ((b * 6) + r))) rfl rfl (gz_rg kf0 ((a * 6) + r)) (gz_rg kf0 ((b * 6) + r))).mpr c_8
        refine lv_iconst (v := iZ 1) hx hb dX8_goesAhead_80 rfl ?_
        refine lv_goto (tgt := 85) hx hb dX8_goesAhead_81 rfl ?_
        exact EPz hx hb hr hlocks (by omega) (by omega) dX8_goesAhead_85
    ·
      rcases Classical.em (lw = 2) with c_9 | c_9
      ·
        refine lv_tableIn (tgt := 86) (off := 79) hx hb dX8_goesAhead_7 (by rw [iZ_ti ⟨by omega, by omega⟩]; omega) (by rw [iZ_ti ⟨by omega, by omega⟩]; omega) (by rw [iZ_ti ⟨by omega, by omega⟩, c_9]; rfl) (by decide) ?_
        refine lv_aload_n hx hb dX8_goesAhead_86 rfl (lv_at hl 0 rfl) ?_
        refine va_get (D := D) (ci := 8) (v := .ref hs) (C := RX8) (T := TX8) (N := 3) hx hb hts iX8 hown hK hP 0 rfl rfl 0 (bl rfl) (hts _ qf_X8_12) (fun _ h => h) rfl dX8_goesAhead_87 ?_
        refine lv_aload_n hx hb dX8_goesAhead_90 rfl (lv_at hl 0 rfl) ?_
        refine va_get (D := D) (ci := 8) (v := .ref hc) (C := RX8) (T := TX8) (N := 3) hx hb hts iX8 hown hK hP 0 rfl rfl 1 (bl rfl) (hts _ qf_X8_21) (fun _ h => h) rfl dX8_goesAhead_91 ?_
        refine va_get (D := D) (ci := 0) (v := .ref cg) (C := RX0) (T := TX0) (N := 6) hx hb hts iX0 hown hK hP 1 rfl rfl 1 (bl rfl) (hts _ qf_X8_67) (fun _ h => h) rfl dX8_goesAhead_94 ?_
        refine lv_iload_n hx hb dX8_goesAhead_97 rfl (lv_at hl 1 rfl) ?_
        refine va_iald hx hb hK hP 2 1 rfl rfl (zin (e := a) (n := 20) ⟨by omega, by omega⟩ (bl rfl)) dX8_goesAhead_98 ?_
        refine lv_topi (fun x_10 ex_10 => ?_)
        obtain rfl : x_10 = iZ (gz gf a) := ex_10.trans (gz_eq ⟨by omega, by omega⟩)
        have h_11 := rgg0 a (by omega) (by omega)
        refine lv_iconst (v := iZ 3) hx hb dX8_goesAhead_99 rfl ?_
        refine CRV (As := [.int (iZ (gz gf a)), .int (iZ 3)]) (rest := []) hx hb hml hown hts hKK (hP.sub (ws' := [(hs, .inr (5, fs)), (hf, .inl (k 1, 36, .inl f))]) [5, 6] rfl) (k_fact l D k hs hf fs f1 f (gz gf a) 3 ⟨by omega, by omega⟩ ⟨by omega, by omega⟩) ci_X5_fact qm_X8_71 ⟨Nat.le_of_ble_eq_true rfl, Nat.le_of_ble_eq_true rfl⟩ ⟨Nat.le_of_ble_eq_true rfl, Nat.le_of_ble_eq_true rfl⟩ 0 rfl rfl rfl hl.1 rfl (Nat.le_of_ble_eq_true rfl) dX8_goesAhead_100 ?_
        have hg_h_12 := gz_rg f (((gz gf a) * 6) + 3)
        refine lv_aload_n hx hb dX8_goesAhead_103 rfl (lv_at hl 0 rfl) ?_
        refine va_get (D := D) (ci := 8) (v := .ref hs) (C := RX8) (T := TX8) (N := 3) hx hb hts iX8 hown hK hP 0 rfl rfl 0 (bl rfl) (hts _ qf_X8_12) (fun _ h => h) rfl dX8_goesAhead_104 ?_
        refine lv_aload_n hx hb dX8_goesAhead_107 rfl (lv_at hl 0 rfl) ?_
        refine va_get (D := D) (ci := 8) (v := .ref hc) (C := RX8) (T := TX8) (N := 3) hx hb hts iX8 hown hK hP 0 rfl rfl 1 (bl rfl) (hts _ qf_X8_21) (fun _ h => h) rfl dX8_goesAhead_108 ?_
        refine va_get (D := D) (ci := 0) (v := .ref cg) (C := RX0) (T := TX0) (N := 6) hx hb hts iX0 hown hK hP 1 rfl rfl 1 (bl rfl) (hts _ qf_X8_67) (fun _ h => h) rfl dX8_goesAhead_111 ?_
        refine lv_iload_n hx hb dX8_goesAhead_114 rfl (lv_at hl 2 rfl) ?_
        refine va_iald hx hb hK hP 2 1 rfl rfl (zin (e := b) (n := 20) ⟨by omega, by omega⟩ (bl rfl)) dX8_goesAhead_115 ?_
        refine lv_topi (fun x_13 ex_13 => ?_)
        obtain rfl : x_13 = iZ (gz gf b) := ex_13.trans (gz_eq ⟨by omega, by omega⟩)
        have h_14 := rgg0 b (by omega) (by omega)
        refine lv_iconst (v := iZ 3) hx hb dX8_goesAhead_116 rfl ?_
        refine CRV (As := [.int (iZ (gz gf b)), .int (iZ 3)]) (rest := [.int (iZ (gz f (((gz gf a) * 6) + 3)))]) hx hb hml hown hts hKK (hP.sub (ws' := [(hs, .inr (5, fs)), (hf, .inl (k 1, 36, .inl f))]) [5, 6] rfl) (k_fact l D k hs hf fs f1 f (gz gf b) 3 ⟨by omega, by omega⟩ ⟨by omega, by omega⟩) ci_X5_fact qm_X8_71 ⟨Nat.le_of_ble_eq_true rfl, Nat.le_of_ble_eq_true rfl⟩ ⟨Nat.le_of_ble_eq_true rfl, Nat.le_of_ble_eq_true rfl⟩ 0 rfl rfl rfl hl.1 rfl (Nat.le_of_ble_eq_true rfl) dX8_goesAhead_117 ?_
        have hg_h_15 := gz_rg f (((gz gf b) * 6) + 3)
        refine lv_icmp_le (tgt := 127) hx hb dX8_goesAhead_120 rfl (fun c_16 => ?_) (fun c_16 => ?_)
        ·
          have c_16 := (zle (x := iZ (gz f (((gz gf a) * 6) + 3))) (y := iZ (gz f (((gz gf b) * 6) + 3))) rfl rfl (gz_rg f (((gz gf a) * 6) + 3)) (gz_rg f (((gz gf b) * 6) + 3))).mp c_16
          refine lv_iconst (v := iZ 0) hx hb dX8_goesAhead_127 rfl ?_
          exact EPz hx hb hr hlocks (by omega) (by omega) dX8_goesAhead_128
        ·
          have c_16 := mt (zle (x := iZ (gz f (((gz gf a) * 6) + 3))) (y := iZ (gz f (((gz gf b) * 6) + 3))) rfl rfl (gz_rg f (((gz gf a) * 6) + 3)) (gz_rg f (((gz gf b) * 6) + 3))).mpr c_16
          refine lv_iconst (v := iZ 1) hx hb dX8_goesAhead_123 rfl ?_
          refine lv_goto (tgt := 128) hx hb dX8_goesAhead_124 rfl ?_
          exact EPz hx hb hr hlocks (by omega) (by omega) dX8_goesAhead_128
      ·
        refine lv_tableOut (tgt := 129) hx hb dX8_goesAhead_7 (by rw [iZ_ti ⟨by omega, by omega⟩]; omega) (by decide) ?_
        refine lv_aload_n hx hb dX8_goesAhead_129 rfl (lv_at hl 0 rfl) ?_
        refine va_get (D := D) (ci := 8) (v := .ref hc) (C := RX8) (T := TX8) (N := 3) hx hb hts iX8 hown hK hP 0 rfl rfl 1 (bl rfl) (hts _ qf_X8_21) (fun _ h => h) rfl dX8_goesAhead_130 ?_
        refine va_get (D := D) (ci := 0) (v := .ref cs) (C := RX0) (T := TX0) (N := 6) hx hb hts iX0 hown hK hP 1 rfl rfl 2 (bl rfl) (hts _ qf_X8_74) (fun _ h => h) rfl dX8_goesAhead_133 ?_
        refine lv_iload_n hx hb dX8_goesAhead_136 rfl (lv_at hl 1 rfl) ?_
        refine va_iald hx hb hK hP 3 1 rfl rfl (zin (e := a) (n := 20) ⟨by omega, by omega⟩ (bl rfl)) dX8_goesAhead_137 ?_
        refine lv_topi (fun x_17 ex_17 => ?_)
        obtain rfl : x_17 = iZ (gz sf a) := ex_17.trans (gz_eq ⟨by omega, by omega⟩)
        have h_18 := gz_rg sf a
        refine lv_aload_n hx hb dX8_goesAhead_138 rfl (lv_at hl 0 rfl) ?_
        refine va_get (D := D) (ci := 8) (v := .ref hc) (C := RX8) (T := TX8) (N := 3) hx hb hts iX8 hown hK hP 0 rfl rfl 1 (bl rfl) (hts _ qf_X8_21) (fun _ h => h) rfl dX8_goesAhead_139 ?_
        refine va_get (D := D) (ci := 0) (v := .ref cs) (C := RX0) (T := TX0) (N := 6) hx hb hts iX0 hown hK hP 1 rfl rfl 2 (bl rfl) (hts _ qf_X8_74) (fun _ h => h) rfl dX8_goesAhead_142 ?_
        refine lv_iload_n hx hb dX8_goesAhead_145 rfl (lv_at hl 2 rfl) ?_
        refine va_iald hx hb hK hP 3 1 rfl rfl (zin (e := b) (n := 20) ⟨by omega, by omega⟩ (bl rfl)) dX8_goesAhead_146 ?_
        refine lv_topi (fun x_19 ex_19 => ?_)
        obtain rfl : x_19 = iZ (gz sf b) := ex_19.trans (gz_eq ⟨by omega, by omega⟩)
        have h_20 := gz_rg sf b
        refine lv_icmp_ge (tgt := 154) hx hb dX8_goesAhead_147 rfl (fun c_21 => ?_) (fun c_21 => ?_)
        ·
          have c_21 := (zle (x := iZ (gz sf b)) (y := iZ (gz sf a)) rfl rfl (gz_rg sf b) (gz_rg sf a)).mp c_21
          refine lv_iconst (v := iZ 0) hx hb dX8_goesAhead_154 rfl ?_
          exact EPz hx hb hr hlocks (by omega) (by omega) dX8_goesAhead_155
        ·
          have c_21 := mt (zle (x := iZ (gz sf b)) (y := iZ (gz sf a)) rfl rfl (gz_rg sf b) (gz_rg sf a)).mpr c_21
          refine lv_iconst (v := iZ 1) hx hb dX8_goesAhead_150 rfl ?_
          refine lv_goto (tgt := 155) hx hb dX8_goesAhead_151 rfl ?_
          exact EPz hx hb hr hlocks (by omega) (by omega) dX8_goesAhead_155
set_option maxHeartbeats 4000000 in
set_option maxRecDepth 100000 in
theorem k_ruler (l : Launch) (D : va_G) (k : Nat → ClassId) (hw1 hc hy cw cg cs ck : Nat) (gf sf kf0 : Nat → Int32) (wk od : Int) (hwk : 0 ≤ wk ∧ wk ≤ 400) (hod : 0 ≤ od ∧ od ≤ 20) (rgg0 : rgI gf 0 5 od) (hs hf : Nat) (fs : List Value) (f1 : fs[1]? = some (.ref hf)) (f : Nat → Int32) (n : Int) (hn : n ≤ 6) (hx0 : FXI f n) (f3 : fs[3]? = some (.int (iZ n))) (hn0 : 0 ≤ n) (lw : Int) (f5 : fs[5]? = some (.int (iZ lw))) (hlw : -2147483648 ≤ lw ∧ lw < 2147483648) (r w : Int) (hr0 : 0 ≤ r ∧ r < 6) (hw : -2147483648 ≤ w ∧ w < 2147483648) : RP l yX8_ruler cX8_ruler 7 (some .int) 2 D k [.ref hw1, .int (iZ r), .int (iZ w)] [(hw1, .inr (8, [.ref hs, .ref hc, .ref hy])), (hc, .inr (0, [.ref cw, .ref cg, .ref cs, .ref ck, .int (iZ wk), .int (iZ od)])), (cg, .inl (k 1, 20, .inl gf)), (cs, .inl (k 1, 20, .inl sf)), (ck, .inl (k 1, 120, .inl kf0)), (hs, .inr (5, fs)), (hf, .inl (k 1, 36, .inl f))] (fun z => -1 ≤ z ∧ z < od ∨ z = -1) := by
  refine MRP (by decide) (Nat.le_of_ble_eq_true rfl) (fun p e s m below meth c ls hx hb hml hr hlocks hts hown hKK hP hl => ?_)
  have hK := hKK.1
  have hl : lv_has ls 7 [(0, .ref hw1), (1, .int (iZ r)), (2, .int (iZ w))] := hl
  refine lv_iconst (v := iZ (-1)) hx hb dX8_ruler_0 rfl ?_
  refine lv_istore_n (lv' := [(3, .int (iZ (-1))), (0, .ref hw1), (1, .int (iZ r)), (2, .int (iZ w))]) hx hb dX8_ruler_1 rfl hl (bl rfl) rfl (fun ls hl => ?_)
  refine lv_iconst (v := iZ 0) hx hb dX8_ruler_2 rfl ?_
  refine lv_istore (lv' := [(4, .int (iZ 0)), (3, .int (iZ (-1))), (0, .ref hw1), (1, .int (iZ r)), (2, .int (iZ w))]) hx hb dX8_ruler_3 hl (bl rfl) rfl (fun ls hl => ?_)
  have HL1 : ∀ (fu : Nat) (i m1 : Int) (ls : Array Slot), (od + 1 - i) < (fu : Int) → 0 ≤ i → i ≤ od → -1 ≤ m1 → m1 < i → lv_has ls 7 [(4, .int (iZ i)), (3, .int (iZ m1)), (0, .ref hw1), (1, .int (iZ r)), (2, .int (iZ w))] → W p l e (rj 2 0 0) s m [.ref hw1, .int (iZ r), .int (iZ w)].toArray below meth c s.heap [] 0 0 (MQ below (QcP (fun z => -1 ≤ z ∧ z < od ∨ z = -1)) [.ref hw1, .int (iZ r), .int (iZ w)].toArray s 0 0 (fun _ => False)) (F0 m 5 ls []) := by
    intro fu
    induction fu with
    | zero => intro i m1 ls hμ1 hi1 hi2 hm1 hm2 hl; exact absurd hμ1 (by omega)
    | succ fu ih1 =>
      intro i m1 ls hμ1 hi1 hi2 hm1 hm2 hl
      refine lv_iload hx hb dX8_ruler_5 (lv_at hl 0 rfl) ?_
      refine lv_aload_n hx hb dX8_ruler_7 rfl (lv_at hl 2 rfl) ?_
      refine va_get (D := D) (ci := 8) (v := .ref hc) (C := RX8) (T := TX8) (N := 3) hx hb hts iX8 hown hK hP 0 rfl rfl 1 (bl rfl) (hts _ qf_X8_21) (fun _ h => h) rfl dX8_ruler_8 ?_
      refine va_get (D := D) (ci := 0) (v := .int (iZ od)) (C := RX0) (T := TX0) (N := 6) hx hb hts iX0 hown hK hP 1 rfl rfl 5 (bl rfl) (hts _ qf_X8_53) (fun _ h => h) rfl dX8_ruler_11 ?_
      refine lv_icmp_ge (tgt := 78) hx hb dX8_ruler_14 rfl (fun c_1 => ?_) (fun c_1 => ?_)
      ·
        have c_1 := (zle (x := iZ od) (y := iZ i) rfl rfl ⟨by omega, by omega⟩ ⟨by omega, by omega⟩).mp c_1
        refine lv_iload_n hx hb dX8_ruler_78 rfl (lv_at hl 1 rfl) ?_
        exact EPi hx hb hr hlocks (by omega) dX8_ruler_79
      ·
        have c_1 := mt (zle (x := iZ od) (y := iZ i) rfl rfl ⟨by omega, by omega⟩ ⟨by omega, by omega⟩).mpr c_1
        refine lv_aload_n hx hb dX8_ruler_17 rfl (lv_at hl 2 rfl) ?_
        refine va_get (D := D) (ci := 8) (v := .ref hc) (C := RX8) (T := TX8) (N := 3) hx hb hts iX8 hown hK hP 0 rfl rfl 1 (bl rfl) (hts _ qf_X8_21) (fun _ h => h) rfl dX8_ruler_18 ?_
        refine lv_iload hx hb dX8_ruler_21 (lv_at hl 0 rfl) ?_
        refine lv_iload_n hx hb dX8_ruler_23 rfl (lv_at hl 3 rfl) ?_
        refine CRV (As := [.int (iZ i), .int (iZ r)]) (rest := []) hx hb hml hown hts hKK (hP.sub (ws' := [(hc, .inr (0, [.ref cw, .ref cg, .ref cs, .ref ck, .int (iZ wk), .int (iZ od)])), (ck, .inl (k 1, 120, .inl kf0))]) [1, 4] rfl) (k_firstKnown l D k hc ck [.ref cw, .ref cg, .ref cs, .ref ck, .int (iZ wk), .int (iZ od)] rfl kf0 i r ⟨by omega, by omega⟩ ⟨by omega, by omega⟩) ci_X0_firstKnown qm_X8_56 ⟨Nat.le_of_ble_eq_true rfl, Nat.le_of_ble_eq_true rfl⟩ ⟨Nat.le_of_ble_eq_true rfl, Nat.le_of_ble_eq_true rfl⟩ 0 rfl rfl rfl hl.1 rfl (Nat.le_of_ble_eq_true rfl) dX8_ruler_24 ?_
        have hg_h_2 := gz_rg kf0 ((i * 6) + r)
        refine lv_istore (lv' := [(5, .int (iZ (gz kf0 ((i * 6) + r)))), (4, .int (iZ i)), (3, .int (iZ m1)), (0, .ref hw1), (1, .int (iZ r)), (2, .int (iZ w))]) hx hb dX8_ruler_27 hl (bl rfl) rfl (fun ls hl => ?_)
        refine lv_iload hx hb dX8_ruler_29 (lv_at hl 0 rfl) ?_
        refine lv_iconst (v := iZ (-1)) hx hb dX8_ruler_31 rfl ?_
        refine lv_icmp_eq (tgt := 45) hx hb dX8_ruler_32 rfl (fun c_3 => ?_) (fun c_3 => ?_)
        ·
          have c_3 := (zeq (x := iZ (gz kf0 ((i * 6) + r))) (y := iZ (-1)) rfl rfl (gz_rg kf0 ((i * 6) + r)) wn_m1).mp c_3
          refine lv_iconst (v := iZ 0) hx hb dX8_ruler_45 rfl ?_
          refine lv_istore (lv' := [(6, .int (iZ 0)), (5, .int (iZ (gz kf0 ((i * 6) + r)))), (4, .int (iZ i)), (3, .int (iZ m1)), (0, .ref hw1), (1, .int (iZ r)), (2, .int (iZ w))]) hx hb dX8_ruler_46 hl (bl rfl) rfl (fun ls hl => ?_)
          refine lv_iload hx hb dX8_ruler_48 (lv_at hl 0 rfl) ?_
          refine lv_if_eq (tgt := 72) hx hb dX8_ruler_50 rfl (fun _ => ?_) (fun c => absurd (by decide) c)
          refine lv_iinc (v := iZ (i + 1)) (lv' := [(4, .int (iZ (i + 1))), (6, .int (iZ 0)), (5, .int (iZ (gz kf0 ((i * 6) + r)))), (3, .int (iZ m1)), (0, .ref hw1), (1, .int (iZ r)), (2, .int (iZ w))]) hx hb dX8_ruler_72 hl (k := 2) rfl (iZ_add i 1) (by decide) rfl (fun ls hl => ?_)
          refine lv_goto (tgt := 5) hx hb dX8_ruler_75 rfl ?_
          exact ih1  _ _ _ (by omega) (by omega) (by omega) (by omega) (by omega) (lv_sub hl [0, 3, 4, 5, 6] rfl)
        ·
          have c_3 := mt (zeq (x := iZ (gz kf0 ((i * 6) + r))) (y := iZ (-1)) rfl rfl (gz_rg kf0 ((i * 6) + r)) wn_m1).mpr c_3
          refine lv_iload hx hb dX8_ruler_35 (lv_at hl 0 rfl) ?_
          refine lv_iload_n hx hb dX8_ruler_37 rfl (lv_at hl 5 rfl) ?_
          refine lv_icmp_gt (tgt := 45) hx hb dX8_ruler_38 rfl (fun c_5 => ?_) (fun c_5 => ?_)
          ·
            have c_5 := (zlt (x := iZ w) (y := iZ (gz kf0 ((i * 6) + r))) rfl rfl ⟨by omega, by omega⟩ (gz_rg kf0 ((i * 6) + r))).mp c_5
            refine lv_iconst (v := iZ 0) hx hb dX8_ruler_45 rfl ?_
            refine lv_istore (lv' := [(6, .int (iZ 0)), (5, .int (iZ (gz kf0 ((i * 6) + r)))), (4, .int (iZ i)), (3, .int (iZ m1)), (0, .ref hw1), (1, .int (iZ r)), (2, .int (iZ w))]) hx hb dX8_ruler_46 hl (bl rfl) rfl (fun ls hl => ?_)
            refine lv_iload hx hb dX8_ruler_48 (lv_at hl 0 rfl) ?_
            refine lv_if_eq (tgt := 72) hx hb dX8_ruler_50 rfl (fun _ => ?_) (fun c => absurd (by decide) c)
            refine lv_iinc (v := iZ (i + 1)) (lv' := [(4, .int (iZ (i + 1))), (6, .int (iZ 0)), (5, .int (iZ (gz kf0 ((i * 6) + r)))), (3, .int (iZ m1)), (0, .ref hw1), (1, .int (iZ r)), (2, .int (iZ w))]) hx hb dX8_ruler_72 hl (k := 2) rfl (iZ_add i 1) (by decide) rfl (fun ls hl => ?_)
            refine lv_goto (tgt := 5) hx hb dX8_ruler_75 rfl ?_
            exact ih1  _ _ _ (by omega) (by omega) (by omega) (by omega) (by omega) (lv_sub hl [0, 3, 4, 5, 6] rfl)
          ·
            have c_5 := mt (zlt (x := iZ w) (y := iZ (gz kf0 ((i * 6) + r))) rfl rfl ⟨by omega, by omega⟩ (gz_rg kf0 ((i * 6) + r))).mpr c_5
            refine lv_iconst (v := iZ 1) hx hb dX8_ruler_41 rfl ?_
            refine lv_goto (tgt := 46) hx hb dX8_ruler_42 rfl ?_
            refine lv_istore (lv' := [(6, .int (iZ 1)), (5, .int (iZ (gz kf0 ((i * 6) + r)))), (4, .int (iZ i)), (3, .int (iZ m1)), (0, .ref hw1), (1, .int (iZ r)), (2, .int (iZ w))]) hx hb dX8_ruler_46 hl (bl rfl) rfl (fun ls hl => ?_)
            refine lv_iload hx hb dX8_ruler_48 (lv_at hl 0 rfl) ?_
            refine lv_if_eq (tgt := 72) hx hb dX8_ruler_50 rfl (fun c => absurd c (by decide)) (fun _ => ?_)
            refine lv_iload_n hx hb dX8_ruler_53 rfl (lv_at hl 3 rfl) ?_
            refine lv_iconst (v := iZ (-1)) hx hb dX8_ruler_54 rfl ?_
            refine lv_icmp_eq (tgt := 69) hx hb dX8_ruler_55 rfl (fun c_8 => ?_) (fun c_8 => ?_)
            ·
              have c_8 := (zeq (x := iZ m1) (y := iZ (-1)) rfl rfl ⟨by omega, by omega⟩ wn_m1).mp c_8
              refine lv_iload hx hb dX8_ruler_69 (lv_at hl 2 rfl) ?_
              refine lv_istore_n (lv' := [(3, .int (iZ i)), (6, .int (iZ 1)), (5, .int (iZ (gz kf0 ((i * 6) + r)))), (4, .int (iZ i)), (0, .ref hw1), (1, .int (iZ r)), (2, .int (iZ w))]) hx hb dX8_ruler_71 rfl hl (bl rfl) rfl (fun ls hl => ?_)
              refine lv_iinc (v := iZ (i + 1)) (lv' := [(4, .int (iZ (i + 1))), (3, .int (iZ i)), (6, .int (iZ 1)), (5, .int (iZ (gz kf0 ((i * 6) + r)))), (0, .ref hw1), (1, .int (iZ r)), (2, .int (iZ w))]) hx hb dX8_ruler_72 hl (k := 3) rfl (iZ_add i 1) (by decide) rfl (fun ls hl => ?_)
              refine lv_goto (tgt := 5) hx hb dX8_ruler_75 rfl ?_
              exact ih1  _ _ _ (by omega) (by omega) (by omega) (by omega) (by omega) (lv_sub hl [0, 1, 4, 5, 6] rfl)
            ·
              have c_8 := mt (zeq (x := iZ m1) (y := iZ (-1)) rfl rfl ⟨by omega, by omega⟩ wn_m1).mpr c_8
              refine lv_aload_n hx hb dX8_ruler_58 rfl (lv_at hl 4 rfl) ?_
              refine lv_iload hx hb dX8_ruler_59 (lv_at hl 2 rfl) ?_
              refine lv_iload_n hx hb dX8_ruler_61 rfl (lv_at hl 3 rfl) ?_
              refine lv_iload_n hx hb dX8_ruler_62 rfl (lv_at hl 5 rfl) ?_
              refine CPV (As := [.int (iZ i), .int (iZ m1), .int (iZ r)]) (rest := []) hx hb hml hown hts hKK hP (k_goesAhead l D k hw1 hc hy cw cg cs ck gf sf kf0 wk od ⟨by omega, by omega⟩ ⟨by omega, by omega⟩ rgg0 hs hf fs f1 f n hn hx0 f3 hn0 lw f5 hlw i m1 r ⟨by omega, by omega⟩ ⟨by omega, by omega⟩ ⟨by omega, by omega⟩) ci_X8_goesAhead qm_X8_60 ⟨Nat.le_of_ble_eq_true rfl, Nat.le_of_ble_eq_true rfl⟩ ⟨Nat.le_of_ble_eq_true rfl, Nat.le_of_ble_eq_true rfl⟩ 0 rfl rfl rfl hl.1 rfl (Nat.le_of_ble_eq_true rfl) dX8_ruler_63 (fun z_9 hz_9 => ?_)
              refine lv_if_eq (tgt := 72) hx hb dX8_ruler_66 rfl (fun c_10 => ?_) (fun c_10 => ?_)
              ·
                have c_10 := (zeq (x := iZ z_9) (y := iZ 0) rfl rfl ⟨by omega, by omega⟩ wn_0).mp c_10
                refine lv_iinc (v := iZ (i + 1)) (lv' := [(4, .int (iZ (i + 1))), (6, .int (iZ 1)), (5, .int (iZ (gz kf0 ((i * 6) + r)))), (3, .int (iZ m1)), (0, .ref hw1), (1, .int (iZ r)), (2, .int (iZ w))]) hx hb dX8_ruler_72 hl (k := 2) rfl (iZ_add i 1) (by decide) rfl (fun ls hl => ?_)
                refine lv_goto (tgt := 5) hx hb dX8_ruler_75 rfl ?_
                exact ih1  _ _ _ (by omega) (by omega) (by omega) (by omega) (by omega) (lv_sub hl [0, 3, 4, 5, 6] rfl)
              ·
                have c_10 := mt (zeq (x := iZ z_9) (y := iZ 0) rfl rfl ⟨by omega, by omega⟩ wn_0).mpr c_10
                refine lv_iload hx hb dX8_ruler_69 (lv_at hl 2 rfl) ?_
                refine lv_istore_n (lv' := [(3, .int (iZ i)), (6, .int (iZ 1)), (5, .int (iZ (gz kf0 ((i * 6) + r)))), (4, .int (iZ i)), (0, .ref hw1), (1, .int (iZ r)), (2, .int (iZ w))]) hx hb dX8_ruler_71 rfl hl (bl rfl) rfl (fun ls hl => ?_)
                refine lv_iinc (v := iZ (i + 1)) (lv' := [(4, .int (iZ (i + 1))), (3, .int (iZ i)), (6, .int (iZ 1)), (5, .int (iZ (gz kf0 ((i * 6) + r)))), (0, .ref hw1), (1, .int (iZ r)), (2, .int (iZ w))]) hx hb dX8_ruler_72 hl (k := 3) rfl (iZ_add i 1) (by decide) rfl (fun ls hl => ?_)
                refine lv_goto (tgt := 5) hx hb dX8_ruler_75 rfl ?_
                exact ih1  _ _ _ (by omega) (by omega) (by omega) (by omega) (by omega) (lv_sub hl [0, 1, 4, 5, 6] rfl)
  exact HL1 22 _ _ _ (by omega) (by omega) (by omega) (by omega) (by omega) (lv_sub hl [0, 1, 2, 3, 4] rfl)
set_option maxHeartbeats 4000000 in
set_option maxRecDepth 100000 in
theorem k_rulerOfAll (l : Launch) (D : va_G) (k : Nat → ClassId) (hw1 hc hy cw cg cs ck : Nat) (gf sf kf0 : Nat → Int32) (wk od : Int) (hwk : 0 ≤ wk ∧ wk ≤ 400) (hod : 0 ≤ od ∧ od ≤ 20) (rgg0 : rgI gf 0 5 od) (hs hf : Nat) (fs : List Value) (f1 : fs[1]? = some (.ref hf)) (f : Nat → Int32) (n : Int) (hn : n ≤ 6) (hx0 : FXI f n) (f3 : fs[3]? = some (.int (iZ n))) (hn0 : 0 ≤ n) (lw : Int) (f5 : fs[5]? = some (.int (iZ lw))) (hlw : -2147483648 ≤ lw ∧ lw < 2147483648) (w : Int) (hw : -2147483648 ≤ w ∧ w < 2147483648) : RP l yX8_rulerOfAll cX8_rulerOfAll 4 (some .int) 3 D k [.ref hw1, .int (iZ w)] [(hw1, .inr (8, [.ref hs, .ref hc, .ref hy])), (hc, .inr (0, [.ref cw, .ref cg, .ref cs, .ref ck, .int (iZ wk), .int (iZ od)])), (cg, .inl (k 1, 20, .inl gf)), (cs, .inl (k 1, 20, .inl sf)), (ck, .inl (k 1, 120, .inl kf0)), (hs, .inr (5, fs)), (hf, .inl (k 1, 36, .inl f))] (fun z => -1 ≤ z ∧ z ≤ 20) := by
  refine MRP (by decide) (Nat.le_of_ble_eq_true rfl) (fun p e s m below meth c ls hx hb hml hr hlocks hts hown hKK hP hl => ?_)
  have hK := hKK.1
  have hl : lv_has ls 4 [(0, .ref hw1), (1, .int (iZ w))] := hl
  refine lv_aload_n hx hb dX8_rulerOfAll_0 rfl (lv_at hl 0 rfl) ?_
  refine va_get (D := D) (ci := 8) (v := .ref hs) (C := RX8) (T := TX8) (N := 3) hx hb hts iX8 hown hK hP 0 rfl rfl 0 (bl rfl) (hts _ qf_X8_12) (fun _ h => h) rfl dX8_rulerOfAll_1 ?_
  refine va_get (D := D) (ci := 5) (v := .int (iZ n)) (C := RX5) (T := TX5) (N := 7) hx hb hts iX5 hown hK hP 5 rfl rfl 3 (bl rfl) (hts _ qf_X8_77) (fun _ h => h) f3 dX8_rulerOfAll_4 ?_
  refine lv_if_ne (tgt := 14) hx hb dX8_rulerOfAll_7 rfl (fun c_1 => ?_) (fun c_1 => ?_)
  ·
    have c_1 := mt (zeq (x := iZ n) (y := iZ 0) rfl rfl ⟨by omega, by omega⟩ wn_0).mpr c_1
    refine lv_aload_n hx hb dX8_rulerOfAll_14 rfl (lv_at hl 0 rfl) ?_
    refine lv_iconst (v := iZ 0) hx hb dX8_rulerOfAll_15 rfl ?_
    refine lv_iload_n hx hb dX8_rulerOfAll_16 rfl (lv_at hl 1 rfl) ?_
    refine CPV (As := [.int (iZ 0), .int (iZ w)]) (rest := []) hx hb hml hown hts hKK hP (k_ruler l D k hw1 hc hy cw cg cs ck gf sf kf0 wk od ⟨by omega, by omega⟩ ⟨by omega, by omega⟩ rgg0 hs hf fs f1 f n hn hx0 f3 hn0 lw f5 hlw 0 w ⟨by omega, by omega⟩ ⟨by omega, by omega⟩) ci_X8_ruler qm_X8_80 ⟨Nat.le_of_ble_eq_true rfl, Nat.le_of_ble_eq_true rfl⟩ ⟨Nat.le_of_ble_eq_true rfl, Nat.le_of_ble_eq_true rfl⟩ 0 rfl rfl rfl hl.1 rfl (Nat.le_of_ble_eq_true rfl) dX8_rulerOfAll_17 (fun z_2 hz_2 => ?_)
    refine lv_istore_n (lv' := [(2, .int (iZ z_2)), (0, .ref hw1), (1, .int (iZ w))]) hx hb dX8_rulerOfAll_20 rfl hl (bl rfl) rfl (fun ls hl => ?_)
    refine lv_iconst (v := iZ 1) hx hb dX8_rulerOfAll_21 rfl ?_
    refine lv_istore_n (lv' := [(3, .int (iZ 1)), (2, .int (iZ z_2)), (0, .ref hw1), (1, .int (iZ w))]) hx hb dX8_rulerOfAll_22 rfl hl (bl rfl) rfl (fun ls hl => ?_)
    have HL1 : ∀ (fu : Nat) (i m1 : Int) (ls : Array Slot), (8 - i) < (fu : Int) → 1 ≤ i → i ≤ 7 → -1 ≤ m1 → m1 ≤ 20 → lv_has ls 4 [(3, .int (iZ i)), (2, .int (iZ m1)), (0, .ref hw1), (1, .int (iZ w))] → W p l e (rj 3 0 0) s m [.ref hw1, .int (iZ w)].toArray below meth c s.heap [] 0 0 (MQ below (QcP (fun z => -1 ≤ z ∧ z ≤ 20)) [.ref hw1, .int (iZ w)].toArray s 0 0 (fun _ => False)) (F0 m 23 ls []) := by
      intro fu
      induction fu with
      | zero => intro i m1 ls hμ1 hi1 hi2 hm1 hm2 hl; exact absurd hμ1 (by omega)
      | succ fu ih1 =>
        intro i m1 ls hμ1 hi1 hi2 hm1 hm2 hl
        refine lv_iload_n hx hb dX8_rulerOfAll_23 rfl (lv_at hl 0 rfl) ?_
        refine lv_aload_n hx hb dX8_rulerOfAll_24 rfl (lv_at hl 2 rfl) ?_
        refine va_get (D := D) (ci := 8) (v := .ref hs) (C := RX8) (T := TX8) (N := 3) hx hb hts iX8 hown hK hP 0 rfl rfl 0 (bl rfl) (hts _ qf_X8_12) (fun _ h => h) rfl dX8_rulerOfAll_25 ?_
        refine va_get (D := D) (ci := 5) (v := .int (iZ n)) (C := RX5) (T := TX5) (N := 7) hx hb hts iX5 hown hK hP 5 rfl rfl 3 (bl rfl) (hts _ qf_X8_77) (fun _ h => h) f3 dX8_rulerOfAll_28 ?_
        refine lv_icmp_ge (tgt := 57) hx hb dX8_rulerOfAll_31 rfl (fun c_3 => ?_) (fun c_3 => ?_)
        ·
          have c_3 := (zle (x := iZ n) (y := iZ i) rfl rfl ⟨by omega, by omega⟩ ⟨by omega, by omega⟩).mp c_3
          refine lv_iload_n hx hb dX8_rulerOfAll_57 rfl (lv_at hl 1 rfl) ?_
          exact EPi hx hb hr hlocks (by omega) dX8_rulerOfAll_58
        ·
          have c_3 := mt (zle (x := iZ n) (y := iZ i) rfl rfl ⟨by omega, by omega⟩ ⟨by omega, by omega⟩).mpr c_3
          refine lv_iload_n hx hb dX8_rulerOfAll_34 rfl (lv_at hl 1 rfl) ?_
          refine lv_iconst (v := iZ (-1)) hx hb dX8_rulerOfAll_35 rfl ?_
          refine lv_icmp_eq (tgt := 57) hx hb dX8_rulerOfAll_36 rfl (fun c_4 => ?_) (fun c_4 => ?_)
          ·
            have c_4 := (zeq (x := iZ m1) (y := iZ (-1)) rfl rfl ⟨by omega, by omega⟩ wn_m1).mp c_4
            refine lv_iload_n hx hb dX8_rulerOfAll_57 rfl (lv_at hl 1 rfl) ?_
            exact EPi hx hb hr hlocks (by omega) dX8_rulerOfAll_58
          ·
            have c_4 := mt (zeq (x := iZ m1) (y := iZ (-1)) rfl rfl ⟨by omega, by omega⟩ wn_m1).mpr c_4
            refine lv_aload_n hx hb dX8_rulerOfAll_39 rfl (lv_at hl 2 rfl) ?_
            refine lv_iload_n hx hb dX8_rulerOfAll_40 rfl (lv_at hl 0 rfl) ?_
            refine lv_iload_n hx hb dX8_rulerOfAll_41 rfl (lv_at hl 3 rfl) ?_
            refine CPV (As := [.int (iZ i), .int (iZ w)]) (rest := []) hx hb hml hown hts hKK hP (k_ruler l D k hw1 hc hy cw cg cs ck gf sf kf0 wk od ⟨by omega, by omega⟩ ⟨by omega, by omega⟩ rgg0 hs hf fs f1 f n hn hx0 f3 hn0 lw f5 hlw i w ⟨by omega, by omega⟩ ⟨by omega, by omega⟩) ci_X8_ruler qm_X8_80 ⟨Nat.le_of_ble_eq_true rfl, Nat.le_of_ble_eq_true rfl⟩ ⟨Nat.le_of_ble_eq_true rfl, Nat.le_of_ble_eq_true rfl⟩ 0 rfl rfl rfl hl.1 rfl (Nat.le_of_ble_eq_true rfl) dX8_rulerOfAll_42 (fun z_5 hz_5 => ?_)
            refine lv_iload_n hx hb dX8_rulerOfAll_45 rfl (lv_at hl 1 rfl) ?_
            refine lv_icmp_eq (tgt := 51) hx hb dX8_rulerOfAll_46 rfl (fun c_6 => ?_) (fun c_6 => ?_)
            ·
              have c_6 := (zeq (x := iZ z_5) (y := iZ m1) rfl rfl ⟨by omega, by omega⟩ ⟨by omega, by omega⟩).mp c_6
              refine lv_iinc (v := iZ (i + 1)) (lv' := [(3, .int (iZ (i + 1))), (2, .int (iZ m1)), (0, .ref hw1), (1, .int (iZ w))]) hx hb dX8_rulerOfAll_51 hl (k := 0) rfl (iZ_add i 1) (by decide) rfl (fun ls hl => ?_)
              refine lv_goto (tgt := 23) hx hb dX8_rulerOfAll_54 rfl ?_
              exact ih1  _ _ _ (by omega) (by omega) (by omega) (by omega) (by omega) (lv_sub hl [0, 1, 2, 3] rfl)
            ·
              have c_6 := mt (zeq (x := iZ z_5) (y := iZ m1) rfl rfl ⟨by omega, by omega⟩ ⟨by omega, by omega⟩).mpr c_6
              refine lv_iconst (v := iZ (-1)) hx hb dX8_rulerOfAll_49 rfl ?_
              refine lv_istore_n (lv' := [(2, .int (iZ (-1))), (3, .int (iZ i)), (0, .ref hw1), (1, .int (iZ w))]) hx hb dX8_rulerOfAll_50 rfl hl (bl rfl) rfl (fun ls hl => ?_)
              refine lv_iinc (v := iZ (i + 1)) (lv' := [(3, .int (iZ (i + 1))), (2, .int (iZ (-1))), (0, .ref hw1), (1, .int (iZ w))]) hx hb dX8_rulerOfAll_51 hl (k := 1) rfl (iZ_add i 1) (by decide) rfl (fun ls hl => ?_)
              refine lv_goto (tgt := 23) hx hb dX8_rulerOfAll_54 rfl ?_
              exact ih1  _ _ _ (by omega) (by omega) (by omega) (by omega) (by omega) (lv_sub hl [0, 1, 2, 3] rfl)
    exact HL1 9 _ _ _ (by omega) (by omega) (by omega) (by omega) (by omega) (lv_sub hl [0, 1, 2, 3] rfl)
  ·
    have c_1 := (zeq (x := iZ n) (y := iZ 0) rfl rfl ⟨by omega, by omega⟩ wn_0).mp c_1
    refine lv_iconst (v := iZ (-1)) hx hb dX8_rulerOfAll_10 rfl ?_
    refine lv_goto (tgt := 20) hx hb dX8_rulerOfAll_11 rfl ?_
    refine lv_istore_n (lv' := [(2, .int (iZ (-1))), (0, .ref hw1), (1, .int (iZ w))]) hx hb dX8_rulerOfAll_20 rfl hl (bl rfl) rfl (fun ls hl => ?_)
    refine lv_iconst (v := iZ 1) hx hb dX8_rulerOfAll_21 rfl ?_
    refine lv_istore_n (lv' := [(3, .int (iZ 1)), (2, .int (iZ (-1))), (0, .ref hw1), (1, .int (iZ w))]) hx hb dX8_rulerOfAll_22 rfl hl (bl rfl) rfl (fun ls hl => ?_)
    have HL1 : ∀ (fu : Nat) (i m1 : Int) (ls : Array Slot), (8 - i) < (fu : Int) → 1 ≤ i → i ≤ 7 → -1 ≤ m1 → m1 ≤ 20 → lv_has ls 4 [(3, .int (iZ i)), (2, .int (iZ m1)), (0, .ref hw1), (1, .int (iZ w))] → W p l e (rj 3 0 0) s m [.ref hw1, .int (iZ w)].toArray below meth c s.heap [] 0 0 (MQ below (QcP (fun z => -1 ≤ z ∧ z ≤ 20)) [.ref hw1, .int (iZ w)].toArray s 0 0 (fun _ => False)) (F0 m 23 ls []) := by
      intro fu
      induction fu with
      | zero => intro i m1 ls hμ1 hi1 hi2 hm1 hm2 hl; exact absurd hμ1 (by omega)
      | succ fu ih1 =>
        intro i m1 ls hμ1 hi1 hi2 hm1 hm2 hl
        refine lv_iload_n hx hb dX8_rulerOfAll_23 rfl (lv_at hl 0 rfl) ?_
        refine lv_aload_n hx hb dX8_rulerOfAll_24 rfl (lv_at hl 2 rfl) ?_
        refine va_get (D := D) (ci := 8) (v := .ref hs) (C := RX8) (T := TX8) (N := 3) hx hb hts iX8 hown hK hP 0 rfl rfl 0 (bl rfl) (hts _ qf_X8_12) (fun _ h => h) rfl dX8_rulerOfAll_25 ?_
        refine va_get (D := D) (ci := 5) (v := .int (iZ n)) (C := RX5) (T := TX5) (N := 7) hx hb hts iX5 hown hK hP 5 rfl rfl 3 (bl rfl) (hts _ qf_X8_77) (fun _ h => h) f3 dX8_rulerOfAll_28 ?_
        refine lv_icmp_ge (tgt := 57) hx hb dX8_rulerOfAll_31 rfl (fun c_7 => ?_) (fun c_7 => ?_)
        ·
          have c_7 := (zle (x := iZ n) (y := iZ i) rfl rfl ⟨by omega, by omega⟩ ⟨by omega, by omega⟩).mp c_7
          refine lv_iload_n hx hb dX8_rulerOfAll_57 rfl (lv_at hl 1 rfl) ?_
          exact EPi hx hb hr hlocks (by omega) dX8_rulerOfAll_58
        ·
          have c_7 := mt (zle (x := iZ n) (y := iZ i) rfl rfl ⟨by omega, by omega⟩ ⟨by omega, by omega⟩).mpr c_7
          refine lv_iload_n hx hb dX8_rulerOfAll_34 rfl (lv_at hl 1 rfl) ?_
          refine lv_iconst (v := iZ (-1)) hx hb dX8_rulerOfAll_35 rfl ?_
          refine lv_icmp_eq (tgt := 57) hx hb dX8_rulerOfAll_36 rfl (fun c_8 => ?_) (fun c_8 => ?_)
          ·
            have c_8 := (zeq (x := iZ m1) (y := iZ (-1)) rfl rfl ⟨by omega, by omega⟩ wn_m1).mp c_8
            refine lv_iload_n hx hb dX8_rulerOfAll_57 rfl (lv_at hl 1 rfl) ?_
            exact EPi hx hb hr hlocks (by omega) dX8_rulerOfAll_58
          ·
            have c_8 := mt (zeq (x := iZ m1) (y := iZ (-1)) rfl rfl ⟨by omega, by omega⟩ wn_m1).mpr c_8
            refine lv_aload_n hx hb dX8_rulerOfAll_39 rfl (lv_at hl 2 rfl) ?_
            refine lv_iload_n hx hb dX8_rulerOfAll_40 rfl (lv_at hl 0 rfl) ?_
            refine lv_iload_n hx hb dX8_rulerOfAll_41 rfl (lv_at hl 3 rfl) ?_
            refine CPV (As := [.int (iZ i), .int (iZ w)]) (rest := []) hx hb hml hown hts hKK hP (k_ruler l D k hw1 hc hy cw cg cs ck gf sf kf0 wk od ⟨by omega, by omega⟩ ⟨by omega, by omega⟩ rgg0 hs hf fs f1 f n hn hx0 f3 hn0 lw f5 hlw i w ⟨by omega, by omega⟩ ⟨by omega, by omega⟩) ci_X8_ruler qm_X8_80 ⟨Nat.le_of_ble_eq_true rfl, Nat.le_of_ble_eq_true rfl⟩ ⟨Nat.le_of_ble_eq_true rfl, Nat.le_of_ble_eq_true rfl⟩ 0 rfl rfl rfl hl.1 rfl (Nat.le_of_ble_eq_true rfl) dX8_rulerOfAll_42 (fun z_9 hz_9 => ?_)
            refine lv_iload_n hx hb dX8_rulerOfAll_45 rfl (lv_at hl 1 rfl) ?_
            refine lv_icmp_eq (tgt := 51) hx hb dX8_rulerOfAll_46 rfl (fun c_10 => ?_) (fun c_10 => ?_)
            ·
              have c_10 := (zeq (x := iZ z_9) (y := iZ m1) rfl rfl ⟨by omega, by omega⟩ ⟨by omega, by omega⟩).mp c_10
              refine lv_iinc (v := iZ (i + 1)) (lv' := [(3, .int (iZ (i + 1))), (2, .int (iZ m1)), (0, .ref hw1), (1, .int (iZ w))]) hx hb dX8_rulerOfAll_51 hl (k := 0) rfl (iZ_add i 1) (by decide) rfl (fun ls hl => ?_)
              refine lv_goto (tgt := 23) hx hb dX8_rulerOfAll_54 rfl ?_
              exact ih1  _ _ _ (by omega) (by omega) (by omega) (by omega) (by omega) (lv_sub hl [0, 1, 2, 3] rfl)
            ·
              have c_10 := mt (zeq (x := iZ z_9) (y := iZ m1) rfl rfl ⟨by omega, by omega⟩ ⟨by omega, by omega⟩).mpr c_10
              refine lv_iconst (v := iZ (-1)) hx hb dX8_rulerOfAll_49 rfl ?_
              refine lv_istore_n (lv' := [(2, .int (iZ (-1))), (3, .int (iZ i)), (0, .ref hw1), (1, .int (iZ w))]) hx hb dX8_rulerOfAll_50 rfl hl (bl rfl) rfl (fun ls hl => ?_)
              refine lv_iinc (v := iZ (i + 1)) (lv' := [(3, .int (iZ (i + 1))), (2, .int (iZ (-1))), (0, .ref hw1), (1, .int (iZ w))]) hx hb dX8_rulerOfAll_51 hl (k := 1) rfl (iZ_add i 1) (by decide) rfl (fun ls hl => ?_)
              refine lv_goto (tgt := 23) hx hb dX8_rulerOfAll_54 rfl ?_
              exact ih1  _ _ _ (by omega) (by omega) (by omega) (by omega) (by omega) (lv_sub hl [0, 1, 2, 3] rfl)
    exact HL1 9 _ _ _ (by omega) (by omega) (by omega) (by omega) (by omega) (lv_sub hl [0, 1, 2, 3] rfl)
set_option maxHeartbeats 4000000 in
set_option maxRecDepth 100000 in
theorem k_isOneForAll (l : Launch) (D : va_G) (k : Nat → ClassId) (hw1 hc hy cw cg cs ck : Nat) (gf sf kf0 : Nat → Int32) (wk od : Int) (hwk : 0 ≤ wk ∧ wk ≤ 400) (hod : 0 ≤ od ∧ od ≤ 20) (rgg0 : rgI gf 0 5 od) (hs hf : Nat) (fs : List Value) (f1 : fs[1]? = some (.ref hf)) (f : Nat → Int32) (n : Int) (hn : n ≤ 6) (hx0 : FXI f n) (f3 : fs[3]? = some (.int (iZ n))) (hn0 : 0 ≤ n) (lw : Int) (f5 : fs[5]? = some (.int (iZ lw))) (hlw : -2147483648 ≤ lw ∧ lw < 2147483648) (a b : Int) (ha0 : 0 ≤ a ∧ a < od) (hb0 : 0 ≤ b ∧ b < od) : RP l yX8_isOneForAll cX8_isOneForAll 9 (some .boolean) 1 D k [.ref hw1, .int (iZ a), .int (iZ b)] [(hw1, .inr (8, [.ref hs, .ref hc, .ref hy])), (hc, .inr (0, [.ref cw, .ref cg, .ref cs, .ref ck, .int (iZ wk), .int (iZ od)])), (cg, .inl (k 1, 20, .inl gf)), (cs, .inl (k 1, 20, .inl sf)), (ck, .inl (k 1, 120, .inl kf0)), (hs, .inr (5, fs)), (hf, .inl (k 1, 36, .inl f))] (fun z => z = 0 ∨ z = 1) := by
  refine MRP (by decide) (Nat.le_of_ble_eq_true rfl) (fun p e s m below meth c ls hx hb hml hr hlocks hts hown hKK hP hl => ?_)
  have hK := hKK.1
  have hl : lv_has ls 9 [(0, .ref hw1), (1, .int (iZ a)), (2, .int (iZ b))] := hl
  refine lv_iconst (v := iZ 0) hx hb dX8_isOneForAll_0 rfl ?_
  refine lv_istore_n (lv' := [(3, .int (iZ 0)), (0, .ref hw1), (1, .int (iZ a)), (2, .int (iZ b))]) hx hb dX8_isOneForAll_1 rfl hl (bl rfl) rfl (fun ls hl => ?_)
  refine lv_iconst (v := iZ 0) hx hb dX8_isOneForAll_2 rfl ?_
  refine lv_istore (lv' := [(4, .int (iZ 0)), (3, .int (iZ 0)), (0, .ref hw1), (1, .int (iZ a)), (2, .int (iZ b))]) hx hb dX8_isOneForAll_3 hl (bl rfl) rfl (fun ls hl => ?_)
  refine lv_iconst (v := iZ 0) hx hb dX8_isOneForAll_5 rfl ?_
  refine lv_istore (lv' := [(5, .int (iZ 0)), (4, .int (iZ 0)), (3, .int (iZ 0)), (0, .ref hw1), (1, .int (iZ a)), (2, .int (iZ b))]) hx hb dX8_isOneForAll_6 hl (bl rfl) rfl (fun ls hl => ?_)
  have HL1 : ∀ (fu : Nat) (i m1 m2 : Int) (ls : Array Slot), (n + 1 - i) < (fu : Int) → 0 ≤ i → i ≤ n → 0 ≤ m1 → m1 ≤ 1 → -1 ≤ m2 → m2 ≤ 1 → lv_has ls 9 [(5, .int (iZ i)), (4, .int (iZ m2)), (3, .int (iZ m1)), (0, .ref hw1), (1, .int (iZ a)), (2, .int (iZ b))] → W p l e (rj 1 0 0) s m [.ref hw1, .int (iZ a), .int (iZ b)].toArray below meth c s.heap [] 0 0 (MQ below (QcP (fun z => z = 0 ∨ z = 1)) [.ref hw1, .int (iZ a), .int (iZ b)].toArray s 0 0 (fun _ => False)) (F0 m 8 ls []) := by
    intro fu
    induction fu with
    | zero => intro i m1 m2 ls hμ1 hi1 hi2 hm1 hm2 hm3 hm4 hl; exact absurd hμ1 (by omega)
    | succ fu ih1 =>
      intro i m1 m2 ls hμ1 hi1 hi2 hm1 hm2 hm3 hm4 hl
      refine lv_iload hx hb dX8_isOneForAll_8 (lv_at hl 0 rfl) ?_
      refine lv_aload_n hx hb dX8_isOneForAll_10 rfl (lv_at hl 3 rfl) ?_
      refine va_get (D := D) (ci := 8) (v := .ref hs) (C := RX8) (T := TX8) (N := 3) hx hb hts iX8 hown hK hP 0 rfl rfl 0 (bl rfl) (hts _ qf_X8_12) (fun _ h => h) rfl dX8_isOneForAll_11 ?_
      refine va_get (D := D) (ci := 5) (v := .int (iZ n)) (C := RX5) (T := TX5) (N := 7) hx hb hts iX5 hown hK hP 5 rfl rfl 3 (bl rfl) (hts _ qf_X8_77) (fun _ h => h) f3 dX8_isOneForAll_14 ?_
      refine lv_icmp_ge (tgt := 90) hx hb dX8_isOneForAll_17 rfl (fun c_1 => ?_) (fun c_1 => ?_)
      ·
        have c_1 := (zle (x := iZ n) (y := iZ i) rfl rfl ⟨by omega, by omega⟩ ⟨by omega, by omega⟩).mp c_1
        refine lv_iconst (v := iZ 1) hx hb dX8_isOneForAll_90 rfl ?_
        exact EPz hx hb hr hlocks (by omega) (by omega) dX8_isOneForAll_91
      ·
        have c_1 := mt (zle (x := iZ n) (y := iZ i) rfl rfl ⟨by omega, by omega⟩ ⟨by omega, by omega⟩).mpr c_1
        refine lv_aload_n hx hb dX8_isOneForAll_20 rfl (lv_at hl 3 rfl) ?_
        refine va_get (D := D) (ci := 8) (v := .ref hc) (C := RX8) (T := TX8) (N := 3) hx hb hts iX8 hown hK hP 0 rfl rfl 1 (bl rfl) (hts _ qf_X8_21) (fun _ h => h) rfl dX8_isOneForAll_21 ?_
        refine lv_iload_n hx hb dX8_isOneForAll_24 rfl (lv_at hl 4 rfl) ?_
        refine lv_iload hx hb dX8_isOneForAll_25 (lv_at hl 0 rfl) ?_
        refine CRV (As := [.int (iZ a), .int (iZ i)]) (rest := []) hx hb hml hown hts hKK (hP.sub (ws' := [(hc, .inr (0, [.ref cw, .ref cg, .ref cs, .ref ck, .int (iZ wk), .int (iZ od)])), (ck, .inl (k 1, 120, .inl kf0))]) [1, 4] rfl) (k_firstKnown l D k hc ck [.ref cw, .ref cg, .ref cs, .ref ck, .int (iZ wk), .int (iZ od)] rfl kf0 a i ⟨by omega, by omega⟩ ⟨by omega, by omega⟩) ci_X0_firstKnown qm_X8_56 ⟨Nat.le_of_ble_eq_true rfl, Nat.le_of_ble_eq_true rfl⟩ ⟨Nat.le_of_ble_eq_true rfl, Nat.le_of_ble_eq_true rfl⟩ 0 rfl rfl rfl hl.1 rfl (Nat.le_of_ble_eq_true rfl) dX8_isOneForAll_27 ?_
        have hg_h_2 := gz_rg kf0 ((a * 6) + i)
        refine lv_istore (lv' := [(6, .int (iZ (gz kf0 ((a * 6) + i)))), (5, .int (iZ i)), (4, .int (iZ m2)), (3, .int (iZ m1)), (0, .ref hw1), (1, .int (iZ a)), (2, .int (iZ b))]) hx hb dX8_isOneForAll_30 hl (bl rfl) rfl (fun ls hl => ?_)
        refine lv_aload_n hx hb dX8_isOneForAll_32 rfl (lv_at hl 4 rfl) ?_
        refine va_get (D := D) (ci := 8) (v := .ref hc) (C := RX8) (T := TX8) (N := 3) hx hb hts iX8 hown hK hP 0 rfl rfl 1 (bl rfl) (hts _ qf_X8_21) (fun _ h => h) rfl dX8_isOneForAll_33 ?_
        refine lv_iload_n hx hb dX8_isOneForAll_36 rfl (lv_at hl 6 rfl) ?_
        refine lv_iload hx hb dX8_isOneForAll_37 (lv_at hl 1 rfl) ?_
        refine CRV (As := [.int (iZ b), .int (iZ i)]) (rest := []) hx hb hml hown hts hKK (hP.sub (ws' := [(hc, .inr (0, [.ref cw, .ref cg, .ref cs, .ref ck, .int (iZ wk), .int (iZ od)])), (ck, .inl (k 1, 120, .inl kf0))]) [1, 4] rfl) (k_firstKnown l D k hc ck [.ref cw, .ref cg, .ref cs, .ref ck, .int (iZ wk), .int (iZ od)] rfl kf0 b i ⟨by omega, by omega⟩ ⟨by omega, by omega⟩) ci_X0_firstKnown qm_X8_56 ⟨Nat.le_of_ble_eq_true rfl, Nat.le_of_ble_eq_true rfl⟩ ⟨Nat.le_of_ble_eq_true rfl, Nat.le_of_ble_eq_true rfl⟩ 0 rfl rfl rfl hl.1 rfl (Nat.le_of_ble_eq_true rfl) dX8_isOneForAll_39 ?_
        have hg_h_3 := gz_rg kf0 ((b * 6) + i)
        refine lv_istore (lv' := [(7, .int (iZ (gz kf0 ((b * 6) + i)))), (6, .int (iZ (gz kf0 ((a * 6) + i)))), (5, .int (iZ i)), (4, .int (iZ m2)), (3, .int (iZ m1)), (0, .ref hw1), (1, .int (iZ a)), (2, .int (iZ b))]) hx hb dX8_isOneForAll_42 hl (bl rfl) rfl (fun ls hl => ?_)
        refine lv_iload hx hb dX8_isOneForAll_44 (lv_at hl 1 rfl) ?_
        refine lv_iconst (v := iZ (-1)) hx hb dX8_isOneForAll_46 rfl ?_
        refine lv_icmp_eq (tgt := 84) hx hb dX8_isOneForAll_47 rfl (fun c_4 => ?_) (fun c_4 => ?_)
        ·
          have c_4 := (zeq (x := iZ (gz kf0 ((a * 6) + i))) (y := iZ (-1)) rfl rfl (gz_rg kf0 ((a * 6) + i)) wn_m1).mp c_4
          refine lv_iinc (v := iZ (i + 1)) (lv' := [(5, .int (iZ (i + 1))), (7, .int (iZ (gz kf0 ((b * 6) + i)))), (6, .int (iZ (gz kf0 ((a * 6) + i)))), (4, .int (iZ m2)), (3, .int (iZ m1)), (0, .ref hw1), (1, .int (iZ a)), (2, .int (iZ b))]) hx hb dX8_isOneForAll_84 hl (k := 2) rfl (iZ_add i 1) (by decide) rfl (fun ls hl => ?_)
          refine lv_goto (tgt := 8) hx hb dX8_isOneForAll_87 rfl ?_
          exact ih1  _ _ _ _ (by omega) (by omega) (by omega) (by omega) (by omega) (by omega) (by omega) (lv_sub hl [0, 3, 4, 5, 6, 7] rfl)
        ·
          have c_4 := mt (zeq (x := iZ (gz kf0 ((a * 6) + i))) (y := iZ (-1)) rfl rfl (gz_rg kf0 ((a * 6) + i)) wn_m1).mpr c_4
          refine lv_iload hx hb dX8_isOneForAll_50 (lv_at hl 0 rfl) ?_
          refine lv_iconst (v := iZ (-1)) hx hb dX8_isOneForAll_52 rfl ?_
          refine lv_icmp_eq (tgt := 84) hx hb dX8_isOneForAll_53 rfl (fun c_5 => ?_) (fun c_5 => ?_)
          ·
            have c_5 := (zeq (x := iZ (gz kf0 ((b * 6) + i))) (y := iZ (-1)) rfl rfl (gz_rg kf0 ((b * 6) + i)) wn_m1).mp c_5
            refine lv_iinc (v := iZ (i + 1)) (lv' := [(5, .int (iZ (i + 1))), (7, .int (iZ (gz kf0 ((b * 6) + i)))), (6, .int (iZ (gz kf0 ((a * 6) + i)))), (4, .int (iZ m2)), (3, .int (iZ m1)), (0, .ref hw1), (1, .int (iZ a)), (2, .int (iZ b))]) hx hb dX8_isOneForAll_84 hl (k := 2) rfl (iZ_add i 1) (by decide) rfl (fun ls hl => ?_)
            refine lv_goto (tgt := 8) hx hb dX8_isOneForAll_87 rfl ?_
            exact ih1  _ _ _ _ (by omega) (by omega) (by omega) (by omega) (by omega) (by omega) (by omega) (lv_sub hl [0, 3, 4, 5, 6, 7] rfl)
          ·
            have c_5 := mt (zeq (x := iZ (gz kf0 ((b * 6) + i))) (y := iZ (-1)) rfl rfl (gz_rg kf0 ((b * 6) + i)) wn_m1).mpr c_5
            refine lv_iload hx hb dX8_isOneForAll_56 (lv_at hl 1 rfl) ?_
            refine lv_iload hx hb dX8_isOneForAll_58 (lv_at hl 0 rfl) ?_
            refine CPS (As := [.int (iZ (gz kf0 ((a * 6) + i))), .int (iZ (gz kf0 ((b * 6) + i)))]) (rest := []) hx hb hml hown hts hKK (hP.sub (ws' := []) [] rfl) (k_compare l D k (gz kf0 ((a * 6) + i)) (gz kf0 ((b * 6) + i)) ⟨by omega, by omega⟩ ⟨by omega, by omega⟩) ci_J6_compare_7cf53 qm_X8_83 ⟨Nat.le_of_ble_eq_true rfl, Nat.le_of_ble_eq_true rfl⟩ ⟨Nat.le_of_ble_eq_true rfl, Nat.le_of_ble_eq_true rfl⟩ rfl hl.1 rfl (Nat.le_of_ble_eq_true rfl) dX8_isOneForAll_60 (fun z_6 hz_6 => ?_)
            refine lv_istore (lv' := [(8, .int (iZ z_6)), (7, .int (iZ (gz kf0 ((b * 6) + i)))), (6, .int (iZ (gz kf0 ((a * 6) + i)))), (5, .int (iZ i)), (4, .int (iZ m2)), (3, .int (iZ m1)), (0, .ref hw1), (1, .int (iZ a)), (2, .int (iZ b))]) hx hb dX8_isOneForAll_63 hl (bl rfl) rfl (fun ls hl => ?_)
            refine lv_iload_n hx hb dX8_isOneForAll_65 rfl (lv_at hl 5 rfl) ?_
            refine lv_if_eq (tgt := 78) hx hb dX8_isOneForAll_66 rfl (fun c_7 => ?_) (fun c_7 => ?_)
            ·
              have c_7 := (zeq (x := iZ m1) (y := iZ 0) rfl rfl ⟨by omega, by omega⟩ wn_0).mp c_7
              refine lv_iconst (v := iZ 1) hx hb dX8_isOneForAll_78 rfl ?_
              refine lv_istore_n (lv' := [(3, .int (iZ 1)), (8, .int (iZ z_6)), (7, .int (iZ (gz kf0 ((b * 6) + i)))), (6, .int (iZ (gz kf0 ((a * 6) + i)))), (5, .int (iZ i)), (4, .int (iZ m2)), (0, .ref hw1), (1, .int (iZ a)), (2, .int (iZ b))]) hx hb dX8_isOneForAll_79 rfl hl (bl rfl) rfl (fun ls hl => ?_)
              refine lv_iload hx hb dX8_isOneForAll_80 (lv_at hl 1 rfl) ?_
              refine lv_istore (lv' := [(4, .int (iZ z_6)), (3, .int (iZ 1)), (8, .int (iZ z_6)), (7, .int (iZ (gz kf0 ((b * 6) + i)))), (6, .int (iZ (gz kf0 ((a * 6) + i)))), (5, .int (iZ i)), (0, .ref hw1), (1, .int (iZ a)), (2, .int (iZ b))]) hx hb dX8_isOneForAll_82 hl (bl rfl) rfl (fun ls hl => ?_)
              refine lv_iinc (v := iZ (i + 1)) (lv' := [(5, .int (iZ (i + 1))), (4, .int (iZ z_6)), (3, .int (iZ 1)), (8, .int (iZ z_6)), (7, .int (iZ (gz kf0 ((b * 6) + i)))), (6, .int (iZ (gz kf0 ((a * 6) + i)))), (0, .ref hw1), (1, .int (iZ a)), (2, .int (iZ b))]) hx hb dX8_isOneForAll_84 hl (k := 5) rfl (iZ_add i 1) (by decide) rfl (fun ls hl => ?_)
              refine lv_goto (tgt := 8) hx hb dX8_isOneForAll_87 rfl ?_
              exact ih1  _ _ _ _ (by omega) (by omega) (by omega) (by omega) (by omega) (by omega) (by omega) (lv_sub hl [0, 1, 2, 6, 7, 8] rfl)
            ·
              have c_7 := mt (zeq (x := iZ m1) (y := iZ 0) rfl rfl ⟨by omega, by omega⟩ wn_0).mpr c_7
              refine lv_iload hx hb dX8_isOneForAll_69 (lv_at hl 0 rfl) ?_
              refine lv_iload hx hb dX8_isOneForAll_71 (lv_at hl 4 rfl) ?_
              refine lv_icmp_eq (tgt := 78) hx hb dX8_isOneForAll_73 rfl (fun c_8 => ?_) (fun c_8 => ?_)
              ·
                have c_8 := (zeq (x := iZ z_6) (y := iZ m2) rfl rfl ⟨by omega, by omega⟩ ⟨by omega, by omega⟩).mp c_8
                refine lv_iconst (v := iZ 1) hx hb dX8_isOneForAll_78 rfl ?_
                refine lv_istore_n (lv' := [(3, .int (iZ 1)), (8, .int (iZ z_6)), (7, .int (iZ (gz kf0 ((b * 6) + i)))), (6, .int (iZ (gz kf0 ((a * 6) + i)))), (5, .int (iZ i)), (4, .int (iZ m2)), (0, .ref hw1), (1, .int (iZ a)), (2, .int (iZ b))]) hx hb dX8_isOneForAll_79 rfl hl (bl rfl) rfl (fun ls hl => ?_)
                refine lv_iload hx hb dX8_isOneForAll_80 (lv_at hl 1 rfl) ?_
                refine lv_istore (lv' := [(4, .int (iZ z_6)), (3, .int (iZ 1)), (8, .int (iZ z_6)), (7, .int (iZ (gz kf0 ((b * 6) + i)))), (6, .int (iZ (gz kf0 ((a * 6) + i)))), (5, .int (iZ i)), (0, .ref hw1), (1, .int (iZ a)), (2, .int (iZ b))]) hx hb dX8_isOneForAll_82 hl (bl rfl) rfl (fun ls hl => ?_)
                refine lv_iinc (v := iZ (i + 1)) (lv' := [(5, .int (iZ (i + 1))), (4, .int (iZ z_6)), (3, .int (iZ 1)), (8, .int (iZ z_6)), (7, .int (iZ (gz kf0 ((b * 6) + i)))), (6, .int (iZ (gz kf0 ((a * 6) + i)))), (0, .ref hw1), (1, .int (iZ a)), (2, .int (iZ b))]) hx hb dX8_isOneForAll_84 hl (k := 5) rfl (iZ_add i 1) (by decide) rfl (fun ls hl => ?_)
                refine lv_goto (tgt := 8) hx hb dX8_isOneForAll_87 rfl ?_
                exact ih1  _ _ _ _ (by omega) (by omega) (by omega) (by omega) (by omega) (by omega) (by omega) (lv_sub hl [0, 1, 2, 6, 7, 8] rfl)
              ·
                have c_8 := mt (zeq (x := iZ z_6) (y := iZ m2) rfl rfl ⟨by omega, by omega⟩ ⟨by omega, by omega⟩).mpr c_8
                refine lv_iconst (v := iZ 0) hx hb dX8_isOneForAll_76 rfl ?_
                exact EPz hx hb hr hlocks (by omega) (by omega) dX8_isOneForAll_77
  exact HL1 8 _ _ _ _ (by omega) (by omega) (by omega) (by omega) (by omega) (by omega) (by omega) (lv_sub hl [0, 1, 2, 3, 4, 5] rfl)
end
