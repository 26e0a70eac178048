theorem qf_X8_12 : Cond.fieldLink RX8 12 "SlowWorlds$World" "sky" "LSlowWorlds$Sky;" ∈ gw := tbt (tb1 (List.mem_of_getElem? (i := 168) rfl)) rfl
theorem iX8 : ∀ w ∈ u_ws RX8 TX8 3, w ∈ gw := by
  intro w hw
  obtain ⟨k, hk, rfl⟩ := List.mem_map.mp hw
  have hk := List.mem_range.mp hk
  match k, hk with
  | 0, _ => exact tbt (tb1 (List.mem_of_getElem? (i := 177) rfl)) rfl
  | 1, _ => exact tbt (tb1 (List.mem_of_getElem? (i := 179) rfl)) rfl
  | 2, _ => exact tbt (tb1 (List.mem_of_getElem? (i := 181) rfl)) rfl
  | (k + 3), hk => exact absurd hk (by omega)
theorem qf_X8_64 : Cond.fieldLink RX8 64 "SlowWorlds$Sky" "law" "I" ∈ gw := tbt (tb1 (List.mem_of_getElem? (i := 61) rfl)) rfl
theorem qf_X8_21 : Cond.fieldLink RX8 21 "SlowWorlds$World" "course" "LSlowWorlds$Course;" ∈ gw := tbt (tb1 (List.mem_of_getElem? (i := 171) rfl)) rfl
theorem qm_X8_56 : Cond.methodLink RX8 56 yX0_firstKnown ∈ gw := tbt (tb5 (List.mem_of_getElem? (i := 9) rfl)) rfl
theorem qf_X8_67 : Cond.fieldLink RX8 67 "SlowWorlds$Course" "givers" "[I" ∈ gw := tbt (tb1 (List.mem_of_getElem? (i := 95) rfl)) rfl
theorem qc_X5_fact : Cond.code yX5_fact cX5_fact 3 (some .int) ∈ gw := tbt (tb4 (List.mem_of_getElem? (i := 36) rfl)) rfl
theorem qi_yX5_fact : Cond.instanceMethod yX5_fact ∈ gw := tbt (tb4 (List.mem_of_getElem? (i := 34) rfl)) rfl
theorem qs_X5_fact : Cond.selects (yX5_fact).cls yX5_fact yX5_fact ∈ gw := tbt (tb4 (List.mem_of_getElem? (i := 35) rfl)) rfl
theorem ci_X5_fact : CIv yX5_fact cX5_fact 3 (some .int) 2 := ⟨qc_X5_fact, qi_yX5_fact, qs_X5_fact, qz_X5, by decide +kernel⟩
theorem qm_X8_71 : Cond.methodLink RX8 71 yX5_fact ∈ gw := tbt (tb5 (List.mem_of_getElem? (i := 14) rfl)) rfl
theorem qf_X8_74 : Cond.fieldLink RX8 74 "SlowWorlds$Course" "sent" "[I" ∈ gw := tbt (tb1 (List.mem_of_getElem? (i := 99) rfl)) rfl
theorem qf_X8_53 : Cond.fieldLink RX8 53 "SlowWorlds$Course" "orders" "I" ∈ gw := tbt (tb1 (List.mem_of_getElem? (i := 108) rfl)) rfl
theorem qc_X8_goesAhead : Cond.code yX8_goesAhead cX8_goesAhead 4 (some .boolean) ∈ gw := tbt (tb5 (List.mem_of_getElem? (i := 13) rfl)) rfl
theorem qi_yX8_goesAhead : Cond.instanceMethod yX8_goesAhead ∈ gw := tbt (tb5 (List.mem_of_getElem? (i := 12) rfl)) rfl
theorem qs_X8_goesAhead : Cond.selects (yX8_goesAhead).cls yX8_goesAhead yX8_goesAhead ∈ gw := tb0 (List.mem_of_getElem? (i := 25) rfl) rfl
theorem qz_X8 : Cond.initialized RX8 ∈ gw := tbt (tb1 (List.mem_of_getElem? (i := 2) rfl)) rfl
theorem ci_X8_goesAhead : CIv yX8_goesAhead cX8_goesAhead 4 (some .boolean) 3 := ⟨qc_X8_goesAhead, qi_yX8_goesAhead, qs_X8_goesAhead, qz_X8, by decide +kernel⟩
theorem qm_X8_60 : Cond.methodLink RX8 60 yX8_goesAhead ∈ gw := tbt (tb5 (List.mem_of_getElem? (i := 10) rfl)) rfl
theorem qf_X8_77 : Cond.fieldLink RX8 77 "SlowWorlds$Sky" "rocks" "I" ∈ gw := tbt (tb1 (List.mem_of_getElem? (i := 55) rfl)) rfl
theorem qc_X8_ruler : Cond.code yX8_ruler cX8_ruler 7 (some .int) ∈ gw := tbt (tb5 (List.mem_of_getElem? (i := 8) rfl)) rfl
theorem qi_yX8_ruler : Cond.instanceMethod yX8_ruler ∈ gw := tbt (tb5 (List.mem_of_getElem? (i := 6) rfl)) rfl
theorem qs_X8_ruler : Cond.selects (yX8_ruler).cls yX8_ruler yX8_ruler ∈ gw := tbt (tb5 (List.mem_of_getElem? (i := 7) rfl)) rfl
theorem ci_X8_ruler : CIv yX8_ruler cX8_ruler 7 (some .int) 2 := ⟨qc_X8_ruler, qi_yX8_ruler, qs_X8_ruler, qz_X8, by decide +kernel⟩
theorem qm_X8_80 : Cond.methodLink RX8 80 yX8_ruler ∈ gw := tbt (tb5 (List.mem_of_getElem? (i := 50) rfl)) rfl
theorem qc_J6_compare_7cf53 : Cond.code yJ6_compare_7cf53 cJ6_compare_7cf53 2 (some .int) ∈ gw := tbt (tb5 (List.mem_of_getElem? (i := 37) rfl)) rfl
theorem qt_yJ6_compare_7cf53 : Cond.static yJ6_compare_7cf53 ∈ gw := tbt (tb5 (List.mem_of_getElem? (i := 36) rfl)) rfl
theorem qz_J6 : Cond.initialized RJ6 ∈ gw := tbt (tb1 (List.mem_of_getElem? (i := 21) rfl)) rfl
theorem ci_J6_compare_7cf53 : CIs yJ6_compare_7cf53 cJ6_compare_7cf53 2 (some .int) 2 := ⟨qc_J6_compare_7cf53, qt_yJ6_compare_7cf53, qz_J6, by decide +kernel⟩
theorem qm_X8_83 : Cond.methodLink RX8 83 yJ6_compare_7cf53 ∈ gw := tbt (tb5 (List.mem_of_getElem? (i := 35) rfl)) rfl
def fb_X8_goesAhead_0 : List UInt8 := [0x2a, 0xb4, 0x00, 0x0c, 0xb4, 0x00, 0x40, 0xaa, 0x00, 0x00, 0x00, 0x7a, 0x00, 0x00, 0x00, 0x00, 0x00, 0x00, 0x00, 0x02, 0x00, 0x00, 0x00, 0x19, 0x00, 0x00, 0x00, 0x34, 0x00, 0x00, 0x00, 0x4f, 0x2a, 0xb4, 0x00, 0x15, 0x1b, 0x1d, 0xb6, 0x00, 0x38, 0x2a, 0xb4, 0x00, 0x15, 0x1c, 0x1d, 0xb6, 0x00, 0x38, 0xa2, 0x00, 0x07, 0x04, 0xa7, 0x00, 0x04, 0x03, 0xac, 0x2a, 0xb4, 0x00, 0x15, 0x1b]
theorem fl_X8_goesAhead_0 {p j : Nat} {b : UInt8} (e : p = 0 + j) (h : fb_X8_goesAhead_0[j]? = some b) : cX8_goesAhead.data.toList[p]? = some b := fq_l (n := 64) (show (cX8_goesAhead.data.toList.drop 0).take 64 = fb_X8_goesAhead_0 by decide +kernel) e h
theorem dX8_goesAhead_0 : decode cX8_goesAhead 0 = .ok (.aload_n 0, 1) := fq1_42 (fl_X8_goesAhead_0 (j := 0) rfl rfl)
theorem dX8_goesAhead_1 : decode cX8_goesAhead 1 = .ok (.getfield 12, 3) := fq3_180 (fl_X8_goesAhead_0 (j := 1) rfl rfl) (fl_X8_goesAhead_0 (j := 2) rfl rfl) (fl_X8_goesAhead_0 (j := 3) rfl rfl) (by decide)
theorem dX8_goesAhead_4 : decode cX8_goesAhead 4 = .ok (.getfield 64, 3) := fq3_180 (fl_X8_goesAhead_0 (j := 4) rfl rfl) (fl_X8_goesAhead_0 (j := 5) rfl rfl) (fl_X8_goesAhead_0 (j := 6) rfl rfl) (by decide)
theorem dX8_goesAhead_7 : decode cX8_goesAhead 7 = .ok (.tableswitch 122 0 2 #[25, 52, 79], 25) := by decide +kernel
theorem dX8_goesAhead_32 : decode cX8_goesAhead 32 = .ok (.aload_n 0, 1) := fq1_42 (fl_X8_goesAhead_0 (j := 32) rfl rfl)
theorem dX8_goesAhead_33 : decode cX8_goesAhead 33 = .ok (.getfield 21, 3) := fq3_180 (fl_X8_goesAhead_0 (j := 33) rfl rfl) (fl_X8_goesAhead_0 (j := 34) rfl rfl) (fl_X8_goesAhead_0 (j := 35) rfl rfl) (by decide)
theorem dX8_goesAhead_36 : decode cX8_goesAhead 36 = .ok (.iload_n 1, 1) := fq1_27 (fl_X8_goesAhead_0 (j := 36) rfl rfl)
theorem dX8_goesAhead_37 : decode cX8_goesAhead 37 = .ok (.iload_n 3, 1) := fq1_29 (fl_X8_goesAhead_0 (j := 37) rfl rfl)
theorem dX8_goesAhead_38 : decode cX8_goesAhead 38 = .ok (.invokevirtual 56, 3) := fq3_182 (fl_X8_goesAhead_0 (j := 38) rfl rfl) (fl_X8_goesAhead_0 (j := 39) rfl rfl) (fl_X8_goesAhead_0 (j := 40) rfl rfl) (by decide)
theorem dX8_goesAhead_41 : decode cX8_goesAhead 41 = .ok (.aload_n 0, 1) := fq1_42 (fl_X8_goesAhead_0 (j := 41) rfl rfl)
theorem dX8_goesAhead_42 : decode cX8_goesAhead 42 = .ok (.getfield 21, 3) := fq3_180 (fl_X8_goesAhead_0 (j := 42) rfl rfl) (fl_X8_goesAhead_0 (j := 43) rfl rfl) (fl_X8_goesAhead_0 (j := 44) rfl rfl) (by decide)
theorem dX8_goesAhead_45 : decode cX8_goesAhead 45 = .ok (.iload_n 2, 1) := fq1_28 (fl_X8_goesAhead_0 (j := 45) rfl rfl)
theorem dX8_goesAhead_46 : decode cX8_goesAhead 46 = .ok (.iload_n 3, 1) := fq1_29 (fl_X8_goesAhead_0 (j := 46) rfl rfl)
theorem dX8_goesAhead_47 : decode cX8_goesAhead 47 = .ok (.invokevirtual 56, 3) := fq3_182 (fl_X8_goesAhead_0 (j := 47) rfl rfl) (fl_X8_goesAhead_0 (j := 48) rfl rfl) (fl_X8_goesAhead_0 (j := 49) rfl rfl) (by decide)
theorem dX8_goesAhead_50 : decode cX8_goesAhead 50 = .ok (.if_icmp .ge 7, 3) := fq3_162 (fl_X8_goesAhead_0 (j := 50) rfl rfl) (fl_X8_goesAhead_0 (j := 51) rfl rfl) (fl_X8_goesAhead_0 (j := 52) rfl rfl) (by decide)
theorem dX8_goesAhead_53 : decode cX8_goesAhead 53 = .ok (.iconst 1, 1) := fq1_4 (fl_X8_goesAhead_0 (j := 53) rfl rfl)
theorem dX8_goesAhead_54 : decode cX8_goesAhead 54 = .ok (.goto 4, 3) := fq3_167 (fl_X8_goesAhead_0 (j := 54) rfl rfl) (fl_X8_goesAhead_0 (j := 55) rfl rfl) (fl_X8_goesAhead_0 (j := 56) rfl rfl) (by decide)
theorem dX8_goesAhead_57 : decode cX8_goesAhead 57 = .ok (.iconst 0, 1) := fq1_3 (fl_X8_goesAhead_0 (j := 57) rfl rfl)
theorem dX8_goesAhead_58 : decode cX8_goesAhead 58 = .ok (.ireturn, 1) := fq1_172 (fl_X8_goesAhead_0 (j := 58) rfl rfl)
theorem dX8_goesAhead_59 : decode cX8_goesAhead 59 = .ok (.aload_n 0, 1) := fq1_42 (fl_X8_goesAhead_0 (j := 59) rfl rfl)
theorem dX8_goesAhead_60 : decode cX8_goesAhead 60 = .ok (.getfield 21, 3) := fq3_180 (fl_X8_goesAhead_0 (j := 60) rfl rfl) (fl_X8_goesAhead_0 (j := 61) rfl rfl) (fl_X8_goesAhead_0 (j := 62) rfl rfl) (by decide)
theorem dX8_goesAhead_63 : decode cX8_goesAhead 63 = .ok (.iload_n 1, 1) := fq1_27 (fl_X8_goesAhead_0 (j := 63) rfl rfl)
def fb_X8_goesAhead_1 : List UInt8 := [0x1d, 0xb6, 0x00, 0x38, 0x2a, 0xb4, 0x00, 0x15, 0x1c, 0x1d, 0xb6, 0x00, 0x38, 0xa4, 0x00, 0x07, 0x04, 0xa7, 0x00, 0x04, 0x03, 0xac, 0x2a, 0xb4, 0x00, 0x0c, 0x2a, 0xb4, 0x00, 0x15, 0xb4, 0x00, 0x43, 0x1b, 0x2e, 0x06, 0xb6, 0x00, 0x47, 0x2a, 0xb4, 0x00, 0x0c, 0x2a, 0xb4, 0x00, 0x15, 0xb4, 0x00, 0x43, 0x1c, 0x2e, 0x06, 0xb6, 0x00, 0x47, 0xa4, 0x00, 0x07, 0x04, 0xa7, 0x00, 0x04, 0x03]
theorem fl_X8_goesAhead_1 {p j : Nat} {b : UInt8} (e : p = 64 + j) (h : fb_X8_goesAhead_1[j]? = some b) : cX8_goesAhead.data.toList[p]? = some b := fq_l (n := 64) (show (cX8_goesAhead.data.toList.drop 64).take 64 = fb_X8_goesAhead_1 by decide +kernel) e h
theorem dX8_goesAhead_64 : decode cX8_goesAhead 64 = .ok (.iload_n 3, 1) := fq1_29 (fl_X8_goesAhead_1 (j := 0) rfl rfl)
theorem dX8_goesAhead_65 : decode cX8_goesAhead 65 = .ok (.invokevirtual 56, 3) := fq3_182 (fl_X8_goesAhead_1 (j := 1) rfl rfl) (fl_X8_goesAhead_1 (j := 2) rfl rfl) (fl_X8_goesAhead_1 (j := 3) rfl rfl) (by decide)
theorem dX8_goesAhead_68 : decode cX8_goesAhead 68 = .ok (.aload_n 0, 1) := fq1_42 (fl_X8_goesAhead_1 (j := 4) rfl rfl)
theorem dX8_goesAhead_69 : decode cX8_goesAhead 69 = .ok (.getfield 21, 3) := fq3_180 (fl_X8_goesAhead_1 (j := 5) rfl rfl) (fl_X8_goesAhead_1 (j := 6) rfl rfl) (fl_X8_goesAhead_1 (j := 7) rfl rfl) (by decide)
theorem dX8_goesAhead_72 : decode cX8_goesAhead 72 = .ok (.iload_n 2, 1) := fq1_28 (fl_X8_goesAhead_1 (j := 8) rfl rfl)
theorem dX8_goesAhead_73 : decode cX8_goesAhead 73 = .ok (.iload_n 3, 1) := fq1_29 (fl_X8_goesAhead_1 (j := 9) rfl rfl)
theorem dX8_goesAhead_74 : decode cX8_goesAhead 74 = .ok (.invokevirtual 56, 3) := fq3_182 (fl_X8_goesAhead_1 (j := 10) rfl rfl) (fl_X8_goesAhead_1 (j := 11) rfl rfl) (fl_X8_goesAhead_1 (j := 12) rfl rfl) (by decide)
theorem dX8_goesAhead_77 : decode cX8_goesAhead 77 = .ok (.if_icmp .le 7, 3) := fq3_164 (fl_X8_goesAhead_1 (j := 13) rfl rfl) (fl_X8_goesAhead_1 (j := 14) rfl rfl) (fl_X8_goesAhead_1 (j := 15) rfl rfl) (by decide)
theorem dX8_goesAhead_80 : decode cX8_goesAhead 80 = .ok (.iconst 1, 1) := fq1_4 (fl_X8_goesAhead_1 (j := 16) rfl rfl)
theorem dX8_goesAhead_81 : decode cX8_goesAhead 81 = .ok (.goto 4, 3) := fq3_167 (fl_X8_goesAhead_1 (j := 17) rfl rfl) (fl_X8_goesAhead_1 (j := 18) rfl rfl) (fl_X8_goesAhead_1 (j := 19) rfl rfl) (by decide)
theorem dX8_goesAhead_84 : decode cX8_goesAhead 84 = .ok (.iconst 0, 1) := fq1_3 (fl_X8_goesAhead_1 (j := 20) rfl rfl)
theorem dX8_goesAhead_85 : decode cX8_goesAhead 85 = .ok (.ireturn, 1) := fq1_172 (fl_X8_goesAhead_1 (j := 21) rfl rfl)
theorem dX8_goesAhead_86 : decode cX8_goesAhead 86 = .ok (.aload_n 0, 1) := fq1_42 (fl_X8_goesAhead_1 (j := 22) rfl rfl)
theorem dX8_goesAhead_87 : decode cX8_goesAhead 87 = .ok (.getfield 12, 3) := fq3_180 (fl_X8_goesAhead_1 (j := 23) rfl rfl) (fl_X8_goesAhead_1 (j := 24) rfl rfl) (fl_X8_goesAhead_1 (j := 25) rfl rfl) (by decide)
theorem dX8_goesAhead_90 : decode cX8_goesAhead 90 = .ok (.aload_n 0, 1) := fq1_42 (fl_X8_goesAhead_1 (j := 26) rfl rfl)
theorem dX8_goesAhead_91 : decode cX8_goesAhead 91 = .ok (.getfield 21, 3) := fq3_180 (fl_X8_goesAhead_1 (j := 27) rfl rfl) (fl_X8_goesAhead_1 (j := 28) rfl rfl) (fl_X8_goesAhead_1 (j := 29) rfl rfl) (by decide)
theorem dX8_goesAhead_94 : decode cX8_goesAhead 94 = .ok (.getfield 67, 3) := fq3_180 (fl_X8_goesAhead_1 (j := 30) rfl rfl) (fl_X8_goesAhead_1 (j := 31) rfl rfl) (fl_X8_goesAhead_1 (j := 32) rfl rfl) (by decide)
theorem dX8_goesAhead_97 : decode cX8_goesAhead 97 = .ok (.iload_n 1, 1) := fq1_27 (fl_X8_goesAhead_1 (j := 33) rfl rfl)
theorem dX8_goesAhead_98 : decode cX8_goesAhead 98 = .ok (.iaload, 1) := fq1_46 (fl_X8_goesAhead_1 (j := 34) rfl rfl)
theorem dX8_goesAhead_99 : decode cX8_goesAhead 99 = .ok (.iconst 3, 1) := fq1_6 (fl_X8_goesAhead_1 (j := 35) rfl rfl)
theorem dX8_goesAhead_100 : decode cX8_goesAhead 100 = .ok (.invokevirtual 71, 3) := fq3_182 (fl_X8_goesAhead_1 (j := 36) rfl rfl) (fl_X8_goesAhead_1 (j := 37) rfl rfl) (fl_X8_goesAhead_1 (j := 38) rfl rfl) (by decide)
theorem dX8_goesAhead_103 : decode cX8_goesAhead 103 = .ok (.aload_n 0, 1) := fq1_42 (fl_X8_goesAhead_1 (j := 39) rfl rfl)
theorem dX8_goesAhead_104 : decode cX8_goesAhead 104 = .ok (.getfield 12, 3) := fq3_180 (fl_X8_goesAhead_1 (j := 40) rfl rfl) (fl_X8_goesAhead_1 (j := 41) rfl rfl) (fl_X8_goesAhead_1 (j := 42) rfl rfl) (by decide)
theorem dX8_goesAhead_107 : decode cX8_goesAhead 107 = .ok (.aload_n 0, 1) := fq1_42 (fl_X8_goesAhead_1 (j := 43) rfl rfl)
theorem dX8_goesAhead_108 : decode cX8_goesAhead 108 = .ok (.getfield 21, 3) := fq3_180 (fl_X8_goesAhead_1 (j := 44) rfl rfl) (fl_X8_goesAhead_1 (j := 45) rfl rfl) (fl_X8_goesAhead_1 (j := 46) rfl rfl) (by decide)
theorem dX8_goesAhead_111 : decode cX8_goesAhead 111 = .ok (.getfield 67, 3) := fq3_180 (fl_X8_goesAhead_1 (j := 47) rfl rfl) (fl_X8_goesAhead_1 (j := 48) rfl rfl) (fl_X8_goesAhead_1 (j := 49) rfl rfl) (by decide)
theorem dX8_goesAhead_114 : decode cX8_goesAhead 114 = .ok (.iload_n 2, 1) := fq1_28 (fl_X8_goesAhead_1 (j := 50) rfl rfl)
theorem dX8_goesAhead_115 : decode cX8_goesAhead 115 = .ok (.iaload, 1) := fq1_46 (fl_X8_goesAhead_1 (j := 51) rfl rfl)
theorem dX8_goesAhead_116 : decode cX8_goesAhead 116 = .ok (.iconst 3, 1) := fq1_6 (fl_X8_goesAhead_1 (j := 52) rfl rfl)
theorem dX8_goesAhead_117 : decode cX8_goesAhead 117 = .ok (.invokevirtual 71, 3) := fq3_182 (fl_X8_goesAhead_1 (j := 53) rfl rfl) (fl_X8_goesAhead_1 (j := 54) rfl rfl) (fl_X8_goesAhead_1 (j := 55) rfl rfl) (by decide)
theorem dX8_goesAhead_120 : decode cX8_goesAhead 120 = .ok (.if_icmp .le 7, 3) := fq3_164 (fl_X8_goesAhead_1 (j := 56) rfl rfl) (fl_X8_goesAhead_1 (j := 57) rfl rfl) (fl_X8_goesAhead_1 (j := 58) rfl rfl) (by decide)
theorem dX8_goesAhead_123 : decode cX8_goesAhead 123 = .ok (.iconst 1, 1) := fq1_4 (fl_X8_goesAhead_1 (j := 59) rfl rfl)
theorem dX8_goesAhead_124 : decode cX8_goesAhead 124 = .ok (.goto 4, 3) := fq3_167 (fl_X8_goesAhead_1 (j := 60) rfl rfl) (fl_X8_goesAhead_1 (j := 61) rfl rfl) (fl_X8_goesAhead_1 (j := 62) rfl rfl) (by decide)
theorem dX8_goesAhead_127 : decode cX8_goesAhead 127 = .ok (.iconst 0, 1) := fq1_3 (fl_X8_goesAhead_1 (j := 63) rfl rfl)
def fb_X8_goesAhead_2 : List UInt8 := [0xac, 0x2a, 0xb4, 0x00, 0x15, 0xb4, 0x00, 0x4a, 0x1b, 0x2e, 0x2a, 0xb4, 0x00, 0x15, 0xb4, 0x00, 0x4a, 0x1c, 0x2e, 0xa2, 0x00, 0x07, 0x04, 0xa7, 0x00, 0x04, 0x03, 0xac]
theorem fl_X8_goesAhead_2 {p j : Nat} {b : UInt8} (e : p = 128 + j) (h : fb_X8_goesAhead_2[j]? = some b) : cX8_goesAhead.data.toList[p]? = some b := fq_l (n := 64) (show (cX8_goesAhead.data.toList.drop 128).take 64 = fb_X8_goesAhead_2 by decide +kernel) e h
theorem dX8_goesAhead_128 : decode cX8_goesAhead 128 = .ok (.ireturn, 1) := fq1_172 (fl_X8_goesAhead_2 (j := 0) rfl rfl)
theorem dX8_goesAhead_129 : decode cX8_goesAhead 129 = .ok (.aload_n 0, 1) := fq1_42 (fl_X8_goesAhead_2 (j := 1) rfl rfl)
theorem dX8_goesAhead_130 : decode cX8_goesAhead 130 = .ok (.getfield 21, 3) := fq3_180 (fl_X8_goesAhead_2 (j := 2) rfl rfl) (fl_X8_goesAhead_2 (j := 3) rfl rfl) (fl_X8_goesAhead_2 (j := 4) rfl rfl) (by decide)
theorem dX8_goesAhead_133 : decode cX8_goesAhead 133 = .ok (.getfield 74, 3) := fq3_180 (fl_X8_goesAhead_2 (j := 5) rfl rfl) (fl_X8_goesAhead_2 (j := 6) rfl rfl) (fl_X8_goesAhead_2 (j := 7) rfl rfl) (by decide)
theorem dX8_goesAhead_136 : decode cX8_goesAhead 136 = .ok (.iload_n 1, 1) := fq1_27 (fl_X8_goesAhead_2 (j := 8) rfl rfl)
theorem dX8_goesAhead_137 : decode cX8_goesAhead 137 = .ok (.iaload, 1) := fq1_46 (fl_X8_goesAhead_2 (j := 9) rfl rfl)
theorem dX8_goesAhead_138 : decode cX8_goesAhead 138 = .ok (.aload_n 0, 1) := fq1_42 (fl_X8_goesAhead_2 (j := 10) rfl rfl)
theorem dX8_goesAhead_139 : decode cX8_goesAhead 139 = .ok (.getfield 21, 3) := fq3_180 (fl_X8_goesAhead_2 (j := 11) rfl rfl) (fl_X8_goesAhead_2 (j := 12) rfl rfl) (fl_X8_goesAhead_2 (j := 13) rfl rfl) (by decide)
theorem dX8_goesAhead_142 : decode cX8_goesAhead 142 = .ok (.getfield 74, 3) := fq3_180 (fl_X8_goesAhead_2 (j := 14) rfl rfl) (fl_X8_goesAhead_2 (j := 15) rfl rfl) (fl_X8_goesAhead_2 (j := 16) rfl rfl) (by decide)
theorem dX8_goesAhead_145 : decode cX8_goesAhead 145 = .ok (.iload_n 2, 1) := fq1_28 (fl_X8_goesAhead_2 (j := 17) rfl rfl)
theorem dX8_goesAhead_146 : decode cX8_goesAhead 146 = .ok (.iaload, 1) := fq1_46 (fl_X8_goesAhead_2 (j := 18) rfl rfl)
theorem dX8_goesAhead_147 : decode cX8_goesAhead 147 = .ok (.if_icmp .ge 7, 3) := fq3_162 (fl_X8_goesAhead_2 (j := 19) rfl rfl) (fl_X8_goesAhead_2 (j := 20) rfl rfl) (fl_X8_goesAhead_2 (j := 21) rfl rfl) (by decide)
theorem dX8_goesAhead_150 : decode cX8_goesAhead 150 = .ok (.iconst 1, 1) := fq1_4 (fl_X8_goesAhead_2 (j := 22) rfl rfl)
theorem dX8_goesAhead_151 : decode cX8_goesAhead 151 = .ok (.goto 4, 3) := fq3_167 (fl_X8_goesAhead_2 (j := 23) rfl rfl) (fl_X8_goesAhead_2 (j := 24) rfl rfl) (fl_X8_goesAhead_2 (j := 25) rfl rfl) (by decide)
theorem dX8_goesAhead_154 : decode cX8_goesAhead 154 = .ok (.iconst 0, 1) := fq1_3 (fl_X8_goesAhead_2 (j := 26) rfl rfl)
theorem dX8_goesAhead_155 : decode cX8_goesAhead 155 = .ok (.ireturn, 1) := fq1_172 (fl_X8_goesAhead_2 (j := 27) rfl rfl)
def fb_X8_isOneForAll_0 : List UInt8 := [0x03, 0x3e, 0x03, 0x36, 0x04, 0x03, 0x36, 0x05, 0x15, 0x05, 0x2a, 0xb4, 0x00, 0x0c, 0xb4, 0x00, 0x4d, 0xa2, 0x00, 0x49, 0x2a, 0xb4, 0x00, 0x15, 0x1b, 0x15, 0x05, 0xb6, 0x00, 0x38, 0x36, 0x06, 0x2a, 0xb4, 0x00, 0x15, 0x1c, 0x15, 0x05, 0xb6, 0x00, 0x38, 0x36, 0x07, 0x15, 0x06, 0x02, 0x9f, 0x00, 0x25, 0x15, 0x07, 0x02, 0x9f, 0x00, 0x1f, 0x15, 0x06, 0x15, 0x07, 0xb8, 0x00, 0x53, 0x36]
theorem fl_X8_isOneForAll_0 {p j : Nat} {b : UInt8} (e : p = 0 + j) (h : fb_X8_isOneForAll_0[j]? = some b) : cX8_isOneForAll.data.toList[p]? = some b := fq_l (n := 64) (show (cX8_isOneForAll.data.toList.drop 0).take 64 = fb_X8_isOneForAll_0 by decide +kernel) e h
theorem dX8_isOneForAll_0 : decode cX8_isOneForAll 0 = .ok (.iconst 0, 1) := fq1_3 (fl_X8_isOneForAll_0 (j := 0) rfl rfl)
theorem dX8_isOneForAll_1 : decode cX8_isOneForAll 1 = .ok (.istore_n 3, 1) := fq1_62 (fl_X8_isOneForAll_0 (j := 1) rfl rfl)
theorem dX8_isOneForAll_2 : decode cX8_isOneForAll 2 = .ok (.iconst 0, 1) := fq1_3 (fl_X8_isOneForAll_0 (j := 2) rfl rfl)
theorem dX8_isOneForAll_3 : decode cX8_isOneForAll 3 = .ok (.istore 4, 2) := fq2_54 (fl_X8_isOneForAll_0 (j := 3) rfl rfl) (fl_X8_isOneForAll_0 (j := 4) rfl rfl) (by decide)
theorem dX8_isOneForAll_5 : decode cX8_isOneForAll 5 = .ok (.iconst 0, 1) := fq1_3 (fl_X8_isOneForAll_0 (j := 5) rfl rfl)
theorem dX8_isOneForAll_6 : decode cX8_isOneForAll 6 = .ok (.istore 5, 2) := fq2_54 (fl_X8_isOneForAll_0 (j := 6) rfl rfl) (fl_X8_isOneForAll_0 (j := 7) rfl rfl) (by decide)
theorem dX8_isOneForAll_8 : decode cX8_isOneForAll 8 = .ok (.iload 5, 2) := fq2_21 (fl_X8_isOneForAll_0 (j := 8) rfl rfl) (fl_X8_isOneForAll_0 (j := 9) rfl rfl) (by decide)
theorem dX8_isOneForAll_10 : decode cX8_isOneForAll 10 = .ok (.aload_n 0, 1) := fq1_42 (fl_X8_isOneForAll_0 (j := 10) rfl rfl)
theorem dX8_isOneForAll_11 : decode cX8_isOneForAll 11 = .ok (.getfield 12, 3) := fq3_180 (fl_X8_isOneForAll_0 (j := 11) rfl rfl) (fl_X8_isOneForAll_0 (j := 12) rfl rfl) (fl_X8_isOneForAll_0 (j := 13) rfl rfl) (by decide)
theorem dX8_isOneForAll_14 : decode cX8_isOneForAll 14 = .ok (.getfield 77, 3) := fq3_180 (fl_X8_isOneForAll_0 (j := 14) rfl rfl) (fl_X8_isOneForAll_0 (j := 15) rfl rfl) (fl_X8_isOneForAll_0 (j := 16) rfl rfl) (by decide)
theorem dX8_isOneForAll_17 : decode cX8_isOneForAll 17 = .ok (.if_icmp .ge 73, 3) := fq3_162 (fl_X8_isOneForAll_0 (j := 17) rfl rfl) (fl_X8_isOneForAll_0 (j := 18) rfl rfl) (fl_X8_isOneForAll_0 (j := 19) rfl rfl) (by decide)
theorem dX8_isOneForAll_20 : decode cX8_isOneForAll 20 = .ok (.aload_n 0, 1) := fq1_42 (fl_X8_isOneForAll_0 (j := 20) rfl rfl)
theorem dX8_isOneForAll_21 : decode cX8_isOneForAll 21 = .ok (.getfield 21, 3) := fq3_180 (fl_X8_isOneForAll_0 (j := 21) rfl rfl) (fl_X8_isOneForAll_0 (j := 22) rfl rfl) (fl_X8_isOneForAll_0 (j := 23) rfl rfl) (by decide)
theorem dX8_isOneForAll_24 : decode cX8_isOneForAll 24 = .ok (.iload_n 1, 1) := fq1_27 (fl_X8_isOneForAll_0 (j := 24) rfl rfl)
theorem dX8_isOneForAll_25 : decode cX8_isOneForAll 25 = .ok (.iload 5, 2) := fq2_21 (fl_X8_isOneForAll_0 (j := 25) rfl rfl) (fl_X8_isOneForAll_0 (j := 26) rfl rfl) (by decide)
theorem dX8_isOneForAll_27 : decode cX8_isOneForAll 27 = .ok (.invokevirtual 56, 3) := fq3_182 (fl_X8_isOneForAll_0 (j := 27) rfl rfl) (fl_X8_isOneForAll_0 (j := 28) rfl rfl) (fl_X8_isOneForAll_0 (j := 29) rfl rfl) (by decide)
theorem dX8_isOneForAll_30 : decode cX8_isOneForAll 30 = .ok (.istore 6, 2) := fq2_54 (fl_X8_isOneForAll_0 (j := 30) rfl rfl) (fl_X8_isOneForAll_0 (j := 31) rfl rfl) (by decide)
theorem dX8_isOneForAll_32 : decode cX8_isOneForAll 32 = .ok (.aload_n 0, 1) := fq1_42 (fl_X8_isOneForAll_0 (j := 32) rfl rfl)
theorem dX8_isOneForAll_33 : decode cX8_isOneForAll 33 = .ok (.getfield 21, 3) := fq3_180 (fl_X8_isOneForAll_0 (j := 33) rfl rfl) (fl_X8_isOneForAll_0 (j := 34) rfl rfl) (fl_X8_isOneForAll_0 (j := 35) rfl rfl) (by decide)
theorem dX8_isOneForAll_36 : decode cX8_isOneForAll 36 = .ok (.iload_n 2, 1) := fq1_28 (fl_X8_isOneForAll_0 (j := 36) rfl rfl)
theorem dX8_isOneForAll_37 : decode cX8_isOneForAll 37 = .ok (.iload 5, 2) := fq2_21 (fl_X8_isOneForAll_0 (j := 37) rfl rfl) (fl_X8_isOneForAll_0 (j := 38) rfl rfl) (by decide)
theorem dX8_isOneForAll_39 : decode cX8_isOneForAll 39 = .ok (.invokevirtual 56, 3) := fq3_182 (fl_X8_isOneForAll_0 (j := 39) rfl rfl) (fl_X8_isOneForAll_0 (j := 40) rfl rfl) (fl_X8_isOneForAll_0 (j := 41) rfl rfl) (by decide)
theorem dX8_isOneForAll_42 : decode cX8_isOneForAll 42 = .ok (.istore 7, 2) := fq2_54 (fl_X8_isOneForAll_0 (j := 42) rfl rfl) (fl_X8_isOneForAll_0 (j := 43) rfl rfl) (by decide)
theorem dX8_isOneForAll_44 : decode cX8_isOneForAll 44 = .ok (.iload 6, 2) := fq2_21 (fl_X8_isOneForAll_0 (j := 44) rfl rfl) (fl_X8_isOneForAll_0 (j := 45) rfl rfl) (by decide)
theorem dX8_isOneForAll_46 : decode cX8_isOneForAll 46 = .ok (.iconst (-1), 1) := fq1_2 (fl_X8_isOneForAll_0 (j := 46) rfl rfl)
theorem dX8_isOneForAll_47 : decode cX8_isOneForAll 47 = .ok (.if_icmp .eq 37, 3) := fq3_159 (fl_X8_isOneForAll_0 (j := 47) rfl rfl) (fl_X8_isOneForAll_0 (j := 48) rfl rfl) (fl_X8_isOneForAll_0 (j := 49) rfl rfl) (by decide)
theorem dX8_isOneForAll_50 : decode cX8_isOneForAll 50 = .ok (.iload 7, 2) := fq2_21 (fl_X8_isOneForAll_0 (j := 50) rfl rfl) (fl_X8_isOneForAll_0 (j := 51) rfl rfl) (by decide)
theorem dX8_isOneForAll_52 : decode cX8_isOneForAll 52 = .ok (.iconst (-1), 1) := fq1_2 (fl_X8_isOneForAll_0 (j := 52) rfl rfl)
theorem dX8_isOneForAll_53 : decode cX8_isOneForAll 53 = .ok (.if_icmp .eq 31, 3) := fq3_159 (fl_X8_isOneForAll_0 (j := 53) rfl rfl) (fl_X8_isOneForAll_0 (j := 54) rfl rfl) (fl_X8_isOneForAll_0 (j := 55) rfl rfl) (by decide)
theorem dX8_isOneForAll_56 : decode cX8_isOneForAll 56 = .ok (.iload 6, 2) := fq2_21 (fl_X8_isOneForAll_0 (j := 56) rfl rfl) (fl_X8_isOneForAll_0 (j := 57) rfl rfl) (by decide)
theorem dX8_isOneForAll_58 : decode cX8_isOneForAll 58 = .ok (.iload 7, 2) := fq2_21 (fl_X8_isOneForAll_0 (j := 58) rfl rfl) (fl_X8_isOneForAll_0 (j := 59) rfl rfl) (by decide)
theorem dX8_isOneForAll_60 : decode cX8_isOneForAll 60 = .ok (.invokestatic 83, 3) := fq3_184 (fl_X8_isOneForAll_0 (j := 60) rfl rfl) (fl_X8_isOneForAll_0 (j := 61) rfl rfl) (fl_X8_isOneForAll_0 (j := 62) rfl rfl) (by decide)
def fb_X8_isOneForAll_1 : List UInt8 := [0x08, 0x1d, 0x99, 0x00, 0x0c, 0x15, 0x08, 0x15, 0x04, 0x9f, 0x00, 0x05, 0x03, 0xac, 0x04, 0x3e, 0x15, 0x08, 0x36, 0x04, 0x84, 0x05, 0x01, 0xa7, 0xff, 0xb1, 0x04, 0xac]
theorem fl_X8_isOneForAll_1 {p j : Nat} {b : UInt8} (e : p = 64 + j) (h : fb_X8_isOneForAll_1[j]? = some b) : cX8_isOneForAll.data.toList[p]? = some b := fq_l (n := 64) (show (cX8_isOneForAll.data.toList.drop 64).take 64 = fb_X8_isOneForAll_1 by decide +kernel) e h
theorem dX8_isOneForAll_63 : decode cX8_isOneForAll 63 = .ok (.istore 8, 2) := fq2_54 (fl_X8_isOneForAll_0 (j := 63) rfl rfl) (fl_X8_isOneForAll_1 (j := 0) rfl rfl) (by decide)
theorem dX8_isOneForAll_65 : decode cX8_isOneForAll 65 = .ok (.iload_n 3, 1) := fq1_29 (fl_X8_isOneForAll_1 (j := 1) rfl rfl)
theorem dX8_isOneForAll_66 : decode cX8_isOneForAll 66 = .ok (.ifCond .eq 12, 3) := fq3_153 (fl_X8_isOneForAll_1 (j := 2) rfl rfl) (fl_X8_isOneForAll_1 (j := 3) rfl rfl) (fl_X8_isOneForAll_1 (j := 4) rfl rfl) (by decide)
theorem dX8_isOneForAll_69 : decode cX8_isOneForAll 69 = .ok (.iload 8, 2) := fq2_21 (fl_X8_isOneForAll_1 (j := 5) rfl rfl) (fl_X8_isOneForAll_1 (j := 6) rfl rfl) (by decide)
theorem dX8_isOneForAll_71 : decode cX8_isOneForAll 71 = .ok (.iload 4, 2) := fq2_21 (fl_X8_isOneForAll_1 (j := 7) rfl rfl) (fl_X8_isOneForAll_1 (j := 8) rfl rfl) (by decide)
theorem dX8_isOneForAll_73 : decode cX8_isOneForAll 73 = .ok (.if_icmp .eq 5, 3) := fq3_159 (fl_X8_isOneForAll_1 (j := 9) rfl rfl) (fl_X8_isOneForAll_1 (j := 10) rfl rfl) (fl_X8_isOneForAll_1 (j := 11) rfl rfl) (by decide)
theorem dX8_isOneForAll_76 : decode cX8_isOneForAll 76 = .ok (.iconst 0, 1) := fq1_3 (fl_X8_isOneForAll_1 (j := 12) rfl rfl)
theorem dX8_isOneForAll_77 : decode cX8_isOneForAll 77 = .ok (.ireturn, 1) := fq1_172 (fl_X8_isOneForAll_1 (j := 13) rfl rfl)
theorem dX8_isOneForAll_78 : decode cX8_isOneForAll 78 = .ok (.iconst 1, 1) := fq1_4 (fl_X8_isOneForAll_1 (j := 14) rfl rfl)
theorem dX8_isOneForAll_79 : decode cX8_isOneForAll 79 = .ok (.istore_n 3, 1) := fq1_62 (fl_X8_isOneForAll_1 (j := 15) rfl rfl)
theorem dX8_isOneForAll_80 : decode cX8_isOneForAll 80 = .ok (.iload 8, 2) := fq2_21 (fl_X8_isOneForAll_1 (j := 16) rfl rfl) (fl_X8_isOneForAll_1 (j := 17) rfl rfl) (by decide)
theorem dX8_isOneForAll_82 : decode cX8_isOneForAll 82 = .ok (.istore 4, 2) := fq2_54 (fl_X8_isOneForAll_1 (j := 18) rfl rfl) (fl_X8_isOneForAll_1 (j := 19) rfl rfl) (by decide)
theorem dX8_isOneForAll_84 : decode cX8_isOneForAll 84 = .ok (.iinc 5 1, 3) := fq3_132 (fl_X8_isOneForAll_1 (j := 20) rfl rfl) (fl_X8_isOneForAll_1 (j := 21) rfl rfl) (fl_X8_isOneForAll_1 (j := 22) rfl rfl) (by decide) (by decide)
theorem dX8_isOneForAll_87 : decode cX8_isOneForAll 87 = .ok (.goto (-79), 3) := fq3_167 (fl_X8_isOneForAll_1 (j := 23) rfl rfl) (fl_X8_isOneForAll_1 (j := 24) rfl rfl) (fl_X8_isOneForAll_1 (j := 25) rfl rfl) (by decide)
theorem dX8_isOneForAll_90 : decode cX8_isOneForAll 90 = .ok (.iconst 1, 1) := fq1_4 (fl_X8_isOneForAll_1 (j := 26) rfl rfl)
theorem dX8_isOneForAll_91 : decode cX8_isOneForAll 91 = .ok (.ireturn, 1) := fq1_172 (fl_X8_isOneForAll_1 (j := 27) rfl rfl)
def fb_X8_ruler_0 : List UInt8 := [0x02, 0x3e, 0x03, 0x36, 0x04, 0x15, 0x04, 0x2a, 0xb4, 0x00, 0x15, 0xb4, 0x00, 0x35, 0xa2, 0x00, 0x40, 0x2a, 0xb4, 0x00, 0x15, 0x15, 0x04, 0x1b, 0xb6, 0x00, 0x38, 0x36, 0x05, 0x15, 0x05, 0x02, 0x9f, 0x00, 0x0d, 0x15, 0x05, 0x1c, 0xa3, 0x00, 0x07, 0x04, 0xa7, 0x00, 0x04, 0x03, 0x36, 0x06, 0x15, 0x06, 0x99, 0x00, 0x16, 0x1d, 0x02, 0x9f, 0x00, 0x0e, 0x2a, 0x15, 0x04, 0x1d, 0x1b, 0xb6]
theorem fl_X8_ruler_0 {p j : Nat} {b : UInt8} (e : p = 0 + j) (h : fb_X8_ruler_0[j]? = some b) : cX8_ruler.data.toList[p]? = some b := fq_l (n := 64) (show (cX8_ruler.data.toList.drop 0).take 64 = fb_X8_ruler_0 by decide +kernel) e h
theorem dX8_ruler_0 : decode cX8_ruler 0 = .ok (.iconst (-1), 1) := fq1_2 (fl_X8_ruler_0 (j := 0) rfl rfl)
theorem dX8_ruler_1 : decode cX8_ruler 1 = .ok (.istore_n 3, 1) := fq1_62 (fl_X8_ruler_0 (j := 1) rfl rfl)
theorem dX8_ruler_2 : decode cX8_ruler 2 = .ok (.iconst 0, 1) := fq1_3 (fl_X8_ruler_0 (j := 2) rfl rfl)
theorem dX8_ruler_3 : decode cX8_ruler 3 = .ok (.istore 4, 2) := fq2_54 (fl_X8_ruler_0 (j := 3) rfl rfl) (fl_X8_ruler_0 (j := 4) rfl rfl) (by decide)
theorem dX8_ruler_5 : decode cX8_ruler 5 = .ok (.iload 4, 2) := fq2_21 (fl_X8_ruler_0 (j := 5) rfl rfl) (fl_X8_ruler_0 (j := 6) rfl rfl) (by decide)
theorem dX8_ruler_7 : decode cX8_ruler 7 = .ok (.aload_n 0, 1) := fq1_42 (fl_X8_ruler_0 (j := 7) rfl rfl)
theorem dX8_ruler_8 : decode cX8_ruler 8 = .ok (.getfield 21, 3) := fq3_180 (fl_X8_ruler_0 (j := 8) rfl rfl) (fl_X8_ruler_0 (j := 9) rfl rfl) (fl_X8_ruler_0 (j := 10) rfl rfl) (by decide)
theorem dX8_ruler_11 : decode cX8_ruler 11 = .ok (.getfield 53, 3) := fq3_180 (fl_X8_ruler_0 (j := 11) rfl rfl) (fl_X8_ruler_0 (j := 12) rfl rfl) (fl_X8_ruler_0 (j := 13) rfl rfl) (by decide)
theorem dX8_ruler_14 : decode cX8_ruler 14 = .ok (.if_icmp .ge 64, 3) := fq3_162 (fl_X8_ruler_0 (j := 14) rfl rfl) (fl_X8_ruler_0 (j := 15) rfl rfl) (fl_X8_ruler_0 (j := 16) rfl rfl) (by decide)
theorem dX8_ruler_17 : decode cX8_ruler 17 = .ok (.aload_n 0, 1) := fq1_42 (fl_X8_ruler_0 (j := 17) rfl rfl)
theorem dX8_ruler_18 : decode cX8_ruler 18 = .ok (.getfield 21, 3) := fq3_180 (fl_X8_ruler_0 (j := 18) rfl rfl) (fl_X8_ruler_0 (j := 19) rfl rfl) (fl_X8_ruler_0 (j := 20) rfl rfl) (by decide)
theorem dX8_ruler_21 : decode cX8_ruler 21 = .ok (.iload 4, 2) := fq2_21 (fl_X8_ruler_0 (j := 21) rfl rfl) (fl_X8_ruler_0 (j := 22) rfl rfl) (by decide)
theorem dX8_ruler_23 : decode cX8_ruler 23 = .ok (.iload_n 1, 1) := fq1_27 (fl_X8_ruler_0 (j := 23) rfl rfl)
theorem dX8_ruler_24 : decode cX8_ruler 24 = .ok (.invokevirtual 56, 3) := fq3_182 (fl_X8_ruler_0 (j := 24) rfl rfl) (fl_X8_ruler_0 (j := 25) rfl rfl) (fl_X8_ruler_0 (j := 26) rfl rfl) (by decide)
theorem dX8_ruler_27 : decode cX8_ruler 27 = .ok (.istore 5, 2) := fq2_54 (fl_X8_ruler_0 (j := 27) rfl rfl) (fl_X8_ruler_0 (j := 28) rfl rfl) (by decide)
theorem dX8_ruler_29 : decode cX8_ruler 29 = .ok (.iload 5, 2) := fq2_21 (fl_X8_ruler_0 (j := 29) rfl rfl) (fl_X8_ruler_0 (j := 30) rfl rfl) (by decide)
theorem dX8_ruler_31 : decode cX8_ruler 31 = .ok (.iconst (-1), 1) := fq1_2 (fl_X8_ruler_0 (j := 31) rfl rfl)
theorem dX8_ruler_32 : decode cX8_ruler 32 = .ok (.if_icmp .eq 13, 3) := fq3_159 (fl_X8_ruler_0 (j := 32) rfl rfl) (fl_X8_ruler_0 (j := 33) rfl rfl) (fl_X8_ruler_0 (j := 34) rfl rfl) (by decide)
theorem dX8_ruler_35 : decode cX8_ruler 35 = .ok (.iload 5, 2) := fq2_21 (fl_X8_ruler_0 (j := 35) rfl rfl) (fl_X8_ruler_0 (j := 36) rfl rfl) (by decide)
theorem dX8_ruler_37 : decode cX8_ruler 37 = .ok (.iload_n 2, 1) := fq1_28 (fl_X8_ruler_0 (j := 37) rfl rfl)
theorem dX8_ruler_38 : decode cX8_ruler 38 = .ok (.if_icmp .gt 7, 3) := fq3_163 (fl_X8_ruler_0 (j := 38) rfl rfl) (fl_X8_ruler_0 (j := 39) rfl rfl) (fl_X8_ruler_0 (j := 40) rfl rfl) (by decide)
theorem dX8_ruler_41 : decode cX8_ruler 41 = .ok (.iconst 1, 1) := fq1_4 (fl_X8_ruler_0 (j := 41) rfl rfl)
theorem dX8_ruler_42 : decode cX8_ruler 42 = .ok (.goto 4, 3) := fq3_167 (fl_X8_ruler_0 (j := 42) rfl rfl) (fl_X8_ruler_0 (j := 43) rfl rfl) (fl_X8_ruler_0 (j := 44) rfl rfl) (by decide)
theorem dX8_ruler_45 : decode cX8_ruler 45 = .ok (.iconst 0, 1) := fq1_3 (fl_X8_ruler_0 (j := 45) rfl rfl)
theorem dX8_ruler_46 : decode cX8_ruler 46 = .ok (.istore 6, 2) := fq2_54 (fl_X8_ruler_0 (j := 46) rfl rfl) (fl_X8_ruler_0 (j := 47) rfl rfl) (by decide)
theorem dX8_ruler_48 : decode cX8_ruler 48 = .ok (.iload 6, 2) := fq2_21 (fl_X8_ruler_0 (j := 48) rfl rfl) (fl_X8_ruler_0 (j := 49) rfl rfl) (by decide)
theorem dX8_ruler_50 : decode cX8_ruler 50 = .ok (.ifCond .eq 22, 3) := fq3_153 (fl_X8_ruler_0 (j := 50) rfl rfl) (fl_X8_ruler_0 (j := 51) rfl rfl) (fl_X8_ruler_0 (j := 52) rfl rfl) (by decide)
theorem dX8_ruler_53 : decode cX8_ruler 53 = .ok (.iload_n 3, 1) := fq1_29 (fl_X8_ruler_0 (j := 53) rfl rfl)
theorem dX8_ruler_54 : decode cX8_ruler 54 = .ok (.iconst (-1), 1) := fq1_2 (fl_X8_ruler_0 (j := 54) rfl rfl)
theorem dX8_ruler_55 : decode cX8_ruler 55 = .ok (.if_icmp .eq 14, 3) := fq3_159 (fl_X8_ruler_0 (j := 55) rfl rfl) (fl_X8_ruler_0 (j := 56) rfl rfl) (fl_X8_ruler_0 (j := 57) rfl rfl) (by decide)
theorem dX8_ruler_58 : decode cX8_ruler 58 = .ok (.aload_n 0, 1) := fq1_42 (fl_X8_ruler_0 (j := 58) rfl rfl)
theorem dX8_ruler_59 : decode cX8_ruler 59 = .ok (.iload 4, 2) := fq2_21 (fl_X8_ruler_0 (j := 59) rfl rfl) (fl_X8_ruler_0 (j := 60) rfl rfl) (by decide)
theorem dX8_ruler_61 : decode cX8_ruler 61 = .ok (.iload_n 3, 1) := fq1_29 (fl_X8_ruler_0 (j := 61) rfl rfl)
theorem dX8_ruler_62 : decode cX8_ruler 62 = .ok (.iload_n 1, 1) := fq1_27 (fl_X8_ruler_0 (j := 62) rfl rfl)
def fb_X8_ruler_1 : List UInt8 := [0x00, 0x3c, 0x99, 0x00, 0x06, 0x15, 0x04, 0x3e, 0x84, 0x04, 0x01, 0xa7, 0xff, 0xba, 0x1d, 0xac]
theorem fl_X8_ruler_1 {p j : Nat} {b : UInt8} (e : p = 64 + j) (h : fb_X8_ruler_1[j]? = some b) : cX8_ruler.data.toList[p]? = some b := fq_l (n := 64) (show (cX8_ruler.data.toList.drop 64).take 64 = fb_X8_ruler_1 by decide +kernel) e h
theorem dX8_ruler_63 : decode cX8_ruler 63 = .ok (.invokevirtual 60, 3) := fq3_182 (fl_X8_ruler_0 (j := 63) rfl rfl) (fl_X8_ruler_1 (j := 0) rfl rfl) (fl_X8_ruler_1 (j := 1) rfl rfl) (by decide)
theorem dX8_ruler_66 : decode cX8_ruler 66 = .ok (.ifCond .eq 6, 3) := fq3_153 (fl_X8_ruler_1 (j := 2) rfl rfl) (fl_X8_ruler_1 (j := 3) rfl rfl) (fl_X8_ruler_1 (j := 4) rfl rfl) (by decide)
theorem dX8_ruler_69 : decode cX8_ruler 69 = .ok (.iload 4, 2) := fq2_21 (fl_X8_ruler_1 (j := 5) rfl rfl) (fl_X8_ruler_1 (j := 6) rfl rfl) (by decide)
theorem dX8_ruler_71 : decode cX8_ruler 71 = .ok (.istore_n 3, 1) := fq1_62 (fl_X8_ruler_1 (j := 7) rfl rfl)
theorem dX8_ruler_72 : decode cX8_ruler 72 = .ok (.iinc 4 1, 3) := fq3_132 (fl_X8_ruler_1 (j := 8) rfl rfl) (fl_X8_ruler_1 (j := 9) rfl rfl) (fl_X8_ruler_1 (j := 10) rfl rfl) (by decide) (by decide)
theorem dX8_ruler_75 : decode cX8_ruler 75 = .ok (.goto (-70), 3) := fq3_167 (fl_X8_ruler_1 (j := 11) rfl rfl) (fl_X8_ruler_1 (j := 12) rfl rfl) (fl_X8_ruler_1 (j := 13) rfl rfl) (by decide)
theorem dX8_ruler_78 : decode cX8_ruler 78 = .ok (.iload_n 3, 1) := fq1_29 (fl_X8_ruler_1 (j := 14) rfl rfl)
theorem dX8_ruler_79 : decode cX8_ruler 79 = .ok (.ireturn, 1) := fq1_172 (fl_X8_ruler_1 (j := 15) rfl rfl)
def fb_X8_rulerOfAll_0 : List UInt8 := [0x2a, 0xb4, 0x00, 0x0c, 0xb4, 0x00, 0x4d, 0x9a, 0x00, 0x07, 0x02, 0xa7, 0x00, 0x09, 0x2a, 0x03, 0x1b, 0xb6, 0x00, 0x50, 0x3d, 0x04, 0x3e, 0x1d, 0x2a, 0xb4, 0x00, 0x0c, 0xb4, 0x00, 0x4d, 0xa2, 0x00, 0x1a, 0x1c, 0x02, 0x9f, 0x00, 0x15, 0x2a, 0x1d, 0x1b, 0xb6, 0x00, 0x50, 0x1c, 0x9f, 0x00, 0x05, 0x02, 0x3d, 0x84, 0x03, 0x01, 0xa7, 0xff, 0xe1, 0x1c, 0xac]
theorem fl_X8_rulerOfAll_0 {p j : Nat} {b : UInt8} (e : p = 0 + j) (h : fb_X8_rulerOfAll_0[j]? = some b) : cX8_rulerOfAll.data.toList[p]? = some b := fq_l (n := 64) (show (cX8_rulerOfAll.data.toList.drop 0).take 64 = fb_X8_rulerOfAll_0 by decide +kernel) e h
theorem dX8_rulerOfAll_0 : decode cX8_rulerOfAll 0 = .ok (.aload_n 0, 1) := fq1_42 (fl_X8_rulerOfAll_0 (j := 0) rfl rfl)
theorem dX8_rulerOfAll_1 : decode cX8_rulerOfAll 1 = .ok (.getfield 12, 3) := fq3_180 (fl_X8_rulerOfAll_0 (j := 1) rfl rfl) (fl_X8_rulerOfAll_0 (j := 2) rfl rfl) (fl_X8_rulerOfAll_0 (j := 3) rfl rfl) (by decide)
theorem dX8_rulerOfAll_4 : decode cX8_rulerOfAll 4 = .ok (.getfield 77, 3) := fq3_180 (fl_X8_rulerOfAll_0 (j := 4) rfl rfl) (fl_X8_rulerOfAll_0 (j := 5) rfl rfl) (fl_X8_rulerOfAll_0 (j := 6) rfl rfl) (by decide)
theorem dX8_rulerOfAll_7 : decode cX8_rulerOfAll 7 = .ok (.ifCond .ne 7, 3) := fq3_154 (fl_X8_rulerOfAll_0 (j := 7) rfl rfl) (fl_X8_rulerOfAll_0 (j := 8) rfl rfl) (fl_X8_rulerOfAll_0 (j := 9) rfl rfl) (by decide)
theorem dX8_rulerOfAll_10 : decode cX8_rulerOfAll 10 = .ok (.iconst (-1), 1) := fq1_2 (fl_X8_rulerOfAll_0 (j := 10) rfl rfl)
theorem dX8_rulerOfAll_11 : decode cX8_rulerOfAll 11 = .ok (.goto 9, 3) := fq3_167 (fl_X8_rulerOfAll_0 (j := 11) rfl rfl) (fl_X8_rulerOfAll_0 (j := 12) rfl rfl) (fl_X8_rulerOfAll_0 (j := 13) rfl rfl) (by decide)
theorem dX8_rulerOfAll_14 : decode cX8_rulerOfAll 14 = .ok (.aload_n 0, 1) := fq1_42 (fl_X8_rulerOfAll_0 (j := 14) rfl rfl)
theorem dX8_rulerOfAll_15 : decode cX8_rulerOfAll 15 = .ok (.iconst 0, 1) := fq1_3 (fl_X8_rulerOfAll_0 (j := 15) rfl rfl)
theorem dX8_rulerOfAll_16 : decode cX8_rulerOfAll 16 = .ok (.iload_n 1, 1) := fq1_27 (fl_X8_rulerOfAll_0 (j := 16) rfl rfl)
theorem dX8_rulerOfAll_17 : decode cX8_rulerOfAll 17 = .ok (.invokevirtual 80, 3) := fq3_182 (fl_X8_rulerOfAll_0 (j := 17) rfl rfl) (fl_X8_rulerOfAll_0 (j := 18) rfl rfl) (fl_X8_rulerOfAll_0 (j := 19) rfl rfl) (by decide)
theorem dX8_rulerOfAll_20 : decode cX8_rulerOfAll 20 = .ok (.istore_n 2, 1) := fq1_61 (fl_X8_rulerOfAll_0 (j := 20) rfl rfl)
theorem dX8_rulerOfAll_21 : decode cX8_rulerOfAll 21 = .ok (.iconst 1, 1) := fq1_4 (fl_X8_rulerOfAll_0 (j := 21) rfl rfl)
theorem dX8_rulerOfAll_22 : decode cX8_rulerOfAll 22 = .ok (.istore_n 3, 1) := fq1_62 (fl_X8_rulerOfAll_0 (j := 22) rfl rfl)
theorem dX8_rulerOfAll_23 : decode cX8_rulerOfAll 23 = .ok (.iload_n 3, 1) := fq1_29 (fl_X8_rulerOfAll_0 (j := 23) rfl rfl)
theorem dX8_rulerOfAll_24 : decode cX8_rulerOfAll 24 = .ok (.aload_n 0, 1) := fq1_42 (fl_X8_rulerOfAll_0 (j := 24) rfl rfl)
theorem dX8_rulerOfAll_25 : decode cX8_rulerOfAll 25 = .ok (.getfield 12, 3) := fq3_180 (fl_X8_rulerOfAll_0 (j := 25) rfl rfl) (fl_X8_rulerOfAll_0 (j := 26) rfl rfl) (fl_X8_rulerOfAll_0 (j := 27) rfl rfl) (by decide)
theorem dX8_rulerOfAll_28 : decode cX8_rulerOfAll 28 = .ok (.getfield 77, 3) := fq3_180 (fl_X8_rulerOfAll_0 (j := 28) rfl rfl) (fl_X8_rulerOfAll_0 (j := 29) rfl rfl) (fl_X8_rulerOfAll_0 (j := 30) rfl rfl) (by decide)
theorem dX8_rulerOfAll_31 : decode cX8_rulerOfAll 31 = .ok (.if_icmp .ge 26, 3) := fq3_162 (fl_X8_rulerOfAll_0 (j := 31) rfl rfl) (fl_X8_rulerOfAll_0 (j := 32) rfl rfl) (fl_X8_rulerOfAll_0 (j := 33) rfl rfl) (by decide)
theorem dX8_rulerOfAll_34 : decode cX8_rulerOfAll 34 = .ok (.iload_n 2, 1) := fq1_28 (fl_X8_rulerOfAll_0 (j := 34) rfl rfl)
theorem dX8_rulerOfAll_35 : decode cX8_rulerOfAll 35 = .ok (.iconst (-1), 1) := fq1_2 (fl_X8_rulerOfAll_0 (j := 35) rfl rfl)
theorem dX8_rulerOfAll_36 : decode cX8_rulerOfAll 36 = .ok (.if_icmp .eq 21, 3) := fq3_159 (fl_X8_rulerOfAll_0 (j := 36) rfl rfl) (fl_X8_rulerOfAll_0 (j := 37) rfl rfl) (fl_X8_rulerOfAll_0 (j := 38) rfl rfl) (by decide)
theorem dX8_rulerOfAll_39 : decode cX8_rulerOfAll 39 = .ok (.aload_n 0, 1) := fq1_42 (fl_X8_rulerOfAll_0 (j := 39) rfl rfl)
theorem dX8_rulerOfAll_40 : decode cX8_rulerOfAll 40 = .ok (.iload_n 3, 1) := fq1_29 (fl_X8_rulerOfAll_0 (j := 40) rfl rfl)
theorem dX8_rulerOfAll_41 : decode cX8_rulerOfAll 41 = .ok (.iload_n 1, 1) := fq1_27 (fl_X8_rulerOfAll_0 (j := 41) rfl rfl)
theorem dX8_rulerOfAll_42 : decode cX8_rulerOfAll 42 = .ok (.invokevirtual 80, 3) := fq3_182 (fl_X8_rulerOfAll_0 (j := 42) rfl rfl) (fl_X8_rulerOfAll_0 (j := 43) rfl rfl) (fl_X8_rulerOfAll_0 (j := 44) rfl rfl) (by decide)
theorem dX8_rulerOfAll_45 : decode cX8_rulerOfAll 45 = .ok (.iload_n 2, 1) := fq1_28 (fl_X8_rulerOfAll_0 (j := 45) rfl rfl)
theorem dX8_rulerOfAll_46 : decode cX8_rulerOfAll 46 = .ok (.if_icmp .eq 5, 3) := fq3_159 (fl_X8_rulerOfAll_0 (j := 46) rfl rfl) (fl_X8_rulerOfAll_0 (j := 47) rfl rfl) (fl_X8_rulerOfAll_0 (j := 48) rfl rfl) (by decide)
theorem dX8_rulerOfAll_49 : decode cX8_rulerOfAll 49 = .ok (.iconst (-1), 1) := fq1_2 (fl_X8_rulerOfAll_0 (j := 49) rfl rfl)
theorem dX8_rulerOfAll_50 : decode cX8_rulerOfAll 50 = .ok (.istore_n 2, 1) := fq1_61 (fl_X8_rulerOfAll_0 (j := 50) rfl rfl)
theorem dX8_rulerOfAll_51 : decode cX8_rulerOfAll 51 = .ok (.iinc 3 1, 3) := fq3_132 (fl_X8_rulerOfAll_0 (j := 51) rfl rfl) (fl_X8_rulerOfAll_0 (j := 52) rfl rfl) (fl_X8_rulerOfAll_0 (j := 53) rfl rfl) (by decide) (by decide)
theorem dX8_rulerOfAll_54 : decode cX8_rulerOfAll 54 = .ok (.goto (-31), 3) := fq3_167 (fl_X8_rulerOfAll_0 (j := 54) rfl rfl) (fl_X8_rulerOfAll_0 (j := 55) rfl rfl) (fl_X8_rulerOfAll_0 (j := 56) rfl rfl) (by decide)
theorem dX8_rulerOfAll_57 : decode cX8_rulerOfAll 57 = .ok (.iload_n 2, 1) := fq1_28 (fl_X8_rulerOfAll_0 (j := 57) rfl rfl)
theorem dX8_rulerOfAll_58 : decode cX8_rulerOfAll 58 = .ok (.ireturn, 1) := fq1_172 (fl_X8_rulerOfAll_0 (j := 58) rfl rfl)
