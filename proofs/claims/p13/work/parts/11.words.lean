theorem qf_X3_19 : Cond.fieldLink RX3 19 "SlowWorlds$Rays" "arrivals" "[I" ∈ gw := tbt (tb2 (List.mem_of_getElem? (i := 92) rfl)) rfl
theorem iX3 : ∀ w ∈ u_ws RX3 TX3 4, w ∈ gw := by
  intro w hw
  obtain ⟨k, hk, rfl⟩ := List.mem_map.mp hw
  have hk := List.mem_range.mp hk
  match k, hk with
  | 0, _ => exact tbt (tb2 (List.mem_of_getElem? (i := 94) rfl)) rfl
  | 1, _ => exact tbt (tb2 (List.mem_of_getElem? (i := 96) rfl)) rfl
  | 2, _ => exact tbt (tb2 (List.mem_of_getElem? (i := 98) rfl)) rfl
  | 3, _ => exact tbt (tb2 (List.mem_of_getElem? (i := 100) rfl)) rfl
  | (k + 4), hk => exact absurd hk (by omega)
theorem qa_int : Cond.arrayClass .int ∈ gw := tbt (tb1 (List.mem_of_getElem? (i := 83) rfl)) rfl
theorem qf_X3_23 : Cond.fieldLink RX3 23 "SlowWorlds$Rays" "looks" "[I" ∈ gw := tbt (tb2 (List.mem_of_getElem? (i := 93) rfl)) rfl
theorem qf_X3_15 : Cond.fieldLink RX3 15 "SlowWorlds$Rays" "opened" "J" ∈ gw := tbt (tb2 (List.mem_of_getElem? (i := 91) rfl)) rfl
theorem qc_X3_openedRow : Cond.code yX3_openedRow cX3_openedRow 6 (some .int) ∈ gw := tbt (tb4 (List.mem_of_getElem? (i := 88) rfl)) rfl
theorem qi_yX3_openedRow : Cond.instanceMethod yX3_openedRow ∈ gw := tbt (tb4 (List.mem_of_getElem? (i := 87) rfl)) rfl
theorem qs_X3_openedRow : Cond.selects (yX3_openedRow).cls yX3_openedRow yX3_openedRow ∈ gw := tb0 (List.mem_of_getElem? (i := 19) rfl) rfl
theorem qz_X3 : Cond.initialized RX3 ∈ gw := tbt (tb1 (List.mem_of_getElem? (i := 13) rfl)) rfl
theorem ci_X3_openedRow : CIv yX3_openedRow cX3_openedRow 6 (some .int) 2 := ⟨qc_X3_openedRow, qi_yX3_openedRow, qs_X3_openedRow, qz_X3, by decide +kernel⟩
theorem qm_X3_26 : Cond.methodLink RX3 26 yX3_openedRow ∈ gw := tbt (tb4 (List.mem_of_getElem? (i := 85) rfl)) rfl
theorem qf_X3_11 : Cond.fieldLink RX3 11 "SlowWorlds$Rays" "sky" "LSlowWorlds$Sky;" ∈ gw := tbt (tb2 (List.mem_of_getElem? (i := 90) rfl)) rfl
theorem qm_X3_30 : Cond.methodLink RX3 30 yX5_heading ∈ gw := tbt (tb4 (List.mem_of_getElem? (i := 89) rfl)) rfl
theorem qc_X5_hasIce : Cond.code yX5_hasIce cX5_hasIce 9 (some .boolean) ∈ gw := tbt (tb4 (List.mem_of_getElem? (i := 76) rfl)) rfl
theorem qi_yX5_hasIce : Cond.instanceMethod yX5_hasIce ∈ gw := tbt (tb4 (List.mem_of_getElem? (i := 74) rfl)) rfl
theorem qs_X5_hasIce : Cond.selects (yX5_hasIce).cls yX5_hasIce yX5_hasIce ∈ gw := tbt (tb4 (List.mem_of_getElem? (i := 75) rfl)) rfl
theorem ci_X5_hasIce : CIv yX5_hasIce cX5_hasIce 9 (some .boolean) 3 := ⟨qc_X5_hasIce, qi_yX5_hasIce, qs_X5_hasIce, qz_X5, by decide +kernel⟩
theorem qm_X3_39 : Cond.methodLink RX3 39 yX5_hasIce ∈ gw := tbt (tb4 (List.mem_of_getElem? (i := 91) rfl)) rfl
theorem qm_X3_35 : Cond.methodLink RX3 35 yX5_apart ∈ gw := tbt (tb4 (List.mem_of_getElem? (i := 90) rfl)) rfl
def fb_X3_arrival_0 : List UInt8 := [0x1c, 0x9b, 0x00, 0x0a, 0x1c, 0x11, 0x01, 0x90, 0xa4, 0x00, 0x05, 0x02, 0xac, 0x1b, 0x1d, 0xa0, 0x00, 0x05, 0x1c, 0xac, 0x2a, 0x1b, 0x1d, 0xb6, 0x00, 0x1a, 0x1c, 0x60, 0x36, 0x04, 0x2a, 0xb4, 0x00, 0x13, 0x15, 0x04, 0x2e, 0x10, 0xfe, 0xa0, 0x00, 0x58, 0x2a, 0xb4, 0x00, 0x0b, 0x1b, 0x1c, 0xb6, 0x00, 0x1e, 0x36, 0x05, 0x1c, 0x04, 0x60, 0x36, 0x06, 0x15, 0x06, 0x1c, 0x10, 0x14, 0x60]
theorem fl_X3_arrival_0 {p j : Nat} {b : UInt8} (e : p = 0 + j) (h : fb_X3_arrival_0[j]? = some b) : cX3_arrival.data.toList[p]? = some b := fq_l (n := 64) (show (cX3_arrival.data.toList.drop 0).take 64 = fb_X3_arrival_0 by decide +kernel) e h
theorem dX3_arrival_0 : decode cX3_arrival 0 = .ok (.iload_n 2, 1) := fq1_28 (fl_X3_arrival_0 (j := 0) rfl rfl)
theorem dX3_arrival_1 : decode cX3_arrival 1 = .ok (.ifCond .lt 10, 3) := fq3_155 (fl_X3_arrival_0 (j := 1) rfl rfl) (fl_X3_arrival_0 (j := 2) rfl rfl) (fl_X3_arrival_0 (j := 3) rfl rfl) (s2p rfl (bl rfl))
theorem dX3_arrival_4 : decode cX3_arrival 4 = .ok (.iload_n 2, 1) := fq1_28 (fl_X3_arrival_0 (j := 4) rfl rfl)
theorem dX3_arrival_5 : decode cX3_arrival 5 = .ok (.sipush 400, 3) := fq3_17 (fl_X3_arrival_0 (j := 5) rfl rfl) (fl_X3_arrival_0 (j := 6) rfl rfl) (fl_X3_arrival_0 (j := 7) rfl rfl) (s2p rfl (bl rfl))
theorem dX3_arrival_8 : decode cX3_arrival 8 = .ok (.if_icmp .le 5, 3) := fq3_164 (fl_X3_arrival_0 (j := 8) rfl rfl) (fl_X3_arrival_0 (j := 9) rfl rfl) (fl_X3_arrival_0 (j := 10) rfl rfl) (s2p rfl (bl rfl))
theorem dX3_arrival_11 : decode cX3_arrival 11 = .ok (.iconst (-1), 1) := fq1_2 (fl_X3_arrival_0 (j := 11) rfl rfl)
theorem dX3_arrival_12 : decode cX3_arrival 12 = .ok (.ireturn, 1) := fq1_172 (fl_X3_arrival_0 (j := 12) rfl rfl)
theorem dX3_arrival_13 : decode cX3_arrival 13 = .ok (.iload_n 1, 1) := fq1_27 (fl_X3_arrival_0 (j := 13) rfl rfl)
theorem dX3_arrival_14 : decode cX3_arrival 14 = .ok (.iload_n 3, 1) := fq1_29 (fl_X3_arrival_0 (j := 14) rfl rfl)
theorem dX3_arrival_15 : decode cX3_arrival 15 = .ok (.if_icmp .ne 5, 3) := fq3_160 (fl_X3_arrival_0 (j := 15) rfl rfl) (fl_X3_arrival_0 (j := 16) rfl rfl) (fl_X3_arrival_0 (j := 17) rfl rfl) (s2p rfl (bl rfl))
theorem dX3_arrival_18 : decode cX3_arrival 18 = .ok (.iload_n 2, 1) := fq1_28 (fl_X3_arrival_0 (j := 18) rfl rfl)
theorem dX3_arrival_19 : decode cX3_arrival 19 = .ok (.ireturn, 1) := fq1_172 (fl_X3_arrival_0 (j := 19) rfl rfl)
theorem dX3_arrival_20 : decode cX3_arrival 20 = .ok (.aload_n 0, 1) := fq1_42 (fl_X3_arrival_0 (j := 20) rfl rfl)
theorem dX3_arrival_21 : decode cX3_arrival 21 = .ok (.iload_n 1, 1) := fq1_27 (fl_X3_arrival_0 (j := 21) rfl rfl)
theorem dX3_arrival_22 : decode cX3_arrival 22 = .ok (.iload_n 3, 1) := fq1_29 (fl_X3_arrival_0 (j := 22) rfl rfl)
theorem dX3_arrival_23 : decode cX3_arrival 23 = .ok (.invokevirtual 26, 3) := fq3_182 (fl_X3_arrival_0 (j := 23) rfl rfl) (fl_X3_arrival_0 (j := 24) rfl rfl) (fl_X3_arrival_0 (j := 25) rfl rfl) rfl
theorem dX3_arrival_26 : decode cX3_arrival 26 = .ok (.iload_n 2, 1) := fq1_28 (fl_X3_arrival_0 (j := 26) rfl rfl)
theorem dX3_arrival_27 : decode cX3_arrival 27 = .ok (.iadd, 1) := fq1_96 (fl_X3_arrival_0 (j := 27) rfl rfl)
theorem dX3_arrival_28 : decode cX3_arrival 28 = .ok (.istore 4, 2) := fq2_54 (fl_X3_arrival_0 (j := 28) rfl rfl) (fl_X3_arrival_0 (j := 29) rfl rfl) rfl
theorem dX3_arrival_30 : decode cX3_arrival 30 = .ok (.aload_n 0, 1) := fq1_42 (fl_X3_arrival_0 (j := 30) rfl rfl)
theorem dX3_arrival_31 : decode cX3_arrival 31 = .ok (.getfield 19, 3) := fq3_180 (fl_X3_arrival_0 (j := 31) rfl rfl) (fl_X3_arrival_0 (j := 32) rfl rfl) (fl_X3_arrival_0 (j := 33) rfl rfl) rfl
theorem dX3_arrival_34 : decode cX3_arrival 34 = .ok (.iload 4, 2) := fq2_21 (fl_X3_arrival_0 (j := 34) rfl rfl) (fl_X3_arrival_0 (j := 35) rfl rfl) rfl
theorem dX3_arrival_36 : decode cX3_arrival 36 = .ok (.iaload, 1) := fq1_46 (fl_X3_arrival_0 (j := 36) rfl rfl)
theorem dX3_arrival_37 : decode cX3_arrival 37 = .ok (.bipush (-2), 2) := fq2_16 (fl_X3_arrival_0 (j := 37) rfl rfl) (fl_X3_arrival_0 (j := 38) rfl rfl) (by decide)
theorem dX3_arrival_39 : decode cX3_arrival 39 = .ok (.if_icmp .ne 88, 3) := fq3_160 (fl_X3_arrival_0 (j := 39) rfl rfl) (fl_X3_arrival_0 (j := 40) rfl rfl) (fl_X3_arrival_0 (j := 41) rfl rfl) (s2p rfl (bl rfl))
theorem dX3_arrival_42 : decode cX3_arrival 42 = .ok (.aload_n 0, 1) := fq1_42 (fl_X3_arrival_0 (j := 42) rfl rfl)
theorem dX3_arrival_43 : decode cX3_arrival 43 = .ok (.getfield 11, 3) := fq3_180 (fl_X3_arrival_0 (j := 43) rfl rfl) (fl_X3_arrival_0 (j := 44) rfl rfl) (fl_X3_arrival_0 (j := 45) rfl rfl) rfl
theorem dX3_arrival_46 : decode cX3_arrival 46 = .ok (.iload_n 1, 1) := fq1_27 (fl_X3_arrival_0 (j := 46) rfl rfl)
theorem dX3_arrival_47 : decode cX3_arrival 47 = .ok (.iload_n 2, 1) := fq1_28 (fl_X3_arrival_0 (j := 47) rfl rfl)
theorem dX3_arrival_48 : decode cX3_arrival 48 = .ok (.invokevirtual 30, 3) := fq3_182 (fl_X3_arrival_0 (j := 48) rfl rfl) (fl_X3_arrival_0 (j := 49) rfl rfl) (fl_X3_arrival_0 (j := 50) rfl rfl) rfl
theorem dX3_arrival_51 : decode cX3_arrival 51 = .ok (.istore 5, 2) := fq2_54 (fl_X3_arrival_0 (j := 51) rfl rfl) (fl_X3_arrival_0 (j := 52) rfl rfl) rfl
theorem dX3_arrival_53 : decode cX3_arrival 53 = .ok (.iload_n 2, 1) := fq1_28 (fl_X3_arrival_0 (j := 53) rfl rfl)
theorem dX3_arrival_54 : decode cX3_arrival 54 = .ok (.iconst 1, 1) := fq1_4 (fl_X3_arrival_0 (j := 54) rfl rfl)
theorem dX3_arrival_55 : decode cX3_arrival 55 = .ok (.iadd, 1) := fq1_96 (fl_X3_arrival_0 (j := 55) rfl rfl)
theorem dX3_arrival_56 : decode cX3_arrival 56 = .ok (.istore 6, 2) := fq2_54 (fl_X3_arrival_0 (j := 56) rfl rfl) (fl_X3_arrival_0 (j := 57) rfl rfl) rfl
theorem dX3_arrival_58 : decode cX3_arrival 58 = .ok (.iload 6, 2) := fq2_21 (fl_X3_arrival_0 (j := 58) rfl rfl) (fl_X3_arrival_0 (j := 59) rfl rfl) rfl
theorem dX3_arrival_60 : decode cX3_arrival 60 = .ok (.iload_n 2, 1) := fq1_28 (fl_X3_arrival_0 (j := 60) rfl rfl)
theorem dX3_arrival_61 : decode cX3_arrival 61 = .ok (.bipush 20, 2) := fq2_16 (fl_X3_arrival_0 (j := 61) rfl rfl) (fl_X3_arrival_0 (j := 62) rfl rfl) (s1p rfl (bl rfl))
theorem dX3_arrival_63 : decode cX3_arrival 63 = .ok (.iadd, 1) := fq1_96 (fl_X3_arrival_0 (j := 63) rfl rfl)
def fb_X3_arrival_1 : List UInt8 := [0xa2, 0x00, 0x25, 0x2a, 0xb4, 0x00, 0x0b, 0x1b, 0x15, 0x05, 0x1d, 0x2a, 0xb4, 0x00, 0x0b, 0x1d, 0x15, 0x06, 0xb6, 0x00, 0x1e, 0xb6, 0x00, 0x23, 0x15, 0x06, 0x1c, 0x64, 0xa4, 0x00, 0x09, 0x84, 0x06, 0x01, 0xa7, 0xff, 0xd8, 0x2a, 0xb4, 0x00, 0x13, 0x15, 0x04, 0x2a, 0xb4, 0x00, 0x0b, 0x1b, 0x1d, 0x1c, 0xb6, 0x00, 0x27, 0x99, 0x00, 0x07, 0x02, 0xa7, 0x00, 0x05, 0x15, 0x06, 0x4f, 0x2a]
theorem fl_X3_arrival_1 {p j : Nat} {b : UInt8} (e : p = 64 + j) (h : fb_X3_arrival_1[j]? = some b) : cX3_arrival.data.toList[p]? = some b := fq_l (n := 64) (show (cX3_arrival.data.toList.drop 64).take 64 = fb_X3_arrival_1 by decide +kernel) e h
theorem dX3_arrival_64 : decode cX3_arrival 64 = .ok (.if_icmp .ge 37, 3) := fq3_162 (fl_X3_arrival_1 (j := 0) rfl rfl) (fl_X3_arrival_1 (j := 1) rfl rfl) (fl_X3_arrival_1 (j := 2) rfl rfl) (s2p rfl (bl rfl))
theorem dX3_arrival_67 : decode cX3_arrival 67 = .ok (.aload_n 0, 1) := fq1_42 (fl_X3_arrival_1 (j := 3) rfl rfl)
theorem dX3_arrival_68 : decode cX3_arrival 68 = .ok (.getfield 11, 3) := fq3_180 (fl_X3_arrival_1 (j := 4) rfl rfl) (fl_X3_arrival_1 (j := 5) rfl rfl) (fl_X3_arrival_1 (j := 6) rfl rfl) rfl
theorem dX3_arrival_71 : decode cX3_arrival 71 = .ok (.iload_n 1, 1) := fq1_27 (fl_X3_arrival_1 (j := 7) rfl rfl)
theorem dX3_arrival_72 : decode cX3_arrival 72 = .ok (.iload 5, 2) := fq2_21 (fl_X3_arrival_1 (j := 8) rfl rfl) (fl_X3_arrival_1 (j := 9) rfl rfl) rfl
theorem dX3_arrival_74 : decode cX3_arrival 74 = .ok (.iload_n 3, 1) := fq1_29 (fl_X3_arrival_1 (j := 10) rfl rfl)
theorem dX3_arrival_75 : decode cX3_arrival 75 = .ok (.aload_n 0, 1) := fq1_42 (fl_X3_arrival_1 (j := 11) rfl rfl)
theorem dX3_arrival_76 : decode cX3_arrival 76 = .ok (.getfield 11, 3) := fq3_180 (fl_X3_arrival_1 (j := 12) rfl rfl) (fl_X3_arrival_1 (j := 13) rfl rfl) (fl_X3_arrival_1 (j := 14) rfl rfl) rfl
theorem dX3_arrival_79 : decode cX3_arrival 79 = .ok (.iload_n 3, 1) := fq1_29 (fl_X3_arrival_1 (j := 15) rfl rfl)
theorem dX3_arrival_80 : decode cX3_arrival 80 = .ok (.iload 6, 2) := fq2_21 (fl_X3_arrival_1 (j := 16) rfl rfl) (fl_X3_arrival_1 (j := 17) rfl rfl) rfl
theorem dX3_arrival_82 : decode cX3_arrival 82 = .ok (.invokevirtual 30, 3) := fq3_182 (fl_X3_arrival_1 (j := 18) rfl rfl) (fl_X3_arrival_1 (j := 19) rfl rfl) (fl_X3_arrival_1 (j := 20) rfl rfl) rfl
theorem dX3_arrival_85 : decode cX3_arrival 85 = .ok (.invokevirtual 35, 3) := fq3_182 (fl_X3_arrival_1 (j := 21) rfl rfl) (fl_X3_arrival_1 (j := 22) rfl rfl) (fl_X3_arrival_1 (j := 23) rfl rfl) rfl
theorem dX3_arrival_88 : decode cX3_arrival 88 = .ok (.iload 6, 2) := fq2_21 (fl_X3_arrival_1 (j := 24) rfl rfl) (fl_X3_arrival_1 (j := 25) rfl rfl) rfl
theorem dX3_arrival_90 : decode cX3_arrival 90 = .ok (.iload_n 2, 1) := fq1_28 (fl_X3_arrival_1 (j := 26) rfl rfl)
theorem dX3_arrival_91 : decode cX3_arrival 91 = .ok (.isub, 1) := fq1_100 (fl_X3_arrival_1 (j := 27) rfl rfl)
theorem dX3_arrival_92 : decode cX3_arrival 92 = .ok (.if_icmp .le 9, 3) := fq3_164 (fl_X3_arrival_1 (j := 28) rfl rfl) (fl_X3_arrival_1 (j := 29) rfl rfl) (fl_X3_arrival_1 (j := 30) rfl rfl) (s2p rfl (bl rfl))
theorem dX3_arrival_95 : decode cX3_arrival 95 = .ok (.iinc 6 1, 3) := fq3_132 (fl_X3_arrival_1 (j := 31) rfl rfl) (fl_X3_arrival_1 (j := 32) rfl rfl) (fl_X3_arrival_1 (j := 33) rfl rfl) rfl (s1p rfl (bl rfl))
theorem dX3_arrival_98 : decode cX3_arrival 98 = .ok (.goto (-40), 3) := fq3_167 (fl_X3_arrival_1 (j := 34) rfl rfl) (fl_X3_arrival_1 (j := 35) rfl rfl) (fl_X3_arrival_1 (j := 36) rfl rfl) (by decide)
theorem dX3_arrival_101 : decode cX3_arrival 101 = .ok (.aload_n 0, 1) := fq1_42 (fl_X3_arrival_1 (j := 37) rfl rfl)
theorem dX3_arrival_102 : decode cX3_arrival 102 = .ok (.getfield 19, 3) := fq3_180 (fl_X3_arrival_1 (j := 38) rfl rfl) (fl_X3_arrival_1 (j := 39) rfl rfl) (fl_X3_arrival_1 (j := 40) rfl rfl) rfl
theorem dX3_arrival_105 : decode cX3_arrival 105 = .ok (.iload 4, 2) := fq2_21 (fl_X3_arrival_1 (j := 41) rfl rfl) (fl_X3_arrival_1 (j := 42) rfl rfl) rfl
theorem dX3_arrival_107 : decode cX3_arrival 107 = .ok (.aload_n 0, 1) := fq1_42 (fl_X3_arrival_1 (j := 43) rfl rfl)
theorem dX3_arrival_108 : decode cX3_arrival 108 = .ok (.getfield 11, 3) := fq3_180 (fl_X3_arrival_1 (j := 44) rfl rfl) (fl_X3_arrival_1 (j := 45) rfl rfl) (fl_X3_arrival_1 (j := 46) rfl rfl) rfl
theorem dX3_arrival_111 : decode cX3_arrival 111 = .ok (.iload_n 1, 1) := fq1_27 (fl_X3_arrival_1 (j := 47) rfl rfl)
theorem dX3_arrival_112 : decode cX3_arrival 112 = .ok (.iload_n 3, 1) := fq1_29 (fl_X3_arrival_1 (j := 48) rfl rfl)
theorem dX3_arrival_113 : decode cX3_arrival 113 = .ok (.iload_n 2, 1) := fq1_28 (fl_X3_arrival_1 (j := 49) rfl rfl)
theorem dX3_arrival_114 : decode cX3_arrival 114 = .ok (.invokevirtual 39, 3) := fq3_182 (fl_X3_arrival_1 (j := 50) rfl rfl) (fl_X3_arrival_1 (j := 51) rfl rfl) (fl_X3_arrival_1 (j := 52) rfl rfl) rfl
theorem dX3_arrival_117 : decode cX3_arrival 117 = .ok (.ifCond .eq 7, 3) := fq3_153 (fl_X3_arrival_1 (j := 53) rfl rfl) (fl_X3_arrival_1 (j := 54) rfl rfl) (fl_X3_arrival_1 (j := 55) rfl rfl) (s2p rfl (bl rfl))
theorem dX3_arrival_120 : decode cX3_arrival 120 = .ok (.iconst (-1), 1) := fq1_2 (fl_X3_arrival_1 (j := 56) rfl rfl)
theorem dX3_arrival_121 : decode cX3_arrival 121 = .ok (.goto 5, 3) := fq3_167 (fl_X3_arrival_1 (j := 57) rfl rfl) (fl_X3_arrival_1 (j := 58) rfl rfl) (fl_X3_arrival_1 (j := 59) rfl rfl) (s2p rfl (bl rfl))
theorem dX3_arrival_124 : decode cX3_arrival 124 = .ok (.iload 6, 2) := fq2_21 (fl_X3_arrival_1 (j := 60) rfl rfl) (fl_X3_arrival_1 (j := 61) rfl rfl) rfl
theorem dX3_arrival_126 : decode cX3_arrival 126 = .ok (.iastore, 1) := fq1_79 (fl_X3_arrival_1 (j := 62) rfl rfl)
theorem dX3_arrival_127 : decode cX3_arrival 127 = .ok (.aload_n 0, 1) := fq1_42 (fl_X3_arrival_1 (j := 63) rfl rfl)
def fb_X3_arrival_2 : List UInt8 := [0xb4, 0x00, 0x13, 0x15, 0x04, 0x2e, 0xac]
theorem fl_X3_arrival_2 {p j : Nat} {b : UInt8} (e : p = 128 + j) (h : fb_X3_arrival_2[j]? = some b) : cX3_arrival.data.toList[p]? = some b := fq_l (n := 64) (show (cX3_arrival.data.toList.drop 128).take 64 = fb_X3_arrival_2 by decide +kernel) e h
theorem dX3_arrival_128 : decode cX3_arrival 128 = .ok (.getfield 19, 3) := fq3_180 (fl_X3_arrival_2 (j := 0) rfl rfl) (fl_X3_arrival_2 (j := 1) rfl rfl) (fl_X3_arrival_2 (j := 2) rfl rfl) rfl
theorem dX3_arrival_131 : decode cX3_arrival 131 = .ok (.iload 4, 2) := fq2_21 (fl_X3_arrival_2 (j := 3) rfl rfl) (fl_X3_arrival_2 (j := 4) rfl rfl) rfl
theorem dX3_arrival_133 : decode cX3_arrival 133 = .ok (.iaload, 1) := fq1_46 (fl_X3_arrival_2 (j := 5) rfl rfl)
theorem dX3_arrival_134 : decode cX3_arrival 134 = .ok (.ireturn, 1) := fq1_172 (fl_X3_arrival_2 (j := 6) rfl rfl)
def fb_X3_openedRow_0 : List UInt8 := [0x1b, 0x10, 0x06, 0x68, 0x1c, 0x60, 0x3e, 0x1d, 0x11, 0x01, 0x91, 0x68, 0x36, 0x04, 0x2a, 0xb4, 0x00, 0x13, 0xc6, 0x00, 0x0a, 0x2a, 0xb4, 0x00, 0x17, 0xc7, 0x00, 0x15, 0x2a, 0x11, 0x38, 0x64, 0xbc, 0x0a, 0xb5, 0x00, 0x13, 0x2a, 0x11, 0x38, 0x64, 0xbc, 0x0a, 0xb5, 0x00, 0x17, 0x2a, 0xb4, 0x00, 0x0f, 0x1d, 0x7b, 0x0a, 0x7f, 0x09, 0x94, 0x9a, 0x00, 0x36, 0x2a, 0x59, 0xb4, 0x00, 0x0f]
theorem fl_X3_openedRow_0 {p j : Nat} {b : UInt8} (e : p = 0 + j) (h : fb_X3_openedRow_0[j]? = some b) : cX3_openedRow.data.toList[p]? = some b := fq_l (n := 64) (show (cX3_openedRow.data.toList.drop 0).take 64 = fb_X3_openedRow_0 by decide +kernel) e h
theorem dX3_openedRow_0 : decode cX3_openedRow 0 = .ok (.iload_n 1, 1) := fq1_27 (fl_X3_openedRow_0 (j := 0) rfl rfl)
theorem dX3_openedRow_1 : decode cX3_openedRow 1 = .ok (.bipush 6, 2) := fq2_16 (fl_X3_openedRow_0 (j := 1) rfl rfl) (fl_X3_openedRow_0 (j := 2) rfl rfl) (s1p rfl (bl rfl))
theorem dX3_openedRow_3 : decode cX3_openedRow 3 = .ok (.imul, 1) := fq1_104 (fl_X3_openedRow_0 (j := 3) rfl rfl)
theorem dX3_openedRow_4 : decode cX3_openedRow 4 = .ok (.iload_n 2, 1) := fq1_28 (fl_X3_openedRow_0 (j := 4) rfl rfl)
theorem dX3_openedRow_5 : decode cX3_openedRow 5 = .ok (.iadd, 1) := fq1_96 (fl_X3_openedRow_0 (j := 5) rfl rfl)
theorem dX3_openedRow_6 : decode cX3_openedRow 6 = .ok (.istore_n 3, 1) := fq1_62 (fl_X3_openedRow_0 (j := 6) rfl rfl)
theorem dX3_openedRow_7 : decode cX3_openedRow 7 = .ok (.iload_n 3, 1) := fq1_29 (fl_X3_openedRow_0 (j := 7) rfl rfl)
theorem dX3_openedRow_8 : decode cX3_openedRow 8 = .ok (.sipush 401, 3) := fq3_17 (fl_X3_openedRow_0 (j := 8) rfl rfl) (fl_X3_openedRow_0 (j := 9) rfl rfl) (fl_X3_openedRow_0 (j := 10) rfl rfl) (s2p rfl (bl rfl))
theorem dX3_openedRow_11 : decode cX3_openedRow 11 = .ok (.imul, 1) := fq1_104 (fl_X3_openedRow_0 (j := 11) rfl rfl)
theorem dX3_openedRow_12 : decode cX3_openedRow 12 = .ok (.istore 4, 2) := fq2_54 (fl_X3_openedRow_0 (j := 12) rfl rfl) (fl_X3_openedRow_0 (j := 13) rfl rfl) rfl
theorem dX3_openedRow_14 : decode cX3_openedRow 14 = .ok (.aload_n 0, 1) := fq1_42 (fl_X3_openedRow_0 (j := 14) rfl rfl)
theorem dX3_openedRow_15 : decode cX3_openedRow 15 = .ok (.getfield 19, 3) := fq3_180 (fl_X3_openedRow_0 (j := 15) rfl rfl) (fl_X3_openedRow_0 (j := 16) rfl rfl) (fl_X3_openedRow_0 (j := 17) rfl rfl) rfl
theorem dX3_openedRow_18 : decode cX3_openedRow 18 = .ok (.ifnull 10, 3) := fq3_198 (fl_X3_openedRow_0 (j := 18) rfl rfl) (fl_X3_openedRow_0 (j := 19) rfl rfl) (fl_X3_openedRow_0 (j := 20) rfl rfl) (s2p rfl (bl rfl))
theorem dX3_openedRow_21 : decode cX3_openedRow 21 = .ok (.aload_n 0, 1) := fq1_42 (fl_X3_openedRow_0 (j := 21) rfl rfl)
theorem dX3_openedRow_22 : decode cX3_openedRow 22 = .ok (.getfield 23, 3) := fq3_180 (fl_X3_openedRow_0 (j := 22) rfl rfl) (fl_X3_openedRow_0 (j := 23) rfl rfl) (fl_X3_openedRow_0 (j := 24) rfl rfl) rfl
theorem dX3_openedRow_25 : decode cX3_openedRow 25 = .ok (.ifnonnull 21, 3) := fq3_199 (fl_X3_openedRow_0 (j := 25) rfl rfl) (fl_X3_openedRow_0 (j := 26) rfl rfl) (fl_X3_openedRow_0 (j := 27) rfl rfl) (s2p rfl (bl rfl))
theorem dX3_openedRow_28 : decode cX3_openedRow 28 = .ok (.aload_n 0, 1) := fq1_42 (fl_X3_openedRow_0 (j := 28) rfl rfl)
theorem dX3_openedRow_29 : decode cX3_openedRow 29 = .ok (.sipush 14436, 3) := fq3_17 (fl_X3_openedRow_0 (j := 29) rfl rfl) (fl_X3_openedRow_0 (j := 30) rfl rfl) (fl_X3_openedRow_0 (j := 31) rfl rfl) (s2p rfl (bl rfl))
theorem dX3_openedRow_32 : decode cX3_openedRow 32 = .ok (.newarray .int, 2) := by decide +kernel
theorem dX3_openedRow_34 : decode cX3_openedRow 34 = .ok (.putfield 19, 3) := fq3_181 (fl_X3_openedRow_0 (j := 34) rfl rfl) (fl_X3_openedRow_0 (j := 35) rfl rfl) (fl_X3_openedRow_0 (j := 36) rfl rfl) rfl
theorem dX3_openedRow_37 : decode cX3_openedRow 37 = .ok (.aload_n 0, 1) := fq1_42 (fl_X3_openedRow_0 (j := 37) rfl rfl)
theorem dX3_openedRow_38 : decode cX3_openedRow 38 = .ok (.sipush 14436, 3) := fq3_17 (fl_X3_openedRow_0 (j := 38) rfl rfl) (fl_X3_openedRow_0 (j := 39) rfl rfl) (fl_X3_openedRow_0 (j := 40) rfl rfl) (s2p rfl (bl rfl))
theorem dX3_openedRow_41 : decode cX3_openedRow 41 = .ok (.newarray .int, 2) := by decide +kernel
theorem dX3_openedRow_43 : decode cX3_openedRow 43 = .ok (.putfield 23, 3) := fq3_181 (fl_X3_openedRow_0 (j := 43) rfl rfl) (fl_X3_openedRow_0 (j := 44) rfl rfl) (fl_X3_openedRow_0 (j := 45) rfl rfl) rfl
theorem dX3_openedRow_46 : decode cX3_openedRow 46 = .ok (.aload_n 0, 1) := fq1_42 (fl_X3_openedRow_0 (j := 46) rfl rfl)
theorem dX3_openedRow_47 : decode cX3_openedRow 47 = .ok (.getfield 15, 3) := fq3_180 (fl_X3_openedRow_0 (j := 47) rfl rfl) (fl_X3_openedRow_0 (j := 48) rfl rfl) (fl_X3_openedRow_0 (j := 49) rfl rfl) rfl
theorem dX3_openedRow_50 : decode cX3_openedRow 50 = .ok (.iload_n 3, 1) := fq1_29 (fl_X3_openedRow_0 (j := 50) rfl rfl)
theorem dX3_openedRow_51 : decode cX3_openedRow 51 = .ok (.lshr, 1) := fq1_123 (fl_X3_openedRow_0 (j := 51) rfl rfl)
theorem dX3_openedRow_52 : decode cX3_openedRow 52 = .ok (.lconst 1, 1) := fq1_10 (fl_X3_openedRow_0 (j := 52) rfl rfl)
theorem dX3_openedRow_53 : decode cX3_openedRow 53 = .ok (.land, 1) := fq1_127 (fl_X3_openedRow_0 (j := 53) rfl rfl)
theorem dX3_openedRow_54 : decode cX3_openedRow 54 = .ok (.lconst 0, 1) := fq1_9 (fl_X3_openedRow_0 (j := 54) rfl rfl)
theorem dX3_openedRow_55 : decode cX3_openedRow 55 = .ok (.lcmp, 1) := fq1_148 (fl_X3_openedRow_0 (j := 55) rfl rfl)
theorem dX3_openedRow_56 : decode cX3_openedRow 56 = .ok (.ifCond .ne 54, 3) := fq3_154 (fl_X3_openedRow_0 (j := 56) rfl rfl) (fl_X3_openedRow_0 (j := 57) rfl rfl) (fl_X3_openedRow_0 (j := 58) rfl rfl) (s2p rfl (bl rfl))
theorem dX3_openedRow_59 : decode cX3_openedRow 59 = .ok (.aload_n 0, 1) := fq1_42 (fl_X3_openedRow_0 (j := 59) rfl rfl)
theorem dX3_openedRow_60 : decode cX3_openedRow 60 = .ok (.dup, 1) := fq1_89 (fl_X3_openedRow_0 (j := 60) rfl rfl)
theorem dX3_openedRow_61 : decode cX3_openedRow 61 = .ok (.getfield 15, 3) := fq3_180 (fl_X3_openedRow_0 (j := 61) rfl rfl) (fl_X3_openedRow_0 (j := 62) rfl rfl) (fl_X3_openedRow_0 (j := 63) rfl rfl) rfl
def fb_X3_openedRow_1 : List UInt8 := [0x0a, 0x1d, 0x79, 0x81, 0xb5, 0x00, 0x0f, 0x15, 0x04, 0x36, 0x05, 0x15, 0x05, 0x15, 0x04, 0x11, 0x01, 0x91, 0x60, 0xa2, 0x00, 0x1b, 0x2a, 0xb4, 0x00, 0x13, 0x15, 0x05, 0x10, 0xfe, 0x4f, 0x2a, 0xb4, 0x00, 0x17, 0x15, 0x05, 0x10, 0xfe, 0x4f, 0x84, 0x05, 0x01, 0xa7, 0xff, 0xe0, 0x15, 0x04, 0xac]
theorem fl_X3_openedRow_1 {p j : Nat} {b : UInt8} (e : p = 64 + j) (h : fb_X3_openedRow_1[j]? = some b) : cX3_openedRow.data.toList[p]? = some b := fq_l (n := 64) (show (cX3_openedRow.data.toList.drop 64).take 64 = fb_X3_openedRow_1 by decide +kernel) e h
theorem dX3_openedRow_64 : decode cX3_openedRow 64 = .ok (.lconst 1, 1) := fq1_10 (fl_X3_openedRow_1 (j := 0) rfl rfl)
theorem dX3_openedRow_65 : decode cX3_openedRow 65 = .ok (.iload_n 3, 1) := fq1_29 (fl_X3_openedRow_1 (j := 1) rfl rfl)
theorem dX3_openedRow_66 : decode cX3_openedRow 66 = .ok (.lshl, 1) := fq1_121 (fl_X3_openedRow_1 (j := 2) rfl rfl)
theorem dX3_openedRow_67 : decode cX3_openedRow 67 = .ok (.lor, 1) := fq1_129 (fl_X3_openedRow_1 (j := 3) rfl rfl)
theorem dX3_openedRow_68 : decode cX3_openedRow 68 = .ok (.putfield 15, 3) := fq3_181 (fl_X3_openedRow_1 (j := 4) rfl rfl) (fl_X3_openedRow_1 (j := 5) rfl rfl) (fl_X3_openedRow_1 (j := 6) rfl rfl) rfl
theorem dX3_openedRow_71 : decode cX3_openedRow 71 = .ok (.iload 4, 2) := fq2_21 (fl_X3_openedRow_1 (j := 7) rfl rfl) (fl_X3_openedRow_1 (j := 8) rfl rfl) rfl
theorem dX3_openedRow_73 : decode cX3_openedRow 73 = .ok (.istore 5, 2) := fq2_54 (fl_X3_openedRow_1 (j := 9) rfl rfl) (fl_X3_openedRow_1 (j := 10) rfl rfl) rfl
theorem dX3_openedRow_75 : decode cX3_openedRow 75 = .ok (.iload 5, 2) := fq2_21 (fl_X3_openedRow_1 (j := 11) rfl rfl) (fl_X3_openedRow_1 (j := 12) rfl rfl) rfl
theorem dX3_openedRow_77 : decode cX3_openedRow 77 = .ok (.iload 4, 2) := fq2_21 (fl_X3_openedRow_1 (j := 13) rfl rfl) (fl_X3_openedRow_1 (j := 14) rfl rfl) rfl
theorem dX3_openedRow_79 : decode cX3_openedRow 79 = .ok (.sipush 401, 3) := fq3_17 (fl_X3_openedRow_1 (j := 15) rfl rfl) (fl_X3_openedRow_1 (j := 16) rfl rfl) (fl_X3_openedRow_1 (j := 17) rfl rfl) (s2p rfl (bl rfl))
theorem dX3_openedRow_82 : decode cX3_openedRow 82 = .ok (.iadd, 1) := fq1_96 (fl_X3_openedRow_1 (j := 18) rfl rfl)
theorem dX3_openedRow_83 : decode cX3_openedRow 83 = .ok (.if_icmp .ge 27, 3) := fq3_162 (fl_X3_openedRow_1 (j := 19) rfl rfl) (fl_X3_openedRow_1 (j := 20) rfl rfl) (fl_X3_openedRow_1 (j := 21) rfl rfl) (s2p rfl (bl rfl))
theorem dX3_openedRow_86 : decode cX3_openedRow 86 = .ok (.aload_n 0, 1) := fq1_42 (fl_X3_openedRow_1 (j := 22) rfl rfl)
theorem dX3_openedRow_87 : decode cX3_openedRow 87 = .ok (.getfield 19, 3) := fq3_180 (fl_X3_openedRow_1 (j := 23) rfl rfl) (fl_X3_openedRow_1 (j := 24) rfl rfl) (fl_X3_openedRow_1 (j := 25) rfl rfl) rfl
theorem dX3_openedRow_90 : decode cX3_openedRow 90 = .ok (.iload 5, 2) := fq2_21 (fl_X3_openedRow_1 (j := 26) rfl rfl) (fl_X3_openedRow_1 (j := 27) rfl rfl) rfl
theorem dX3_openedRow_92 : decode cX3_openedRow 92 = .ok (.bipush (-2), 2) := fq2_16 (fl_X3_openedRow_1 (j := 28) rfl rfl) (fl_X3_openedRow_1 (j := 29) rfl rfl) (by decide)
theorem dX3_openedRow_94 : decode cX3_openedRow 94 = .ok (.iastore, 1) := fq1_79 (fl_X3_openedRow_1 (j := 30) rfl rfl)
theorem dX3_openedRow_95 : decode cX3_openedRow 95 = .ok (.aload_n 0, 1) := fq1_42 (fl_X3_openedRow_1 (j := 31) rfl rfl)
theorem dX3_openedRow_96 : decode cX3_openedRow 96 = .ok (.getfield 23, 3) := fq3_180 (fl_X3_openedRow_1 (j := 32) rfl rfl) (fl_X3_openedRow_1 (j := 33) rfl rfl) (fl_X3_openedRow_1 (j := 34) rfl rfl) rfl
theorem dX3_openedRow_99 : decode cX3_openedRow 99 = .ok (.iload 5, 2) := fq2_21 (fl_X3_openedRow_1 (j := 35) rfl rfl) (fl_X3_openedRow_1 (j := 36) rfl rfl) rfl
theorem dX3_openedRow_101 : decode cX3_openedRow 101 = .ok (.bipush (-2), 2) := fq2_16 (fl_X3_openedRow_1 (j := 37) rfl rfl) (fl_X3_openedRow_1 (j := 38) rfl rfl) (by decide)
theorem dX3_openedRow_103 : decode cX3_openedRow 103 = .ok (.iastore, 1) := fq1_79 (fl_X3_openedRow_1 (j := 39) rfl rfl)
theorem dX3_openedRow_104 : decode cX3_openedRow 104 = .ok (.iinc 5 1, 3) := fq3_132 (fl_X3_openedRow_1 (j := 40) rfl rfl) (fl_X3_openedRow_1 (j := 41) rfl rfl) (fl_X3_openedRow_1 (j := 42) rfl rfl) rfl (s1p rfl (bl rfl))
theorem dX3_openedRow_107 : decode cX3_openedRow 107 = .ok (.goto (-32), 3) := fq3_167 (fl_X3_openedRow_1 (j := 43) rfl rfl) (fl_X3_openedRow_1 (j := 44) rfl rfl) (fl_X3_openedRow_1 (j := 45) rfl rfl) (by decide)
theorem dX3_openedRow_110 : decode cX3_openedRow 110 = .ok (.iload 4, 2) := fq2_21 (fl_X3_openedRow_1 (j := 46) rfl rfl) (fl_X3_openedRow_1 (j := 47) rfl rfl) rfl
theorem dX3_openedRow_112 : decode cX3_openedRow 112 = .ok (.ireturn, 1) := fq1_172 (fl_X3_openedRow_1 (j := 48) rfl rfl)
