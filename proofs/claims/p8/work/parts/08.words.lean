theorem qf_X0_9 : Cond.fieldLink RX0 9 "SlowWorlds$Course" "worn" "[I" ∈ gw := tbt (tb1 (List.mem_of_getElem? (i := 90) rfl)) rfl
theorem iX0 : ∀ w ∈ u_ws RX0 TX0 6, w ∈ gw := by
  intro w hw
  obtain ⟨k, hk, rfl⟩ := List.mem_map.mp hw
  have hk := List.mem_range.mp hk
  match k, hk with
  | 0, _ => exact tbt (tb1 (List.mem_of_getElem? (i := 110) rfl)) rfl
  | 1, _ => exact tbt (tb1 (List.mem_of_getElem? (i := 112) rfl)) rfl
  | 2, _ => exact tbt (tb1 (List.mem_of_getElem? (i := 114) rfl)) rfl
  | 3, _ => exact tbt (tb1 (List.mem_of_getElem? (i := 116) rfl)) rfl
  | 4, _ => exact tbt (tb1 (List.mem_of_getElem? (i := 118) rfl)) rfl
  | 5, _ => exact tbt (tb1 (List.mem_of_getElem? (i := 120) rfl)) rfl
  | (k + 6), hk => exact absurd hk (by omega)
theorem qf_X0_24 : Cond.fieldLink RX0 24 "SlowWorlds$Course" "week" "I" ∈ gw := tbt (tb1 (List.mem_of_getElem? (i := 103) rfl)) rfl
theorem qf_X0_21 : Cond.fieldLink RX0 21 "SlowWorlds$Course" "known" "[I" ∈ gw := tbt (tb1 (List.mem_of_getElem? (i := 101) rfl)) rfl
theorem qc_X0_firstKnown : Cond.code yX0_firstKnown cX0_firstKnown 3 (some .int) ∈ gw := tbt (tb5 (List.mem_of_getElem? (i := 0) rfl)) rfl
theorem qi_yX0_firstKnown : Cond.instanceMethod yX0_firstKnown ∈ gw := tbt (tb4 (List.mem_of_getElem? (i := 238) rfl)) rfl
theorem qs_X0_firstKnown : Cond.selects (yX0_firstKnown).cls yX0_firstKnown yX0_firstKnown ∈ gw := tbt (tb4 (List.mem_of_getElem? (i := 239) rfl)) rfl
theorem qz_X0 : Cond.initialized RX0 ∈ gw := tbt (tb1 (List.mem_of_getElem? (i := 4) rfl)) rfl
theorem ci_X0_firstKnown : CIv yX0_firstKnown cX0_firstKnown 3 (some .int) 2 := ⟨qc_X0_firstKnown, qi_yX0_firstKnown, qs_X0_firstKnown, qz_X0, by decide +kernel⟩
theorem qm_X0_37 : Cond.methodLink RX0 37 yX0_firstKnown ∈ gw := tbt (tb5 (List.mem_of_getElem? (i := 59) rfl)) rfl
theorem qf_X0_28 : Cond.fieldLink RX0 28 "SlowWorlds$Course" "orders" "I" ∈ gw := tbt (tb1 (List.mem_of_getElem? (i := 106) rfl)) rfl
theorem qf_X7_15 : Cond.fieldLink RX7 15 "SlowWorlds$Tray" "many" "I" ∈ gw := tbt (tb2 (List.mem_of_getElem? (i := 187) rfl)) rfl
theorem iX7 : ∀ w ∈ u_ws RX7 TX7 3, w ∈ gw := by
  intro w hw
  obtain ⟨k, hk, rfl⟩ := List.mem_map.mp hw
  have hk := List.mem_range.mp hk
  match k, hk with
  | 0, _ => exact tbt (tb2 (List.mem_of_getElem? (i := 189) rfl)) rfl
  | 1, _ => exact tbt (tb2 (List.mem_of_getElem? (i := 191) rfl)) rfl
  | 2, _ => exact tbt (tb2 (List.mem_of_getElem? (i := 193) rfl)) rfl
  | (k + 3), hk => exact absurd hk (by omega)
theorem qf_X7_19 : Cond.fieldLink RX7 19 "SlowWorlds$Tray" "sort" "I" ∈ gw := tbt (tb2 (List.mem_of_getElem? (i := 185) rfl)) rfl
theorem qf_X7_9 : Cond.fieldLink RX7 9 "SlowWorlds$Tray" "numbers" "[J" ∈ gw := tbt (tb2 (List.mem_of_getElem? (i := 183) rfl)) rfl
theorem qf_X9_35 : Cond.fieldLink RX9 35 "SlowWorlds$Years" "rows" "I" ∈ gw := tbt (tb1 (List.mem_of_getElem? (i := 149) rfl)) rfl
theorem iX9 : ∀ w ∈ u_ws RX9 TX9 8, w ∈ gw := by
  intro w hw
  obtain ⟨k, hk, rfl⟩ := List.mem_map.mp hw
  have hk := List.mem_range.mp hk
  match k, hk with
  | 0, _ => exact tbt (tb1 (List.mem_of_getElem? (i := 151) rfl)) rfl
  | 1, _ => exact tbt (tb1 (List.mem_of_getElem? (i := 153) rfl)) rfl
  | 2, _ => exact tbt (tb1 (List.mem_of_getElem? (i := 155) rfl)) rfl
  | 3, _ => exact tbt (tb1 (List.mem_of_getElem? (i := 157) rfl)) rfl
  | 4, _ => exact tbt (tb1 (List.mem_of_getElem? (i := 159) rfl)) rfl
  | 5, _ => exact tbt (tb1 (List.mem_of_getElem? (i := 161) rfl)) rfl
  | 6, _ => exact tbt (tb1 (List.mem_of_getElem? (i := 163) rfl)) rfl
  | 7, _ => exact tbt (tb1 (List.mem_of_getElem? (i := 165) rfl)) rfl
  | (k + 8), hk => exact absurd hk (by omega)
theorem qf_X9_11 : Cond.fieldLink RX9 11 "SlowWorlds$Years" "words" "[I" ∈ gw := tbt (tb1 (List.mem_of_getElem? (i := 129) rfl)) rfl
def fb_X0_dress_0 : List UInt8 := [0x2a, 0xb4, 0x00, 0x09, 0x2a, 0xb4, 0x00, 0x18, 0x2a, 0xb4, 0x00, 0x09, 0x2a, 0xb4, 0x00, 0x18, 0x2e, 0x04, 0x1b, 0x78, 0x02, 0x82, 0x7e, 0x1c, 0x1b, 0x78, 0x80, 0x4f, 0xb1]
theorem fl_X0_dress_0 {p j : Nat} {b : UInt8} (e : p = 0 + j) (h : fb_X0_dress_0[j]? = some b) : cX0_dress.data.toList[p]? = some b := fq_l (n := 64) (show (cX0_dress.data.toList.drop 0).take 64 = fb_X0_dress_0 by decide +kernel) e h
theorem dX0_dress_0 : decode cX0_dress 0 = .ok (.aload_n 0, 1) := fq1_42 (fl_X0_dress_0 (j := 0) rfl rfl)
theorem dX0_dress_1 : decode cX0_dress 1 = .ok (.getfield 9, 3) := fq3_180 (fl_X0_dress_0 (j := 1) rfl rfl) (fl_X0_dress_0 (j := 2) rfl rfl) (fl_X0_dress_0 (j := 3) rfl rfl) (by decide)
theorem dX0_dress_4 : decode cX0_dress 4 = .ok (.aload_n 0, 1) := fq1_42 (fl_X0_dress_0 (j := 4) rfl rfl)
theorem dX0_dress_5 : decode cX0_dress 5 = .ok (.getfield 24, 3) := fq3_180 (fl_X0_dress_0 (j := 5) rfl rfl) (fl_X0_dress_0 (j := 6) rfl rfl) (fl_X0_dress_0 (j := 7) rfl rfl) (by decide)
theorem dX0_dress_8 : decode cX0_dress 8 = .ok (.aload_n 0, 1) := fq1_42 (fl_X0_dress_0 (j := 8) rfl rfl)
theorem dX0_dress_9 : decode cX0_dress 9 = .ok (.getfield 9, 3) := fq3_180 (fl_X0_dress_0 (j := 9) rfl rfl) (fl_X0_dress_0 (j := 10) rfl rfl) (fl_X0_dress_0 (j := 11) rfl rfl) (by decide)
theorem dX0_dress_12 : decode cX0_dress 12 = .ok (.aload_n 0, 1) := fq1_42 (fl_X0_dress_0 (j := 12) rfl rfl)
theorem dX0_dress_13 : decode cX0_dress 13 = .ok (.getfield 24, 3) := fq3_180 (fl_X0_dress_0 (j := 13) rfl rfl) (fl_X0_dress_0 (j := 14) rfl rfl) (fl_X0_dress_0 (j := 15) rfl rfl) (by decide)
theorem dX0_dress_16 : decode cX0_dress 16 = .ok (.iaload, 1) := fq1_46 (fl_X0_dress_0 (j := 16) rfl rfl)
theorem dX0_dress_17 : decode cX0_dress 17 = .ok (.iconst 1, 1) := fq1_4 (fl_X0_dress_0 (j := 17) rfl rfl)
theorem dX0_dress_18 : decode cX0_dress 18 = .ok (.iload_n 1, 1) := fq1_27 (fl_X0_dress_0 (j := 18) rfl rfl)
theorem dX0_dress_19 : decode cX0_dress 19 = .ok (.ishl, 1) := fq1_120 (fl_X0_dress_0 (j := 19) rfl rfl)
theorem dX0_dress_20 : decode cX0_dress 20 = .ok (.iconst (-1), 1) := fq1_2 (fl_X0_dress_0 (j := 20) rfl rfl)
theorem dX0_dress_21 : decode cX0_dress 21 = .ok (.ixor, 1) := fq1_130 (fl_X0_dress_0 (j := 21) rfl rfl)
theorem dX0_dress_22 : decode cX0_dress 22 = .ok (.iand, 1) := fq1_126 (fl_X0_dress_0 (j := 22) rfl rfl)
theorem dX0_dress_23 : decode cX0_dress 23 = .ok (.iload_n 2, 1) := fq1_28 (fl_X0_dress_0 (j := 23) rfl rfl)
theorem dX0_dress_24 : decode cX0_dress 24 = .ok (.iload_n 1, 1) := fq1_27 (fl_X0_dress_0 (j := 24) rfl rfl)
theorem dX0_dress_25 : decode cX0_dress 25 = .ok (.ishl, 1) := fq1_120 (fl_X0_dress_0 (j := 25) rfl rfl)
theorem dX0_dress_26 : decode cX0_dress 26 = .ok (.ior, 1) := fq1_128 (fl_X0_dress_0 (j := 26) rfl rfl)
theorem dX0_dress_27 : decode cX0_dress 27 = .ok (.iastore, 1) := fq1_79 (fl_X0_dress_0 (j := 27) rfl rfl)
theorem dX0_dress_28 : decode cX0_dress 28 = .ok (.return_, 1) := fq1_177 (fl_X0_dress_0 (j := 28) rfl rfl)
def fb_X0_firstKnown_0 : List UInt8 := [0x2a, 0xb4, 0x00, 0x15, 0x1b, 0x10, 0x06, 0x68, 0x1c, 0x60, 0x2e, 0xac]
theorem fl_X0_firstKnown_0 {p j : Nat} {b : UInt8} (e : p = 0 + j) (h : fb_X0_firstKnown_0[j]? = some b) : cX0_firstKnown.data.toList[p]? = some b := fq_l (n := 64) (show (cX0_firstKnown.data.toList.drop 0).take 64 = fb_X0_firstKnown_0 by decide +kernel) e h
theorem dX0_firstKnown_0 : decode cX0_firstKnown 0 = .ok (.aload_n 0, 1) := fq1_42 (fl_X0_firstKnown_0 (j := 0) rfl rfl)
theorem dX0_firstKnown_1 : decode cX0_firstKnown 1 = .ok (.getfield 21, 3) := fq3_180 (fl_X0_firstKnown_0 (j := 1) rfl rfl) (fl_X0_firstKnown_0 (j := 2) rfl rfl) (fl_X0_firstKnown_0 (j := 3) rfl rfl) (by decide)
theorem dX0_firstKnown_4 : decode cX0_firstKnown 4 = .ok (.iload_n 1, 1) := fq1_27 (fl_X0_firstKnown_0 (j := 4) rfl rfl)
theorem dX0_firstKnown_5 : decode cX0_firstKnown 5 = .ok (.bipush 6, 2) := fq2_16 (fl_X0_firstKnown_0 (j := 5) rfl rfl) (fl_X0_firstKnown_0 (j := 6) rfl rfl) (by decide)
theorem dX0_firstKnown_7 : decode cX0_firstKnown 7 = .ok (.imul, 1) := fq1_104 (fl_X0_firstKnown_0 (j := 7) rfl rfl)
theorem dX0_firstKnown_8 : decode cX0_firstKnown 8 = .ok (.iload_n 2, 1) := fq1_28 (fl_X0_firstKnown_0 (j := 8) rfl rfl)
theorem dX0_firstKnown_9 : decode cX0_firstKnown 9 = .ok (.iadd, 1) := fq1_96 (fl_X0_firstKnown_0 (j := 9) rfl rfl)
theorem dX0_firstKnown_10 : decode cX0_firstKnown 10 = .ok (.iaload, 1) := fq1_46 (fl_X0_firstKnown_0 (j := 10) rfl rfl)
theorem dX0_firstKnown_11 : decode cX0_firstKnown 11 = .ok (.ireturn, 1) := fq1_172 (fl_X0_firstKnown_0 (j := 11) rfl rfl)
def fb_X0_knownAhead_0 : List UInt8 := [0x2a, 0x1b, 0x1c, 0xb6, 0x00, 0x25, 0x3e, 0x03, 0x36, 0x04, 0x03, 0x36, 0x05, 0x15, 0x05, 0x2a, 0xb4, 0x00, 0x1c, 0xa2, 0x00, 0x2d, 0x2a, 0x15, 0x05, 0x1c, 0xb6, 0x00, 0x25, 0x36, 0x06, 0x15, 0x06, 0x02, 0x9f, 0x00, 0x18, 0x15, 0x06, 0x1d, 0xa1, 0x00, 0x0f, 0x15, 0x06, 0x1d, 0xa0, 0x00, 0x0c, 0x15, 0x05, 0x1b, 0xa2, 0x00, 0x06, 0x84, 0x04, 0x01, 0x84, 0x05, 0x01, 0xa7, 0xff, 0xd0]
theorem fl_X0_knownAhead_0 {p j : Nat} {b : UInt8} (e : p = 0 + j) (h : fb_X0_knownAhead_0[j]? = some b) : cX0_knownAhead.data.toList[p]? = some b := fq_l (n := 64) (show (cX0_knownAhead.data.toList.drop 0).take 64 = fb_X0_knownAhead_0 by decide +kernel) e h
theorem dX0_knownAhead_0 : decode cX0_knownAhead 0 = .ok (.aload_n 0, 1) := fq1_42 (fl_X0_knownAhead_0 (j := 0) rfl rfl)
theorem dX0_knownAhead_1 : decode cX0_knownAhead 1 = .ok (.iload_n 1, 1) := fq1_27 (fl_X0_knownAhead_0 (j := 1) rfl rfl)
theorem dX0_knownAhead_2 : decode cX0_knownAhead 2 = .ok (.iload_n 2, 1) := fq1_28 (fl_X0_knownAhead_0 (j := 2) rfl rfl)
theorem dX0_knownAhead_3 : decode cX0_knownAhead 3 = .ok (.invokevirtual 37, 3) := fq3_182 (fl_X0_knownAhead_0 (j := 3) rfl rfl) (fl_X0_knownAhead_0 (j := 4) rfl rfl) (fl_X0_knownAhead_0 (j := 5) rfl rfl) (by decide)
theorem dX0_knownAhead_6 : decode cX0_knownAhead 6 = .ok (.istore_n 3, 1) := fq1_62 (fl_X0_knownAhead_0 (j := 6) rfl rfl)
theorem dX0_knownAhead_7 : decode cX0_knownAhead 7 = .ok (.iconst 0, 1) := fq1_3 (fl_X0_knownAhead_0 (j := 7) rfl rfl)
theorem dX0_knownAhead_8 : decode cX0_knownAhead 8 = .ok (.istore 4, 2) := fq2_54 (fl_X0_knownAhead_0 (j := 8) rfl rfl) (fl_X0_knownAhead_0 (j := 9) rfl rfl) (by decide)
theorem dX0_knownAhead_10 : decode cX0_knownAhead 10 = .ok (.iconst 0, 1) := fq1_3 (fl_X0_knownAhead_0 (j := 10) rfl rfl)
theorem dX0_knownAhead_11 : decode cX0_knownAhead 11 = .ok (.istore 5, 2) := fq2_54 (fl_X0_knownAhead_0 (j := 11) rfl rfl) (fl_X0_knownAhead_0 (j := 12) rfl rfl) (by decide)
theorem dX0_knownAhead_13 : decode cX0_knownAhead 13 = .ok (.iload 5, 2) := fq2_21 (fl_X0_knownAhead_0 (j := 13) rfl rfl) (fl_X0_knownAhead_0 (j := 14) rfl rfl) (by decide)
theorem dX0_knownAhead_15 : decode cX0_knownAhead 15 = .ok (.aload_n 0, 1) := fq1_42 (fl_X0_knownAhead_0 (j := 15) rfl rfl)
theorem dX0_knownAhead_16 : decode cX0_knownAhead 16 = .ok (.getfield 28, 3) := fq3_180 (fl_X0_knownAhead_0 (j := 16) rfl rfl) (fl_X0_knownAhead_0 (j := 17) rfl rfl) (fl_X0_knownAhead_0 (j := 18) rfl rfl) (by decide)
theorem dX0_knownAhead_19 : decode cX0_knownAhead 19 = .ok (.if_icmp .ge 45, 3) := fq3_162 (fl_X0_knownAhead_0 (j := 19) rfl rfl) (fl_X0_knownAhead_0 (j := 20) rfl rfl) (fl_X0_knownAhead_0 (j := 21) rfl rfl) (by decide)
theorem dX0_knownAhead_22 : decode cX0_knownAhead 22 = .ok (.aload_n 0, 1) := fq1_42 (fl_X0_knownAhead_0 (j := 22) rfl rfl)
theorem dX0_knownAhead_23 : decode cX0_knownAhead 23 = .ok (.iload 5, 2) := fq2_21 (fl_X0_knownAhead_0 (j := 23) rfl rfl) (fl_X0_knownAhead_0 (j := 24) rfl rfl) (by decide)
theorem dX0_knownAhead_25 : decode cX0_knownAhead 25 = .ok (.iload_n 2, 1) := fq1_28 (fl_X0_knownAhead_0 (j := 25) rfl rfl)
theorem dX0_knownAhead_26 : decode cX0_knownAhead 26 = .ok (.invokevirtual 37, 3) := fq3_182 (fl_X0_knownAhead_0 (j := 26) rfl rfl) (fl_X0_knownAhead_0 (j := 27) rfl rfl) (fl_X0_knownAhead_0 (j := 28) rfl rfl) (by decide)
theorem dX0_knownAhead_29 : decode cX0_knownAhead 29 = .ok (.istore 6, 2) := fq2_54 (fl_X0_knownAhead_0 (j := 29) rfl rfl) (fl_X0_knownAhead_0 (j := 30) rfl rfl) (by decide)
theorem dX0_knownAhead_31 : decode cX0_knownAhead 31 = .ok (.iload 6, 2) := fq2_21 (fl_X0_knownAhead_0 (j := 31) rfl rfl) (fl_X0_knownAhead_0 (j := 32) rfl rfl) (by decide)
theorem dX0_knownAhead_33 : decode cX0_knownAhead 33 = .ok (.iconst (-1), 1) := fq1_2 (fl_X0_knownAhead_0 (j := 33) rfl rfl)
theorem dX0_knownAhead_34 : decode cX0_knownAhead 34 = .ok (.if_icmp .eq 24, 3) := fq3_159 (fl_X0_knownAhead_0 (j := 34) rfl rfl) (fl_X0_knownAhead_0 (j := 35) rfl rfl) (fl_X0_knownAhead_0 (j := 36) rfl rfl) (by decide)
theorem dX0_knownAhead_37 : decode cX0_knownAhead 37 = .ok (.iload 6, 2) := fq2_21 (fl_X0_knownAhead_0 (j := 37) rfl rfl) (fl_X0_knownAhead_0 (j := 38) rfl rfl) (by decide)
theorem dX0_knownAhead_39 : decode cX0_knownAhead 39 = .ok (.iload_n 3, 1) := fq1_29 (fl_X0_knownAhead_0 (j := 39) rfl rfl)
theorem dX0_knownAhead_40 : decode cX0_knownAhead 40 = .ok (.if_icmp .lt 15, 3) := fq3_161 (fl_X0_knownAhead_0 (j := 40) rfl rfl) (fl_X0_knownAhead_0 (j := 41) rfl rfl) (fl_X0_knownAhead_0 (j := 42) rfl rfl) (by decide)
theorem dX0_knownAhead_43 : decode cX0_knownAhead 43 = .ok (.iload 6, 2) := fq2_21 (fl_X0_knownAhead_0 (j := 43) rfl rfl) (fl_X0_knownAhead_0 (j := 44) rfl rfl) (by decide)
theorem dX0_knownAhead_45 : decode cX0_knownAhead 45 = .ok (.iload_n 3, 1) := fq1_29 (fl_X0_knownAhead_0 (j := 45) rfl rfl)
theorem dX0_knownAhead_46 : decode cX0_knownAhead 46 = .ok (.if_icmp .ne 12, 3) := fq3_160 (fl_X0_knownAhead_0 (j := 46) rfl rfl) (fl_X0_knownAhead_0 (j := 47) rfl rfl) (fl_X0_knownAhead_0 (j := 48) rfl rfl) (by decide)
theorem dX0_knownAhead_49 : decode cX0_knownAhead 49 = .ok (.iload 5, 2) := fq2_21 (fl_X0_knownAhead_0 (j := 49) rfl rfl) (fl_X0_knownAhead_0 (j := 50) rfl rfl) (by decide)
theorem dX0_knownAhead_51 : decode cX0_knownAhead 51 = .ok (.iload_n 1, 1) := fq1_27 (fl_X0_knownAhead_0 (j := 51) rfl rfl)
theorem dX0_knownAhead_52 : decode cX0_knownAhead 52 = .ok (.if_icmp .ge 6, 3) := fq3_162 (fl_X0_knownAhead_0 (j := 52) rfl rfl) (fl_X0_knownAhead_0 (j := 53) rfl rfl) (fl_X0_knownAhead_0 (j := 54) rfl rfl) (by decide)
theorem dX0_knownAhead_55 : decode cX0_knownAhead 55 = .ok (.iinc 4 1, 3) := fq3_132 (fl_X0_knownAhead_0 (j := 55) rfl rfl) (fl_X0_knownAhead_0 (j := 56) rfl rfl) (fl_X0_knownAhead_0 (j := 57) rfl rfl) (by decide) (by decide)
theorem dX0_knownAhead_58 : decode cX0_knownAhead 58 = .ok (.iinc 5 1, 3) := fq3_132 (fl_X0_knownAhead_0 (j := 58) rfl rfl) (fl_X0_knownAhead_0 (j := 59) rfl rfl) (fl_X0_knownAhead_0 (j := 60) rfl rfl) (by decide) (by decide)
theorem dX0_knownAhead_61 : decode cX0_knownAhead 61 = .ok (.goto (-48), 3) := fq3_167 (fl_X0_knownAhead_0 (j := 61) rfl rfl) (fl_X0_knownAhead_0 (j := 62) rfl rfl) (fl_X0_knownAhead_0 (j := 63) rfl rfl) (by decide)
def fb_X0_knownAhead_1 : List UInt8 := [0x15, 0x04, 0xac]
theorem fl_X0_knownAhead_1 {p j : Nat} {b : UInt8} (e : p = 64 + j) (h : fb_X0_knownAhead_1[j]? = some b) : cX0_knownAhead.data.toList[p]? = some b := fq_l (n := 64) (show (cX0_knownAhead.data.toList.drop 64).take 64 = fb_X0_knownAhead_1 by decide +kernel) e h
theorem dX0_knownAhead_64 : decode cX0_knownAhead 64 = .ok (.iload 4, 2) := fq2_21 (fl_X0_knownAhead_1 (j := 0) rfl rfl) (fl_X0_knownAhead_1 (j := 1) rfl rfl) (by decide)
theorem dX0_knownAhead_66 : decode cX0_knownAhead 66 = .ok (.ireturn, 1) := fq1_172 (fl_X0_knownAhead_1 (j := 2) rfl rfl)
def fb_X0_turnRound_0 : List UInt8 := [0x2a, 0xb4, 0x00, 0x09, 0x2a, 0xb4, 0x00, 0x18, 0x5c, 0x2e, 0x04, 0x1b, 0x78, 0x82, 0x4f, 0xb1]
theorem fl_X0_turnRound_0 {p j : Nat} {b : UInt8} (e : p = 0 + j) (h : fb_X0_turnRound_0[j]? = some b) : cX0_turnRound.data.toList[p]? = some b := fq_l (n := 64) (show (cX0_turnRound.data.toList.drop 0).take 64 = fb_X0_turnRound_0 by decide +kernel) e h
theorem dX0_turnRound_0 : decode cX0_turnRound 0 = .ok (.aload_n 0, 1) := fq1_42 (fl_X0_turnRound_0 (j := 0) rfl rfl)
theorem dX0_turnRound_1 : decode cX0_turnRound 1 = .ok (.getfield 9, 3) := fq3_180 (fl_X0_turnRound_0 (j := 1) rfl rfl) (fl_X0_turnRound_0 (j := 2) rfl rfl) (fl_X0_turnRound_0 (j := 3) rfl rfl) (by decide)
theorem dX0_turnRound_4 : decode cX0_turnRound 4 = .ok (.aload_n 0, 1) := fq1_42 (fl_X0_turnRound_0 (j := 4) rfl rfl)
theorem dX0_turnRound_5 : decode cX0_turnRound 5 = .ok (.getfield 24, 3) := fq3_180 (fl_X0_turnRound_0 (j := 5) rfl rfl) (fl_X0_turnRound_0 (j := 6) rfl rfl) (fl_X0_turnRound_0 (j := 7) rfl rfl) (by decide)
theorem dX0_turnRound_8 : decode cX0_turnRound 8 = .ok (.dup2, 1) := fq1_92 (fl_X0_turnRound_0 (j := 8) rfl rfl)
theorem dX0_turnRound_9 : decode cX0_turnRound 9 = .ok (.iaload, 1) := fq1_46 (fl_X0_turnRound_0 (j := 9) rfl rfl)
theorem dX0_turnRound_10 : decode cX0_turnRound 10 = .ok (.iconst 1, 1) := fq1_4 (fl_X0_turnRound_0 (j := 10) rfl rfl)
theorem dX0_turnRound_11 : decode cX0_turnRound 11 = .ok (.iload_n 1, 1) := fq1_27 (fl_X0_turnRound_0 (j := 11) rfl rfl)
theorem dX0_turnRound_12 : decode cX0_turnRound 12 = .ok (.ishl, 1) := fq1_120 (fl_X0_turnRound_0 (j := 12) rfl rfl)
theorem dX0_turnRound_13 : decode cX0_turnRound 13 = .ok (.ixor, 1) := fq1_130 (fl_X0_turnRound_0 (j := 13) rfl rfl)
theorem dX0_turnRound_14 : decode cX0_turnRound 14 = .ok (.iastore, 1) := fq1_79 (fl_X0_turnRound_0 (j := 14) rfl rfl)
theorem dX0_turnRound_15 : decode cX0_turnRound 15 = .ok (.return_, 1) := fq1_177 (fl_X0_turnRound_0 (j := 15) rfl rfl)
def fb_X0_wornIn_0 : List UInt8 := [0x2a, 0xb4, 0x00, 0x09, 0x1c, 0x2e, 0x1b, 0x7a, 0x04, 0x7e, 0xac]
theorem fl_X0_wornIn_0 {p j : Nat} {b : UInt8} (e : p = 0 + j) (h : fb_X0_wornIn_0[j]? = some b) : cX0_wornIn.data.toList[p]? = some b := fq_l (n := 64) (show (cX0_wornIn.data.toList.drop 0).take 64 = fb_X0_wornIn_0 by decide +kernel) e h
theorem dX0_wornIn_0 : decode cX0_wornIn 0 = .ok (.aload_n 0, 1) := fq1_42 (fl_X0_wornIn_0 (j := 0) rfl rfl)
theorem dX0_wornIn_1 : decode cX0_wornIn 1 = .ok (.getfield 9, 3) := fq3_180 (fl_X0_wornIn_0 (j := 1) rfl rfl) (fl_X0_wornIn_0 (j := 2) rfl rfl) (fl_X0_wornIn_0 (j := 3) rfl rfl) (by decide)
theorem dX0_wornIn_4 : decode cX0_wornIn 4 = .ok (.iload_n 2, 1) := fq1_28 (fl_X0_wornIn_0 (j := 4) rfl rfl)
theorem dX0_wornIn_5 : decode cX0_wornIn 5 = .ok (.iaload, 1) := fq1_46 (fl_X0_wornIn_0 (j := 5) rfl rfl)
theorem dX0_wornIn_6 : decode cX0_wornIn 6 = .ok (.iload_n 1, 1) := fq1_27 (fl_X0_wornIn_0 (j := 6) rfl rfl)
theorem dX0_wornIn_7 : decode cX0_wornIn 7 = .ok (.ishr, 1) := fq1_122 (fl_X0_wornIn_0 (j := 7) rfl rfl)
theorem dX0_wornIn_8 : decode cX0_wornIn 8 = .ok (.iconst 1, 1) := fq1_4 (fl_X0_wornIn_0 (j := 8) rfl rfl)
theorem dX0_wornIn_9 : decode cX0_wornIn 9 = .ok (.iand, 1) := fq1_126 (fl_X0_wornIn_0 (j := 9) rfl rfl)
theorem dX0_wornIn_10 : decode cX0_wornIn 10 = .ok (.ireturn, 1) := fq1_172 (fl_X0_wornIn_0 (j := 10) rfl rfl)
def fb_X0_wornNow_0 : List UInt8 := [0x2a, 0xb4, 0x00, 0x09, 0x2a, 0xb4, 0x00, 0x18, 0x2e, 0xac]
theorem fl_X0_wornNow_0 {p j : Nat} {b : UInt8} (e : p = 0 + j) (h : fb_X0_wornNow_0[j]? = some b) : cX0_wornNow.data.toList[p]? = some b := fq_l (n := 64) (show (cX0_wornNow.data.toList.drop 0).take 64 = fb_X0_wornNow_0 by decide +kernel) e h
theorem dX0_wornNow_0 : decode cX0_wornNow 0 = .ok (.aload_n 0, 1) := fq1_42 (fl_X0_wornNow_0 (j := 0) rfl rfl)
theorem dX0_wornNow_1 : decode cX0_wornNow 1 = .ok (.getfield 9, 3) := fq3_180 (fl_X0_wornNow_0 (j := 1) rfl rfl) (fl_X0_wornNow_0 (j := 2) rfl rfl) (fl_X0_wornNow_0 (j := 3) rfl rfl) (by decide)
theorem dX0_wornNow_4 : decode cX0_wornNow 4 = .ok (.aload_n 0, 1) := fq1_42 (fl_X0_wornNow_0 (j := 4) rfl rfl)
theorem dX0_wornNow_5 : decode cX0_wornNow 5 = .ok (.getfield 24, 3) := fq3_180 (fl_X0_wornNow_0 (j := 5) rfl rfl) (fl_X0_wornNow_0 (j := 6) rfl rfl) (fl_X0_wornNow_0 (j := 7) rfl rfl) (by decide)
theorem dX0_wornNow_8 : decode cX0_wornNow 8 = .ok (.iaload, 1) := fq1_46 (fl_X0_wornNow_0 (j := 8) rfl rfl)
theorem dX0_wornNow_9 : decode cX0_wornNow 9 = .ok (.ireturn, 1) := fq1_172 (fl_X0_wornNow_0 (j := 9) rfl rfl)
def fb_X7_hasPlaces_0 : List UInt8 := [0x1c, 0x2a, 0xb4, 0x00, 0x0f, 0xa3, 0x00, 0x11, 0x1b, 0x2a, 0xb4, 0x00, 0x0f, 0x1c, 0x64, 0xa3, 0x00, 0x07, 0x04, 0xa7, 0x00, 0x04, 0x03, 0xac]
theorem fl_X7_hasPlaces_0 {p j : Nat} {b : UInt8} (e : p = 0 + j) (h : fb_X7_hasPlaces_0[j]? = some b) : cX7_hasPlaces.data.toList[p]? = some b := fq_l (n := 64) (show (cX7_hasPlaces.data.toList.drop 0).take 64 = fb_X7_hasPlaces_0 by decide +kernel) e h
theorem dX7_hasPlaces_0 : decode cX7_hasPlaces 0 = .ok (.iload_n 2, 1) := fq1_28 (fl_X7_hasPlaces_0 (j := 0) rfl rfl)
theorem dX7_hasPlaces_1 : decode cX7_hasPlaces 1 = .ok (.aload_n 0, 1) := fq1_42 (fl_X7_hasPlaces_0 (j := 1) rfl rfl)
theorem dX7_hasPlaces_2 : decode cX7_hasPlaces 2 = .ok (.getfield 15, 3) := fq3_180 (fl_X7_hasPlaces_0 (j := 2) rfl rfl) (fl_X7_hasPlaces_0 (j := 3) rfl rfl) (fl_X7_hasPlaces_0 (j := 4) rfl rfl) (by decide)
theorem dX7_hasPlaces_5 : decode cX7_hasPlaces 5 = .ok (.if_icmp .gt 17, 3) := fq3_163 (fl_X7_hasPlaces_0 (j := 5) rfl rfl) (fl_X7_hasPlaces_0 (j := 6) rfl rfl) (fl_X7_hasPlaces_0 (j := 7) rfl rfl) (by decide)
theorem dX7_hasPlaces_8 : decode cX7_hasPlaces 8 = .ok (.iload_n 1, 1) := fq1_27 (fl_X7_hasPlaces_0 (j := 8) rfl rfl)
theorem dX7_hasPlaces_9 : decode cX7_hasPlaces 9 = .ok (.aload_n 0, 1) := fq1_42 (fl_X7_hasPlaces_0 (j := 9) rfl rfl)
theorem dX7_hasPlaces_10 : decode cX7_hasPlaces 10 = .ok (.getfield 15, 3) := fq3_180 (fl_X7_hasPlaces_0 (j := 10) rfl rfl) (fl_X7_hasPlaces_0 (j := 11) rfl rfl) (fl_X7_hasPlaces_0 (j := 12) rfl rfl) (by decide)
theorem dX7_hasPlaces_13 : decode cX7_hasPlaces 13 = .ok (.iload_n 2, 1) := fq1_28 (fl_X7_hasPlaces_0 (j := 13) rfl rfl)
theorem dX7_hasPlaces_14 : decode cX7_hasPlaces 14 = .ok (.isub, 1) := fq1_100 (fl_X7_hasPlaces_0 (j := 14) rfl rfl)
theorem dX7_hasPlaces_15 : decode cX7_hasPlaces 15 = .ok (.if_icmp .gt 7, 3) := fq3_163 (fl_X7_hasPlaces_0 (j := 15) rfl rfl) (fl_X7_hasPlaces_0 (j := 16) rfl rfl) (fl_X7_hasPlaces_0 (j := 17) rfl rfl) (by decide)
theorem dX7_hasPlaces_18 : decode cX7_hasPlaces 18 = .ok (.iconst 1, 1) := fq1_4 (fl_X7_hasPlaces_0 (j := 18) rfl rfl)
theorem dX7_hasPlaces_19 : decode cX7_hasPlaces 19 = .ok (.goto 4, 3) := fq3_167 (fl_X7_hasPlaces_0 (j := 19) rfl rfl) (fl_X7_hasPlaces_0 (j := 20) rfl rfl) (fl_X7_hasPlaces_0 (j := 21) rfl rfl) (by decide)
theorem dX7_hasPlaces_22 : decode cX7_hasPlaces 22 = .ok (.iconst 0, 1) := fq1_3 (fl_X7_hasPlaces_0 (j := 22) rfl rfl)
theorem dX7_hasPlaces_23 : decode cX7_hasPlaces 23 = .ok (.ireturn, 1) := fq1_172 (fl_X7_hasPlaces_0 (j := 23) rfl rfl)
def fb_X7_holdsWithin_0 : List UInt8 := [0x03, 0x3e, 0x1d, 0x1b, 0xa2, 0x00, 0x22, 0x2a, 0xb4, 0x00, 0x09, 0x1d, 0x2f, 0x09, 0x94, 0x9b, 0x00, 0x0f, 0x2a, 0xb4, 0x00, 0x09, 0x1d, 0x2f, 0x1c, 0x85, 0x94, 0x9e, 0x00, 0x05, 0x03, 0xac, 0x84, 0x03, 0x01, 0xa7, 0xff, 0xdf, 0x04, 0xac]
theorem fl_X7_holdsWithin_0 {p j : Nat} {b : UInt8} (e : p = 0 + j) (h : fb_X7_holdsWithin_0[j]? = some b) : cX7_holdsWithin.data.toList[p]? = some b := fq_l (n := 64) (show (cX7_holdsWithin.data.toList.drop 0).take 64 = fb_X7_holdsWithin_0 by decide +kernel) e h
theorem dX7_holdsWithin_0 : decode cX7_holdsWithin 0 = .ok (.iconst 0, 1) := fq1_3 (fl_X7_holdsWithin_0 (j := 0) rfl rfl)
theorem dX7_holdsWithin_1 : decode cX7_holdsWithin 1 = .ok (.istore_n 3, 1) := fq1_62 (fl_X7_holdsWithin_0 (j := 1) rfl rfl)
theorem dX7_holdsWithin_2 : decode cX7_holdsWithin 2 = .ok (.iload_n 3, 1) := fq1_29 (fl_X7_holdsWithin_0 (j := 2) rfl rfl)
theorem dX7_holdsWithin_3 : decode cX7_holdsWithin 3 = .ok (.iload_n 1, 1) := fq1_27 (fl_X7_holdsWithin_0 (j := 3) rfl rfl)
theorem dX7_holdsWithin_4 : decode cX7_holdsWithin 4 = .ok (.if_icmp .ge 34, 3) := fq3_162 (fl_X7_holdsWithin_0 (j := 4) rfl rfl) (fl_X7_holdsWithin_0 (j := 5) rfl rfl) (fl_X7_holdsWithin_0 (j := 6) rfl rfl) (by decide)
theorem dX7_holdsWithin_7 : decode cX7_holdsWithin 7 = .ok (.aload_n 0, 1) := fq1_42 (fl_X7_holdsWithin_0 (j := 7) rfl rfl)
theorem dX7_holdsWithin_8 : decode cX7_holdsWithin 8 = .ok (.getfield 9, 3) := fq3_180 (fl_X7_holdsWithin_0 (j := 8) rfl rfl) (fl_X7_holdsWithin_0 (j := 9) rfl rfl) (fl_X7_holdsWithin_0 (j := 10) rfl rfl) (by decide)
theorem dX7_holdsWithin_11 : decode cX7_holdsWithin 11 = .ok (.iload_n 3, 1) := fq1_29 (fl_X7_holdsWithin_0 (j := 11) rfl rfl)
theorem dX7_holdsWithin_12 : decode cX7_holdsWithin 12 = .ok (.laload, 1) := fq1_47 (fl_X7_holdsWithin_0 (j := 12) rfl rfl)
theorem dX7_holdsWithin_13 : decode cX7_holdsWithin 13 = .ok (.lconst 0, 1) := fq1_9 (fl_X7_holdsWithin_0 (j := 13) rfl rfl)
theorem dX7_holdsWithin_14 : decode cX7_holdsWithin 14 = .ok (.lcmp, 1) := fq1_148 (fl_X7_holdsWithin_0 (j := 14) rfl rfl)
theorem dX7_holdsWithin_15 : decode cX7_holdsWithin 15 = .ok (.ifCond .lt 15, 3) := fq3_155 (fl_X7_holdsWithin_0 (j := 15) rfl rfl) (fl_X7_holdsWithin_0 (j := 16) rfl rfl) (fl_X7_holdsWithin_0 (j := 17) rfl rfl) (by decide)
theorem dX7_holdsWithin_18 : decode cX7_holdsWithin 18 = .ok (.aload_n 0, 1) := fq1_42 (fl_X7_holdsWithin_0 (j := 18) rfl rfl)
theorem dX7_holdsWithin_19 : decode cX7_holdsWithin 19 = .ok (.getfield 9, 3) := fq3_180 (fl_X7_holdsWithin_0 (j := 19) rfl rfl) (fl_X7_holdsWithin_0 (j := 20) rfl rfl) (fl_X7_holdsWithin_0 (j := 21) rfl rfl) (by decide)
theorem dX7_holdsWithin_22 : decode cX7_holdsWithin 22 = .ok (.iload_n 3, 1) := fq1_29 (fl_X7_holdsWithin_0 (j := 22) rfl rfl)
theorem dX7_holdsWithin_23 : decode cX7_holdsWithin 23 = .ok (.laload, 1) := fq1_47 (fl_X7_holdsWithin_0 (j := 23) rfl rfl)
theorem dX7_holdsWithin_24 : decode cX7_holdsWithin 24 = .ok (.iload_n 2, 1) := fq1_28 (fl_X7_holdsWithin_0 (j := 24) rfl rfl)
theorem dX7_holdsWithin_25 : decode cX7_holdsWithin 25 = .ok (.i2l, 1) := fq1_133 (fl_X7_holdsWithin_0 (j := 25) rfl rfl)
theorem dX7_holdsWithin_26 : decode cX7_holdsWithin 26 = .ok (.lcmp, 1) := fq1_148 (fl_X7_holdsWithin_0 (j := 26) rfl rfl)
theorem dX7_holdsWithin_27 : decode cX7_holdsWithin 27 = .ok (.ifCond .le 5, 3) := fq3_158 (fl_X7_holdsWithin_0 (j := 27) rfl rfl) (fl_X7_holdsWithin_0 (j := 28) rfl rfl) (fl_X7_holdsWithin_0 (j := 29) rfl rfl) (by decide)
theorem dX7_holdsWithin_30 : decode cX7_holdsWithin 30 = .ok (.iconst 0, 1) := fq1_3 (fl_X7_holdsWithin_0 (j := 30) rfl rfl)
theorem dX7_holdsWithin_31 : decode cX7_holdsWithin 31 = .ok (.ireturn, 1) := fq1_172 (fl_X7_holdsWithin_0 (j := 31) rfl rfl)
theorem dX7_holdsWithin_32 : decode cX7_holdsWithin 32 = .ok (.iinc 3 1, 3) := fq3_132 (fl_X7_holdsWithin_0 (j := 32) rfl rfl) (fl_X7_holdsWithin_0 (j := 33) rfl rfl) (fl_X7_holdsWithin_0 (j := 34) rfl rfl) (by decide) (by decide)
theorem dX7_holdsWithin_35 : decode cX7_holdsWithin 35 = .ok (.goto (-33), 3) := fq3_167 (fl_X7_holdsWithin_0 (j := 35) rfl rfl) (fl_X7_holdsWithin_0 (j := 36) rfl rfl) (fl_X7_holdsWithin_0 (j := 37) rfl rfl) (by decide)
theorem dX7_holdsWithin_38 : decode cX7_holdsWithin 38 = .ok (.iconst 1, 1) := fq1_4 (fl_X7_holdsWithin_0 (j := 38) rfl rfl)
theorem dX7_holdsWithin_39 : decode cX7_holdsWithin 39 = .ok (.ireturn, 1) := fq1_172 (fl_X7_holdsWithin_0 (j := 39) rfl rfl)
def fb_X7_put_0 : List UInt8 := [0x2a, 0xb4, 0x00, 0x13, 0x9a, 0x00, 0x10, 0x2a, 0xb4, 0x00, 0x09, 0x1b, 0x20, 0x88, 0x91, 0x85, 0x50, 0xa7, 0x00, 0x33, 0x2a, 0xb4, 0x00, 0x13, 0x04, 0xa0, 0x00, 0x10, 0x2a, 0xb4, 0x00, 0x09, 0x1b, 0x20, 0x88, 0x93, 0x85, 0x50, 0xa7, 0x00, 0x1e, 0x2a, 0xb4, 0x00, 0x13, 0x05, 0xa0, 0x00, 0x0f, 0x2a, 0xb4, 0x00, 0x09, 0x1b, 0x20, 0x88, 0x85, 0x50, 0xa7, 0x00, 0x0a, 0x2a, 0xb4, 0x00]
theorem fl_X7_put_0 {p j : Nat} {b : UInt8} (e : p = 0 + j) (h : fb_X7_put_0[j]? = some b) : cX7_put.data.toList[p]? = some b := fq_l (n := 64) (show (cX7_put.data.toList.drop 0).take 64 = fb_X7_put_0 by decide +kernel) e h
theorem dX7_put_0 : decode cX7_put 0 = .ok (.aload_n 0, 1) := fq1_42 (fl_X7_put_0 (j := 0) rfl rfl)
theorem dX7_put_1 : decode cX7_put 1 = .ok (.getfield 19, 3) := fq3_180 (fl_X7_put_0 (j := 1) rfl rfl) (fl_X7_put_0 (j := 2) rfl rfl) (fl_X7_put_0 (j := 3) rfl rfl) (by decide)
theorem dX7_put_4 : decode cX7_put 4 = .ok (.ifCond .ne 16, 3) := fq3_154 (fl_X7_put_0 (j := 4) rfl rfl) (fl_X7_put_0 (j := 5) rfl rfl) (fl_X7_put_0 (j := 6) rfl rfl) (by decide)
theorem dX7_put_7 : decode cX7_put 7 = .ok (.aload_n 0, 1) := fq1_42 (fl_X7_put_0 (j := 7) rfl rfl)
theorem dX7_put_8 : decode cX7_put 8 = .ok (.getfield 9, 3) := fq3_180 (fl_X7_put_0 (j := 8) rfl rfl) (fl_X7_put_0 (j := 9) rfl rfl) (fl_X7_put_0 (j := 10) rfl rfl) (by decide)
theorem dX7_put_11 : decode cX7_put 11 = .ok (.iload_n 1, 1) := fq1_27 (fl_X7_put_0 (j := 11) rfl rfl)
theorem dX7_put_12 : decode cX7_put 12 = .ok (.lload_n 2, 1) := fq1_32 (fl_X7_put_0 (j := 12) rfl rfl)
theorem dX7_put_13 : decode cX7_put 13 = .ok (.l2i, 1) := fq1_136 (fl_X7_put_0 (j := 13) rfl rfl)
theorem dX7_put_14 : decode cX7_put 14 = .ok (.i2b, 1) := fq1_145 (fl_X7_put_0 (j := 14) rfl rfl)
theorem dX7_put_15 : decode cX7_put 15 = .ok (.i2l, 1) := fq1_133 (fl_X7_put_0 (j := 15) rfl rfl)
theorem dX7_put_16 : decode cX7_put 16 = .ok (.lastore, 1) := fq1_80 (fl_X7_put_0 (j := 16) rfl rfl)
theorem dX7_put_17 : decode cX7_put 17 = .ok (.goto 51, 3) := fq3_167 (fl_X7_put_0 (j := 17) rfl rfl) (fl_X7_put_0 (j := 18) rfl rfl) (fl_X7_put_0 (j := 19) rfl rfl) (by decide)
theorem dX7_put_20 : decode cX7_put 20 = .ok (.aload_n 0, 1) := fq1_42 (fl_X7_put_0 (j := 20) rfl rfl)
theorem dX7_put_21 : decode cX7_put 21 = .ok (.getfield 19, 3) := fq3_180 (fl_X7_put_0 (j := 21) rfl rfl) (fl_X7_put_0 (j := 22) rfl rfl) (fl_X7_put_0 (j := 23) rfl rfl) (by decide)
theorem dX7_put_24 : decode cX7_put 24 = .ok (.iconst 1, 1) := fq1_4 (fl_X7_put_0 (j := 24) rfl rfl)
theorem dX7_put_25 : decode cX7_put 25 = .ok (.if_icmp .ne 16, 3) := fq3_160 (fl_X7_put_0 (j := 25) rfl rfl) (fl_X7_put_0 (j := 26) rfl rfl) (fl_X7_put_0 (j := 27) rfl rfl) (by decide)
theorem dX7_put_28 : decode cX7_put 28 = .ok (.aload_n 0, 1) := fq1_42 (fl_X7_put_0 (j := 28) rfl rfl)
theorem dX7_put_29 : decode cX7_put 29 = .ok (.getfield 9, 3) := fq3_180 (fl_X7_put_0 (j := 29) rfl rfl) (fl_X7_put_0 (j := 30) rfl rfl) (fl_X7_put_0 (j := 31) rfl rfl) (by decide)
theorem dX7_put_32 : decode cX7_put 32 = .ok (.iload_n 1, 1) := fq1_27 (fl_X7_put_0 (j := 32) rfl rfl)
theorem dX7_put_33 : decode cX7_put 33 = .ok (.lload_n 2, 1) := fq1_32 (fl_X7_put_0 (j := 33) rfl rfl)
theorem dX7_put_34 : decode cX7_put 34 = .ok (.l2i, 1) := fq1_136 (fl_X7_put_0 (j := 34) rfl rfl)
theorem dX7_put_35 : decode cX7_put 35 = .ok (.i2s, 1) := fq1_147 (fl_X7_put_0 (j := 35) rfl rfl)
theorem dX7_put_36 : decode cX7_put 36 = .ok (.i2l, 1) := fq1_133 (fl_X7_put_0 (j := 36) rfl rfl)
theorem dX7_put_37 : decode cX7_put 37 = .ok (.lastore, 1) := fq1_80 (fl_X7_put_0 (j := 37) rfl rfl)
theorem dX7_put_38 : decode cX7_put 38 = .ok (.goto 30, 3) := fq3_167 (fl_X7_put_0 (j := 38) rfl rfl) (fl_X7_put_0 (j := 39) rfl rfl) (fl_X7_put_0 (j := 40) rfl rfl) (by decide)
theorem dX7_put_41 : decode cX7_put 41 = .ok (.aload_n 0, 1) := fq1_42 (fl_X7_put_0 (j := 41) rfl rfl)
theorem dX7_put_42 : decode cX7_put 42 = .ok (.getfield 19, 3) := fq3_180 (fl_X7_put_0 (j := 42) rfl rfl) (fl_X7_put_0 (j := 43) rfl rfl) (fl_X7_put_0 (j := 44) rfl rfl) (by decide)
theorem dX7_put_45 : decode cX7_put 45 = .ok (.iconst 2, 1) := fq1_5 (fl_X7_put_0 (j := 45) rfl rfl)
theorem dX7_put_46 : decode cX7_put 46 = .ok (.if_icmp .ne 15, 3) := fq3_160 (fl_X7_put_0 (j := 46) rfl rfl) (fl_X7_put_0 (j := 47) rfl rfl) (fl_X7_put_0 (j := 48) rfl rfl) (by decide)
theorem dX7_put_49 : decode cX7_put 49 = .ok (.aload_n 0, 1) := fq1_42 (fl_X7_put_0 (j := 49) rfl rfl)
theorem dX7_put_50 : decode cX7_put 50 = .ok (.getfield 9, 3) := fq3_180 (fl_X7_put_0 (j := 50) rfl rfl) (fl_X7_put_0 (j := 51) rfl rfl) (fl_X7_put_0 (j := 52) rfl rfl) (by decide)
theorem dX7_put_53 : decode cX7_put 53 = .ok (.iload_n 1, 1) := fq1_27 (fl_X7_put_0 (j := 53) rfl rfl)
theorem dX7_put_54 : decode cX7_put 54 = .ok (.lload_n 2, 1) := fq1_32 (fl_X7_put_0 (j := 54) rfl rfl)
theorem dX7_put_55 : decode cX7_put 55 = .ok (.l2i, 1) := fq1_136 (fl_X7_put_0 (j := 55) rfl rfl)
theorem dX7_put_56 : decode cX7_put 56 = .ok (.i2l, 1) := fq1_133 (fl_X7_put_0 (j := 56) rfl rfl)
theorem dX7_put_57 : decode cX7_put 57 = .ok (.lastore, 1) := fq1_80 (fl_X7_put_0 (j := 57) rfl rfl)
theorem dX7_put_58 : decode cX7_put 58 = .ok (.goto 10, 3) := fq3_167 (fl_X7_put_0 (j := 58) rfl rfl) (fl_X7_put_0 (j := 59) rfl rfl) (fl_X7_put_0 (j := 60) rfl rfl) (by decide)
theorem dX7_put_61 : decode cX7_put 61 = .ok (.aload_n 0, 1) := fq1_42 (fl_X7_put_0 (j := 61) rfl rfl)
def fb_X7_put_1 : List UInt8 := [0x09, 0x1b, 0x20, 0x50, 0xb1]
theorem fl_X7_put_1 {p j : Nat} {b : UInt8} (e : p = 64 + j) (h : fb_X7_put_1[j]? = some b) : cX7_put.data.toList[p]? = some b := fq_l (n := 64) (show (cX7_put.data.toList.drop 64).take 64 = fb_X7_put_1 by decide +kernel) e h
theorem dX7_put_62 : decode cX7_put 62 = .ok (.getfield 9, 3) := fq3_180 (fl_X7_put_0 (j := 62) rfl rfl) (fl_X7_put_0 (j := 63) rfl rfl) (fl_X7_put_1 (j := 0) rfl rfl) (by decide)
theorem dX7_put_65 : decode cX7_put 65 = .ok (.iload_n 1, 1) := fq1_27 (fl_X7_put_1 (j := 1) rfl rfl)
theorem dX7_put_66 : decode cX7_put 66 = .ok (.lload_n 2, 1) := fq1_32 (fl_X7_put_1 (j := 2) rfl rfl)
theorem dX7_put_67 : decode cX7_put 67 = .ok (.lastore, 1) := fq1_80 (fl_X7_put_1 (j := 3) rfl rfl)
theorem dX7_put_68 : decode cX7_put 68 = .ok (.return_, 1) := fq1_177 (fl_X7_put_1 (j := 4) rfl rfl)
def fb_X9_addRow_0 : List UInt8 := [0x2a, 0xb4, 0x00, 0x23, 0x3d, 0x2a, 0xb4, 0x00, 0x0b, 0x1c, 0x1b, 0x4f, 0x2a, 0x59, 0xb4, 0x00, 0x23, 0x04, 0x60, 0xb5, 0x00, 0x23, 0x1c, 0xac]
theorem fl_X9_addRow_0 {p j : Nat} {b : UInt8} (e : p = 0 + j) (h : fb_X9_addRow_0[j]? = some b) : cX9_addRow.data.toList[p]? = some b := fq_l (n := 64) (show (cX9_addRow.data.toList.drop 0).take 64 = fb_X9_addRow_0 by decide +kernel) e h
theorem dX9_addRow_0 : decode cX9_addRow 0 = .ok (.aload_n 0, 1) := fq1_42 (fl_X9_addRow_0 (j := 0) rfl rfl)
theorem dX9_addRow_1 : decode cX9_addRow 1 = .ok (.getfield 35, 3) := fq3_180 (fl_X9_addRow_0 (j := 1) rfl rfl) (fl_X9_addRow_0 (j := 2) rfl rfl) (fl_X9_addRow_0 (j := 3) rfl rfl) (by decide)
theorem dX9_addRow_4 : decode cX9_addRow 4 = .ok (.istore_n 2, 1) := fq1_61 (fl_X9_addRow_0 (j := 4) rfl rfl)
theorem dX9_addRow_5 : decode cX9_addRow 5 = .ok (.aload_n 0, 1) := fq1_42 (fl_X9_addRow_0 (j := 5) rfl rfl)
theorem dX9_addRow_6 : decode cX9_addRow 6 = .ok (.getfield 11, 3) := fq3_180 (fl_X9_addRow_0 (j := 6) rfl rfl) (fl_X9_addRow_0 (j := 7) rfl rfl) (fl_X9_addRow_0 (j := 8) rfl rfl) (by decide)
theorem dX9_addRow_9 : decode cX9_addRow 9 = .ok (.iload_n 2, 1) := fq1_28 (fl_X9_addRow_0 (j := 9) rfl rfl)
theorem dX9_addRow_10 : decode cX9_addRow 10 = .ok (.iload_n 1, 1) := fq1_27 (fl_X9_addRow_0 (j := 10) rfl rfl)
theorem dX9_addRow_11 : decode cX9_addRow 11 = .ok (.iastore, 1) := fq1_79 (fl_X9_addRow_0 (j := 11) rfl rfl)
theorem dX9_addRow_12 : decode cX9_addRow 12 = .ok (.aload_n 0, 1) := fq1_42 (fl_X9_addRow_0 (j := 12) rfl rfl)
theorem dX9_addRow_13 : decode cX9_addRow 13 = .ok (.dup, 1) := fq1_89 (fl_X9_addRow_0 (j := 13) rfl rfl)
theorem dX9_addRow_14 : decode cX9_addRow 14 = .ok (.getfield 35, 3) := fq3_180 (fl_X9_addRow_0 (j := 14) rfl rfl) (fl_X9_addRow_0 (j := 15) rfl rfl) (fl_X9_addRow_0 (j := 16) rfl rfl) (by decide)
theorem dX9_addRow_17 : decode cX9_addRow 17 = .ok (.iconst 1, 1) := fq1_4 (fl_X9_addRow_0 (j := 17) rfl rfl)
theorem dX9_addRow_18 : decode cX9_addRow 18 = .ok (.iadd, 1) := fq1_96 (fl_X9_addRow_0 (j := 18) rfl rfl)
theorem dX9_addRow_19 : decode cX9_addRow 19 = .ok (.putfield 35, 3) := fq3_181 (fl_X9_addRow_0 (j := 19) rfl rfl) (fl_X9_addRow_0 (j := 20) rfl rfl) (fl_X9_addRow_0 (j := 21) rfl rfl) (by decide)
theorem dX9_addRow_22 : decode cX9_addRow 22 = .ok (.iload_n 2, 1) := fq1_28 (fl_X9_addRow_0 (j := 22) rfl rfl)
theorem dX9_addRow_23 : decode cX9_addRow 23 = .ok (.ireturn, 1) := fq1_172 (fl_X9_addRow_0 (j := 23) rfl rfl)
