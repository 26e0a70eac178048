section
theorem qf_X1_17 : Cond.fieldLink RX1 17 "SlowWorlds$Life" "world" "LSlowWorlds$World;" ∈ gw := tbt (tb2 (List.mem_of_getElem? (i := 138) rfl)) rfl
theorem iX1 : ∀ w ∈ u_ws RX1 TX1 11, w ∈ gw := by
  intro w hw
  obtain ⟨k, hk, rfl⟩ := List.mem_map.mp hw
  have hk := List.mem_range.mp hk
  match k, hk with
  | 0, _ => exact tbt (tb2 (List.mem_of_getElem? (i := 155) rfl)) rfl
  | 1, _ => exact tbt (tb2 (List.mem_of_getElem? (i := 157) rfl)) rfl
  | 2, _ => exact tbt (tb2 (List.mem_of_getElem? (i := 159) rfl)) rfl
  | 3, _ => exact tbt (tb2 (List.mem_of_getElem? (i := 161) rfl)) rfl
  | 4, _ => exact tbt (tb2 (List.mem_of_getElem? (i := 163) rfl)) rfl
  | 5, _ => exact tbt (tb2 (List.mem_of_getElem? (i := 165) rfl)) rfl
  | 6, _ => exact tbt (tb2 (List.mem_of_getElem? (i := 167) rfl)) rfl
  | 7, _ => exact tbt (tb2 (List.mem_of_getElem? (i := 169) rfl)) rfl
  | 8, _ => exact tbt (tb2 (List.mem_of_getElem? (i := 171) rfl)) rfl
  | 9, _ => exact tbt (tb2 (List.mem_of_getElem? (i := 173) rfl)) rfl
  | 10, _ => exact tbt (tb2 (List.mem_of_getElem? (i := 175) rfl)) rfl
  | (k + 11), hk => exact absurd hk (by omega)
theorem qf_X1_29 : Cond.fieldLink RX1 29 "SlowWorlds$World" "course" "LSlowWorlds$Course;" ∈ gw := tbt (tb1 (List.mem_of_getElem? (i := 172) rfl)) rfl
theorem qf_X1_35 : Cond.fieldLink RX1 35 "SlowWorlds$Course" "week" "I" ∈ gw := tbt (tb1 (List.mem_of_getElem? (i := 104) rfl)) rfl
theorem qf_X1_48 : Cond.fieldLink RX1 48 "SlowWorlds$World" "sky" "LSlowWorlds$Sky;" ∈ gw := tbt (tb1 (List.mem_of_getElem? (i := 170) rfl)) rfl
theorem qf_X1_52 : Cond.fieldLink RX1 52 "SlowWorlds$Sky" "rocks" "I" ∈ gw := tbt (tb1 (List.mem_of_getElem? (i := 54) rfl)) rfl
theorem qc_X0_wornIn : Cond.code yX0_wornIn cX0_wornIn 3 (some .int) ∈ gw := tbt (tb5 (List.mem_of_getElem? (i := 175) rfl)) rfl
theorem qi_yX0_wornIn : Cond.instanceMethod yX0_wornIn ∈ gw := tbt (tb5 (List.mem_of_getElem? (i := 173) rfl)) rfl
theorem qs_X0_wornIn : Cond.selects (yX0_wornIn).cls yX0_wornIn yX0_wornIn ∈ gw := tbt (tb5 (List.mem_of_getElem? (i := 174) rfl)) rfl
theorem ci_X0_wornIn : CIv yX0_wornIn cX0_wornIn 3 (some .int) 2 := ⟨qc_X0_wornIn, qi_yX0_wornIn, qs_X0_wornIn, qz_X0, by decide +kernel⟩
theorem qm_X1_63 : Cond.methodLink RX1 63 yX0_wornIn ∈ gw := tbt (tb5 (List.mem_of_getElem? (i := 172) rfl)) rfl
theorem qf_X1_21 : Cond.fieldLink RX1 21 "SlowWorlds$Life" "rays" "LSlowWorlds$Rays;" ∈ gw := tbt (tb2 (List.mem_of_getElem? (i := 139) rfl)) rfl
theorem qc_X3_seen : Cond.code yX3_seen cX3_seen 10 (some .int) ∈ gw := tbt (tb4 (List.mem_of_getElem? (i := 111) rfl)) rfl
theorem qi_yX3_seen : Cond.instanceMethod yX3_seen ∈ gw := tbt (tb4 (List.mem_of_getElem? (i := 109) rfl)) rfl
theorem qs_X3_seen : Cond.selects (yX3_seen).cls yX3_seen yX3_seen ∈ gw := tbt (tb4 (List.mem_of_getElem? (i := 110) rfl)) rfl
theorem ci_X3_seen : CIv yX3_seen cX3_seen 10 (some .int) 3 := ⟨qc_X3_seen, qi_yX3_seen, qs_X3_seen, qz_X3, by decide +kernel⟩
theorem qm_X1_57 : Cond.methodLink RX1 57 yX3_seen ∈ gw := tbt (tb5 (List.mem_of_getElem? (i := 171) rfl)) rfl
theorem qf_X1_41 : Cond.fieldLink RX1 41 "SlowWorlds$Course" "worn" "[I" ∈ gw := tbt (tb1 (List.mem_of_getElem? (i := 91) rfl)) rfl
theorem qc_X1_wornNext : Cond.code yX1_wornNext cX1_wornNext 8 (some .int) ∈ gw := tbt (tb5 (List.mem_of_getElem? (i := 170) rfl)) rfl
theorem qi_yX1_wornNext : Cond.instanceMethod yX1_wornNext ∈ gw := tbt (tb5 (List.mem_of_getElem? (i := 169) rfl)) rfl
theorem qs_X1_wornNext : Cond.selects (yX1_wornNext).cls yX1_wornNext yX1_wornNext ∈ gw := tb0 (List.mem_of_getElem? (i := 30) rfl) rfl
theorem qz_X1 : Cond.initialized RX1 ∈ gw := tbt (tb1 (List.mem_of_getElem? (i := 15) rfl)) rfl
theorem ci_X1_wornNext : CIv yX1_wornNext cX1_wornNext 8 (some .int) 0 := ⟨qc_X1_wornNext, qi_yX1_wornNext, qs_X1_wornNext, qz_X1, by decide +kernel⟩
theorem qm_X1_44 : Cond.methodLink RX1 44 yX1_wornNext ∈ gw := tbt (tb5 (List.mem_of_getElem? (i := 167) rfl)) rfl
def fb_X1_letPass_0 : List UInt8 := [0x2a, 0xb4, 0x00, 0x11, 0xb4, 0x00, 0x1d, 0x4d, 0x03, 0x3e, 0x1d, 0x1b, 0xa2, 0x00, 0x2e, 0x2c, 0xb4, 0x00, 0x23, 0x11, 0x01, 0x90, 0xa1, 0x00, 0x05, 0x1d, 0xac, 0x2c, 0xb4, 0x00, 0x29, 0x2c, 0xb4, 0x00, 0x23, 0x04, 0x60, 0x2a, 0xb6, 0x00, 0x2c, 0x4f, 0x2c, 0x59, 0xb4, 0x00, 0x23, 0x04, 0x60, 0xb5, 0x00, 0x23, 0x84, 0x03, 0x01, 0xa7, 0xff, 0xd3, 0x1b, 0xac]
theorem fl_X1_letPass_0 {p j : Nat} {b : UInt8} (e : p = 0 + j) (h : fb_X1_letPass_0[j]? = some b) : cX1_letPass.data.toList[p]? = some b := fq_l (n := 64) (show (cX1_letPass.data.toList.drop 0).take 64 = fb_X1_letPass_0 by decide +kernel) e h
theorem dX1_letPass_0 : decode cX1_letPass 0 = .ok (.aload_n 0, 1) := fq1_42 (fl_X1_letPass_0 (j := 0) rfl rfl)
theorem dX1_letPass_1 : decode cX1_letPass 1 = .ok (.getfield 17, 3) := fq3_180 (fl_X1_letPass_0 (j := 1) rfl rfl) (fl_X1_letPass_0 (j := 2) rfl rfl) (fl_X1_letPass_0 (j := 3) rfl rfl) rfl
theorem dX1_letPass_4 : decode cX1_letPass 4 = .ok (.getfield 29, 3) := fq3_180 (fl_X1_letPass_0 (j := 4) rfl rfl) (fl_X1_letPass_0 (j := 5) rfl rfl) (fl_X1_letPass_0 (j := 6) rfl rfl) rfl
theorem dX1_letPass_7 : decode cX1_letPass 7 = .ok (.astore_n 2, 1) := fq1_77 (fl_X1_letPass_0 (j := 7) rfl rfl)
theorem dX1_letPass_8 : decode cX1_letPass 8 = .ok (.iconst 0, 1) := fq1_3 (fl_X1_letPass_0 (j := 8) rfl rfl)
theorem dX1_letPass_9 : decode cX1_letPass 9 = .ok (.istore_n 3, 1) := fq1_62 (fl_X1_letPass_0 (j := 9) rfl rfl)
theorem dX1_letPass_10 : decode cX1_letPass 10 = .ok (.iload_n 3, 1) := fq1_29 (fl_X1_letPass_0 (j := 10) rfl rfl)
theorem dX1_letPass_11 : decode cX1_letPass 11 = .ok (.iload_n 1, 1) := fq1_27 (fl_X1_letPass_0 (j := 11) rfl rfl)
theorem dX1_letPass_12 : decode cX1_letPass 12 = .ok (.if_icmp .ge 46, 3) := fq3_162 (fl_X1_letPass_0 (j := 12) rfl rfl) (fl_X1_letPass_0 (j := 13) rfl rfl) (fl_X1_letPass_0 (j := 14) rfl rfl) (s2p rfl (bl rfl))
theorem dX1_letPass_15 : decode cX1_letPass 15 = .ok (.aload_n 2, 1) := fq1_44 (fl_X1_letPass_0 (j := 15) rfl rfl)
theorem dX1_letPass_16 : decode cX1_letPass 16 = .ok (.getfield 35, 3) := fq3_180 (fl_X1_letPass_0 (j := 16) rfl rfl) (fl_X1_letPass_0 (j := 17) rfl rfl) (fl_X1_letPass_0 (j := 18) rfl rfl) rfl
theorem dX1_letPass_19 : decode cX1_letPass 19 = .ok (.sipush 400, 3) := fq3_17 (fl_X1_letPass_0 (j := 19) rfl rfl) (fl_X1_letPass_0 (j := 20) rfl rfl) (fl_X1_letPass_0 (j := 21) rfl rfl) (s2p rfl (bl rfl))
theorem dX1_letPass_22 : decode cX1_letPass 22 = .ok (.if_icmp .lt 5, 3) := fq3_161 (fl_X1_letPass_0 (j := 22) rfl rfl) (fl_X1_letPass_0 (j := 23) rfl rfl) (fl_X1_letPass_0 (j := 24) rfl rfl) (s2p rfl (bl rfl))
theorem dX1_letPass_25 : decode cX1_letPass 25 = .ok (.iload_n 3, 1) := fq1_29 (fl_X1_letPass_0 (j := 25) rfl rfl)
theorem dX1_letPass_26 : decode cX1_letPass 26 = .ok (.ireturn, 1) := fq1_172 (fl_X1_letPass_0 (j := 26) rfl rfl)
theorem dX1_letPass_27 : decode cX1_letPass 27 = .ok (.aload_n 2, 1) := fq1_44 (fl_X1_letPass_0 (j := 27) rfl rfl)
theorem dX1_letPass_28 : decode cX1_letPass 28 = .ok (.getfield 41, 3) := fq3_180 (fl_X1_letPass_0 (j := 28) rfl rfl) (fl_X1_letPass_0 (j := 29) rfl rfl) (fl_X1_letPass_0 (j := 30) rfl rfl) rfl
theorem dX1_letPass_31 : decode cX1_letPass 31 = .ok (.aload_n 2, 1) := fq1_44 (fl_X1_letPass_0 (j := 31) rfl rfl)
theorem dX1_letPass_32 : decode cX1_letPass 32 = .ok (.getfield 35, 3) := fq3_180 (fl_X1_letPass_0 (j := 32) rfl rfl) (fl_X1_letPass_0 (j := 33) rfl rfl) (fl_X1_letPass_0 (j := 34) rfl rfl) rfl
theorem dX1_letPass_35 : decode cX1_letPass 35 = .ok (.iconst 1, 1) := fq1_4 (fl_X1_letPass_0 (j := 35) rfl rfl)
theorem dX1_letPass_36 : decode cX1_letPass 36 = .ok (.iadd, 1) := fq1_96 (fl_X1_letPass_0 (j := 36) rfl rfl)
theorem dX1_letPass_37 : decode cX1_letPass 37 = .ok (.aload_n 0, 1) := fq1_42 (fl_X1_letPass_0 (j := 37) rfl rfl)
theorem dX1_letPass_38 : decode cX1_letPass 38 = .ok (.invokevirtual 44, 3) := fq3_182 (fl_X1_letPass_0 (j := 38) rfl rfl) (fl_X1_letPass_0 (j := 39) rfl rfl) (fl_X1_letPass_0 (j := 40) rfl rfl) rfl
theorem dX1_letPass_41 : decode cX1_letPass 41 = .ok (.iastore, 1) := fq1_79 (fl_X1_letPass_0 (j := 41) rfl rfl)
theorem dX1_letPass_42 : decode cX1_letPass 42 = .ok (.aload_n 2, 1) := fq1_44 (fl_X1_letPass_0 (j := 42) rfl rfl)
theorem dX1_letPass_43 : decode cX1_letPass 43 = .ok (.dup, 1) := fq1_89 (fl_X1_letPass_0 (j := 43) rfl rfl)
theorem dX1_letPass_44 : decode cX1_letPass 44 = .ok (.getfield 35, 3) := fq3_180 (fl_X1_letPass_0 (j := 44) rfl rfl) (fl_X1_letPass_0 (j := 45) rfl rfl) (fl_X1_letPass_0 (j := 46) rfl rfl) rfl
theorem dX1_letPass_47 : decode cX1_letPass 47 = .ok (.iconst 1, 1) := fq1_4 (fl_X1_letPass_0 (j := 47) rfl rfl)
theorem dX1_letPass_48 : decode cX1_letPass 48 = .ok (.iadd, 1) := fq1_96 (fl_X1_letPass_0 (j := 48) rfl rfl)
theorem dX1_letPass_49 : decode cX1_letPass 49 = .ok (.putfield 35, 3) := fq3_181 (fl_X1_letPass_0 (j := 49) rfl rfl) (fl_X1_letPass_0 (j := 50) rfl rfl) (fl_X1_letPass_0 (j := 51) rfl rfl) rfl
theorem dX1_letPass_52 : decode cX1_letPass 52 = .ok (.iinc 3 1, 3) := fq3_132 (fl_X1_letPass_0 (j := 52) rfl rfl) (fl_X1_letPass_0 (j := 53) rfl rfl) (fl_X1_letPass_0 (j := 54) rfl rfl) rfl (s1p rfl (bl rfl))
theorem dX1_letPass_55 : decode cX1_letPass 55 = .ok (.goto (-45), 3) := fq3_167 (fl_X1_letPass_0 (j := 55) rfl rfl) (fl_X1_letPass_0 (j := 56) rfl rfl) (fl_X1_letPass_0 (j := 57) rfl rfl) (by decide)
theorem dX1_letPass_58 : decode cX1_letPass 58 = .ok (.iload_n 1, 1) := fq1_27 (fl_X1_letPass_0 (j := 58) rfl rfl)
theorem dX1_letPass_59 : decode cX1_letPass 59 = .ok (.ireturn, 1) := fq1_172 (fl_X1_letPass_0 (j := 59) rfl rfl)
def fb_X1_wornNext_0 : List UInt8 := [0x2a, 0xb4, 0x00, 0x11, 0xb4, 0x00, 0x1d, 0x4c, 0x2b, 0xb4, 0x00, 0x23, 0x04, 0x60, 0x3d, 0x03, 0x3e, 0x03, 0x36, 0x04, 0x15, 0x04, 0x2a, 0xb4, 0x00, 0x11, 0xb4, 0x00, 0x30, 0xb4, 0x00, 0x34, 0xa2, 0x00, 0x88, 0x03, 0x36, 0x05, 0x03, 0x36, 0x06, 0x15, 0x06, 0x2a, 0xb4, 0x00, 0x11, 0xb4, 0x00, 0x30, 0xb4, 0x00, 0x34, 0xa2, 0x00, 0x3e, 0x15, 0x06, 0x15, 0x04, 0xa0, 0x00, 0x07, 0x02]
theorem fl_X1_wornNext_0 {p j : Nat} {b : UInt8} (e : p = 0 + j) (h : fb_X1_wornNext_0[j]? = some b) : cX1_wornNext.data.toList[p]? = some b := fq_l (n := 64) (show (cX1_wornNext.data.toList.drop 0).take 64 = fb_X1_wornNext_0 by decide +kernel) e h
theorem dX1_wornNext_0 : decode cX1_wornNext 0 = .ok (.aload_n 0, 1) := fq1_42 (fl_X1_wornNext_0 (j := 0) rfl rfl)
theorem dX1_wornNext_1 : decode cX1_wornNext 1 = .ok (.getfield 17, 3) := fq3_180 (fl_X1_wornNext_0 (j := 1) rfl rfl) (fl_X1_wornNext_0 (j := 2) rfl rfl) (fl_X1_wornNext_0 (j := 3) rfl rfl) rfl
theorem dX1_wornNext_4 : decode cX1_wornNext 4 = .ok (.getfield 29, 3) := fq3_180 (fl_X1_wornNext_0 (j := 4) rfl rfl) (fl_X1_wornNext_0 (j := 5) rfl rfl) (fl_X1_wornNext_0 (j := 6) rfl rfl) rfl
theorem dX1_wornNext_7 : decode cX1_wornNext 7 = .ok (.astore_n 1, 1) := fq1_76 (fl_X1_wornNext_0 (j := 7) rfl rfl)
theorem dX1_wornNext_8 : decode cX1_wornNext 8 = .ok (.aload_n 1, 1) := fq1_43 (fl_X1_wornNext_0 (j := 8) rfl rfl)
theorem dX1_wornNext_9 : decode cX1_wornNext 9 = .ok (.getfield 35, 3) := fq3_180 (fl_X1_wornNext_0 (j := 9) rfl rfl) (fl_X1_wornNext_0 (j := 10) rfl rfl) (fl_X1_wornNext_0 (j := 11) rfl rfl) rfl
theorem dX1_wornNext_12 : decode cX1_wornNext 12 = .ok (.iconst 1, 1) := fq1_4 (fl_X1_wornNext_0 (j := 12) rfl rfl)
theorem dX1_wornNext_13 : decode cX1_wornNext 13 = .ok (.iadd, 1) := fq1_96 (fl_X1_wornNext_0 (j := 13) rfl rfl)
theorem dX1_wornNext_14 : decode cX1_wornNext 14 = .ok (.istore_n 2, 1) := fq1_61 (fl_X1_wornNext_0 (j := 14) rfl rfl)
theorem dX1_wornNext_15 : decode cX1_wornNext 15 = .ok (.iconst 0, 1) := fq1_3 (fl_X1_wornNext_0 (j := 15) rfl rfl)
theorem dX1_wornNext_16 : decode cX1_wornNext 16 = .ok (.istore_n 3, 1) := fq1_62 (fl_X1_wornNext_0 (j := 16) rfl rfl)
theorem dX1_wornNext_17 : decode cX1_wornNext 17 = .ok (.iconst 0, 1) := fq1_3 (fl_X1_wornNext_0 (j := 17) rfl rfl)
theorem dX1_wornNext_18 : decode cX1_wornNext 18 = .ok (.istore 4, 2) := fq2_54 (fl_X1_wornNext_0 (j := 18) rfl rfl) (fl_X1_wornNext_0 (j := 19) rfl rfl) rfl
theorem dX1_wornNext_20 : decode cX1_wornNext 20 = .ok (.iload 4, 2) := fq2_21 (fl_X1_wornNext_0 (j := 20) rfl rfl) (fl_X1_wornNext_0 (j := 21) rfl rfl) rfl
theorem dX1_wornNext_22 : decode cX1_wornNext 22 = .ok (.aload_n 0, 1) := fq1_42 (fl_X1_wornNext_0 (j := 22) rfl rfl)
theorem dX1_wornNext_23 : decode cX1_wornNext 23 = .ok (.getfield 17, 3) := fq3_180 (fl_X1_wornNext_0 (j := 23) rfl rfl) (fl_X1_wornNext_0 (j := 24) rfl rfl) (fl_X1_wornNext_0 (j := 25) rfl rfl) rfl
theorem dX1_wornNext_26 : decode cX1_wornNext 26 = .ok (.getfield 48, 3) := fq3_180 (fl_X1_wornNext_0 (j := 26) rfl rfl) (fl_X1_wornNext_0 (j := 27) rfl rfl) (fl_X1_wornNext_0 (j := 28) rfl rfl) rfl
theorem dX1_wornNext_29 : decode cX1_wornNext 29 = .ok (.getfield 52, 3) := fq3_180 (fl_X1_wornNext_0 (j := 29) rfl rfl) (fl_X1_wornNext_0 (j := 30) rfl rfl) (fl_X1_wornNext_0 (j := 31) rfl rfl) rfl
theorem dX1_wornNext_32 : decode cX1_wornNext 32 = .ok (.if_icmp .ge 136, 3) := fq3_162 (fl_X1_wornNext_0 (j := 32) rfl rfl) (fl_X1_wornNext_0 (j := 33) rfl rfl) (fl_X1_wornNext_0 (j := 34) rfl rfl) (s2p rfl (bl rfl))
theorem dX1_wornNext_35 : decode cX1_wornNext 35 = .ok (.iconst 0, 1) := fq1_3 (fl_X1_wornNext_0 (j := 35) rfl rfl)
theorem dX1_wornNext_36 : decode cX1_wornNext 36 = .ok (.istore 5, 2) := fq2_54 (fl_X1_wornNext_0 (j := 36) rfl rfl) (fl_X1_wornNext_0 (j := 37) rfl rfl) rfl
theorem dX1_wornNext_38 : decode cX1_wornNext 38 = .ok (.iconst 0, 1) := fq1_3 (fl_X1_wornNext_0 (j := 38) rfl rfl)
theorem dX1_wornNext_39 : decode cX1_wornNext 39 = .ok (.istore 6, 2) := fq2_54 (fl_X1_wornNext_0 (j := 39) rfl rfl) (fl_X1_wornNext_0 (j := 40) rfl rfl) rfl
theorem dX1_wornNext_41 : decode cX1_wornNext 41 = .ok (.iload 6, 2) := fq2_21 (fl_X1_wornNext_0 (j := 41) rfl rfl) (fl_X1_wornNext_0 (j := 42) rfl rfl) rfl
theorem dX1_wornNext_43 : decode cX1_wornNext 43 = .ok (.aload_n 0, 1) := fq1_42 (fl_X1_wornNext_0 (j := 43) rfl rfl)
theorem dX1_wornNext_44 : decode cX1_wornNext 44 = .ok (.getfield 17, 3) := fq3_180 (fl_X1_wornNext_0 (j := 44) rfl rfl) (fl_X1_wornNext_0 (j := 45) rfl rfl) (fl_X1_wornNext_0 (j := 46) rfl rfl) rfl
theorem dX1_wornNext_47 : decode cX1_wornNext 47 = .ok (.getfield 48, 3) := fq3_180 (fl_X1_wornNext_0 (j := 47) rfl rfl) (fl_X1_wornNext_0 (j := 48) rfl rfl) (fl_X1_wornNext_0 (j := 49) rfl rfl) rfl
theorem dX1_wornNext_50 : decode cX1_wornNext 50 = .ok (.getfield 52, 3) := fq3_180 (fl_X1_wornNext_0 (j := 50) rfl rfl) (fl_X1_wornNext_0 (j := 51) rfl rfl) (fl_X1_wornNext_0 (j := 52) rfl rfl) rfl
theorem dX1_wornNext_53 : decode cX1_wornNext 53 = .ok (.if_icmp .ge 62, 3) := fq3_162 (fl_X1_wornNext_0 (j := 53) rfl rfl) (fl_X1_wornNext_0 (j := 54) rfl rfl) (fl_X1_wornNext_0 (j := 55) rfl rfl) (s2p rfl (bl rfl))
theorem dX1_wornNext_56 : decode cX1_wornNext 56 = .ok (.iload 6, 2) := fq2_21 (fl_X1_wornNext_0 (j := 56) rfl rfl) (fl_X1_wornNext_0 (j := 57) rfl rfl) rfl
theorem dX1_wornNext_58 : decode cX1_wornNext 58 = .ok (.iload 4, 2) := fq2_21 (fl_X1_wornNext_0 (j := 58) rfl rfl) (fl_X1_wornNext_0 (j := 59) rfl rfl) rfl
theorem dX1_wornNext_60 : decode cX1_wornNext 60 = .ok (.if_icmp .ne 7, 3) := fq3_160 (fl_X1_wornNext_0 (j := 60) rfl rfl) (fl_X1_wornNext_0 (j := 61) rfl rfl) (fl_X1_wornNext_0 (j := 62) rfl rfl) (s2p rfl (bl rfl))
theorem dX1_wornNext_63 : decode cX1_wornNext 63 = .ok (.iconst (-1), 1) := fq1_2 (fl_X1_wornNext_0 (j := 63) rfl rfl)
def fb_X1_wornNext_1 : List UInt8 := [0xa7, 0x00, 0x0f, 0x2a, 0xb4, 0x00, 0x15, 0x15, 0x04, 0x15, 0x06, 0x1c, 0xb6, 0x00, 0x39, 0x36, 0x07, 0x15, 0x07, 0x02, 0x9f, 0x00, 0x19, 0x15, 0x05, 0x2b, 0x15, 0x06, 0x15, 0x07, 0xb6, 0x00, 0x3f, 0x04, 0xa0, 0x00, 0x07, 0x04, 0xa7, 0x00, 0x04, 0x02, 0x60, 0x36, 0x05, 0x84, 0x06, 0x01, 0xa7, 0xff, 0xb9, 0x15, 0x05, 0x9d, 0x00, 0x16, 0x15, 0x05, 0x9a, 0x00, 0x15, 0x2b, 0x15, 0x04]
theorem fl_X1_wornNext_1 {p j : Nat} {b : UInt8} (e : p = 64 + j) (h : fb_X1_wornNext_1[j]? = some b) : cX1_wornNext.data.toList[p]? = some b := fq_l (n := 64) (show (cX1_wornNext.data.toList.drop 64).take 64 = fb_X1_wornNext_1 by decide +kernel) e h
theorem dX1_wornNext_64 : decode cX1_wornNext 64 = .ok (.goto 15, 3) := fq3_167 (fl_X1_wornNext_1 (j := 0) rfl rfl) (fl_X1_wornNext_1 (j := 1) rfl rfl) (fl_X1_wornNext_1 (j := 2) rfl rfl) (s2p rfl (bl rfl))
theorem dX1_wornNext_67 : decode cX1_wornNext 67 = .ok (.aload_n 0, 1) := fq1_42 (fl_X1_wornNext_1 (j := 3) rfl rfl)
theorem dX1_wornNext_68 : decode cX1_wornNext 68 = .ok (.getfield 21, 3) := fq3_180 (fl_X1_wornNext_1 (j := 4) rfl rfl) (fl_X1_wornNext_1 (j := 5) rfl rfl) (fl_X1_wornNext_1 (j := 6) rfl rfl) rfl
theorem dX1_wornNext_71 : decode cX1_wornNext 71 = .ok (.iload 4, 2) := fq2_21 (fl_X1_wornNext_1 (j := 7) rfl rfl) (fl_X1_wornNext_1 (j := 8) rfl rfl) rfl
theorem dX1_wornNext_73 : decode cX1_wornNext 73 = .ok (.iload 6, 2) := fq2_21 (fl_X1_wornNext_1 (j := 9) rfl rfl) (fl_X1_wornNext_1 (j := 10) rfl rfl) rfl
theorem dX1_wornNext_75 : decode cX1_wornNext 75 = .ok (.iload_n 2, 1) := fq1_28 (fl_X1_wornNext_1 (j := 11) rfl rfl)
theorem dX1_wornNext_76 : decode cX1_wornNext 76 = .ok (.invokevirtual 57, 3) := fq3_182 (fl_X1_wornNext_1 (j := 12) rfl rfl) (fl_X1_wornNext_1 (j := 13) rfl rfl) (fl_X1_wornNext_1 (j := 14) rfl rfl) rfl
theorem dX1_wornNext_79 : decode cX1_wornNext 79 = .ok (.istore 7, 2) := fq2_54 (fl_X1_wornNext_1 (j := 15) rfl rfl) (fl_X1_wornNext_1 (j := 16) rfl rfl) rfl
theorem dX1_wornNext_81 : decode cX1_wornNext 81 = .ok (.iload 7, 2) := fq2_21 (fl_X1_wornNext_1 (j := 17) rfl rfl) (fl_X1_wornNext_1 (j := 18) rfl rfl) rfl
theorem dX1_wornNext_83 : decode cX1_wornNext 83 = .ok (.iconst (-1), 1) := fq1_2 (fl_X1_wornNext_1 (j := 19) rfl rfl)
theorem dX1_wornNext_84 : decode cX1_wornNext 84 = .ok (.if_icmp .eq 25, 3) := fq3_159 (fl_X1_wornNext_1 (j := 20) rfl rfl) (fl_X1_wornNext_1 (j := 21) rfl rfl) (fl_X1_wornNext_1 (j := 22) rfl rfl) (s2p rfl (bl rfl))
theorem dX1_wornNext_87 : decode cX1_wornNext 87 = .ok (.iload 5, 2) := fq2_21 (fl_X1_wornNext_1 (j := 23) rfl rfl) (fl_X1_wornNext_1 (j := 24) rfl rfl) rfl
theorem dX1_wornNext_89 : decode cX1_wornNext 89 = .ok (.aload_n 1, 1) := fq1_43 (fl_X1_wornNext_1 (j := 25) rfl rfl)
theorem dX1_wornNext_90 : decode cX1_wornNext 90 = .ok (.iload 6, 2) := fq2_21 (fl_X1_wornNext_1 (j := 26) rfl rfl) (fl_X1_wornNext_1 (j := 27) rfl rfl) rfl
theorem dX1_wornNext_92 : decode cX1_wornNext 92 = .ok (.iload 7, 2) := fq2_21 (fl_X1_wornNext_1 (j := 28) rfl rfl) (fl_X1_wornNext_1 (j := 29) rfl rfl) rfl
theorem dX1_wornNext_94 : decode cX1_wornNext 94 = .ok (.invokevirtual 63, 3) := fq3_182 (fl_X1_wornNext_1 (j := 30) rfl rfl) (fl_X1_wornNext_1 (j := 31) rfl rfl) (fl_X1_wornNext_1 (j := 32) rfl rfl) rfl
theorem dX1_wornNext_97 : decode cX1_wornNext 97 = .ok (.iconst 1, 1) := fq1_4 (fl_X1_wornNext_1 (j := 33) rfl rfl)
theorem dX1_wornNext_98 : decode cX1_wornNext 98 = .ok (.if_icmp .ne 7, 3) := fq3_160 (fl_X1_wornNext_1 (j := 34) rfl rfl) (fl_X1_wornNext_1 (j := 35) rfl rfl) (fl_X1_wornNext_1 (j := 36) rfl rfl) (s2p rfl (bl rfl))
theorem dX1_wornNext_101 : decode cX1_wornNext 101 = .ok (.iconst 1, 1) := fq1_4 (fl_X1_wornNext_1 (j := 37) rfl rfl)
theorem dX1_wornNext_102 : decode cX1_wornNext 102 = .ok (.goto 4, 3) := fq3_167 (fl_X1_wornNext_1 (j := 38) rfl rfl) (fl_X1_wornNext_1 (j := 39) rfl rfl) (fl_X1_wornNext_1 (j := 40) rfl rfl) (s2p rfl (bl rfl))
theorem dX1_wornNext_105 : decode cX1_wornNext 105 = .ok (.iconst (-1), 1) := fq1_2 (fl_X1_wornNext_1 (j := 41) rfl rfl)
theorem dX1_wornNext_106 : decode cX1_wornNext 106 = .ok (.iadd, 1) := fq1_96 (fl_X1_wornNext_1 (j := 42) rfl rfl)
theorem dX1_wornNext_107 : decode cX1_wornNext 107 = .ok (.istore 5, 2) := fq2_54 (fl_X1_wornNext_1 (j := 43) rfl rfl) (fl_X1_wornNext_1 (j := 44) rfl rfl) rfl
theorem dX1_wornNext_109 : decode cX1_wornNext 109 = .ok (.iinc 6 1, 3) := fq3_132 (fl_X1_wornNext_1 (j := 45) rfl rfl) (fl_X1_wornNext_1 (j := 46) rfl rfl) (fl_X1_wornNext_1 (j := 47) rfl rfl) rfl (s1p rfl (bl rfl))
theorem dX1_wornNext_112 : decode cX1_wornNext 112 = .ok (.goto (-71), 3) := fq3_167 (fl_X1_wornNext_1 (j := 48) rfl rfl) (fl_X1_wornNext_1 (j := 49) rfl rfl) (fl_X1_wornNext_1 (j := 50) rfl rfl) (by decide)
theorem dX1_wornNext_115 : decode cX1_wornNext 115 = .ok (.iload 5, 2) := fq2_21 (fl_X1_wornNext_1 (j := 51) rfl rfl) (fl_X1_wornNext_1 (j := 52) rfl rfl) rfl
theorem dX1_wornNext_117 : decode cX1_wornNext 117 = .ok (.ifCond .gt 22, 3) := fq3_157 (fl_X1_wornNext_1 (j := 53) rfl rfl) (fl_X1_wornNext_1 (j := 54) rfl rfl) (fl_X1_wornNext_1 (j := 55) rfl rfl) (s2p rfl (bl rfl))
theorem dX1_wornNext_120 : decode cX1_wornNext 120 = .ok (.iload 5, 2) := fq2_21 (fl_X1_wornNext_1 (j := 56) rfl rfl) (fl_X1_wornNext_1 (j := 57) rfl rfl) rfl
theorem dX1_wornNext_122 : decode cX1_wornNext 122 = .ok (.ifCond .ne 21, 3) := fq3_154 (fl_X1_wornNext_1 (j := 58) rfl rfl) (fl_X1_wornNext_1 (j := 59) rfl rfl) (fl_X1_wornNext_1 (j := 60) rfl rfl) (s2p rfl (bl rfl))
theorem dX1_wornNext_125 : decode cX1_wornNext 125 = .ok (.aload_n 1, 1) := fq1_43 (fl_X1_wornNext_1 (j := 61) rfl rfl)
theorem dX1_wornNext_126 : decode cX1_wornNext 126 = .ok (.iload 4, 2) := fq2_21 (fl_X1_wornNext_1 (j := 62) rfl rfl) (fl_X1_wornNext_1 (j := 63) rfl rfl) rfl
def fb_X1_wornNext_2 : List UInt8 := [0x2b, 0xb4, 0x00, 0x23, 0xb6, 0x00, 0x3f, 0x04, 0xa0, 0x00, 0x07, 0x04, 0xa7, 0x00, 0x04, 0x03, 0x36, 0x06, 0x1d, 0x15, 0x06, 0x99, 0x00, 0x0a, 0x04, 0x15, 0x04, 0x78, 0xa7, 0x00, 0x04, 0x03, 0x80, 0x3e, 0x84, 0x04, 0x01, 0xa7, 0xff, 0x6f, 0x1d, 0xac]
theorem fl_X1_wornNext_2 {p j : Nat} {b : UInt8} (e : p = 128 + j) (h : fb_X1_wornNext_2[j]? = some b) : cX1_wornNext.data.toList[p]? = some b := fq_l (n := 64) (show (cX1_wornNext.data.toList.drop 128).take 64 = fb_X1_wornNext_2 by decide +kernel) e h
theorem dX1_wornNext_128 : decode cX1_wornNext 128 = .ok (.aload_n 1, 1) := fq1_43 (fl_X1_wornNext_2 (j := 0) rfl rfl)
theorem dX1_wornNext_129 : decode cX1_wornNext 129 = .ok (.getfield 35, 3) := fq3_180 (fl_X1_wornNext_2 (j := 1) rfl rfl) (fl_X1_wornNext_2 (j := 2) rfl rfl) (fl_X1_wornNext_2 (j := 3) rfl rfl) rfl
theorem dX1_wornNext_132 : decode cX1_wornNext 132 = .ok (.invokevirtual 63, 3) := fq3_182 (fl_X1_wornNext_2 (j := 4) rfl rfl) (fl_X1_wornNext_2 (j := 5) rfl rfl) (fl_X1_wornNext_2 (j := 6) rfl rfl) rfl
theorem dX1_wornNext_135 : decode cX1_wornNext 135 = .ok (.iconst 1, 1) := fq1_4 (fl_X1_wornNext_2 (j := 7) rfl rfl)
theorem dX1_wornNext_136 : decode cX1_wornNext 136 = .ok (.if_icmp .ne 7, 3) := fq3_160 (fl_X1_wornNext_2 (j := 8) rfl rfl) (fl_X1_wornNext_2 (j := 9) rfl rfl) (fl_X1_wornNext_2 (j := 10) rfl rfl) (s2p rfl (bl rfl))
theorem dX1_wornNext_139 : decode cX1_wornNext 139 = .ok (.iconst 1, 1) := fq1_4 (fl_X1_wornNext_2 (j := 11) rfl rfl)
theorem dX1_wornNext_140 : decode cX1_wornNext 140 = .ok (.goto 4, 3) := fq3_167 (fl_X1_wornNext_2 (j := 12) rfl rfl) (fl_X1_wornNext_2 (j := 13) rfl rfl) (fl_X1_wornNext_2 (j := 14) rfl rfl) (s2p rfl (bl rfl))
theorem dX1_wornNext_143 : decode cX1_wornNext 143 = .ok (.iconst 0, 1) := fq1_3 (fl_X1_wornNext_2 (j := 15) rfl rfl)
theorem dX1_wornNext_144 : decode cX1_wornNext 144 = .ok (.istore 6, 2) := fq2_54 (fl_X1_wornNext_2 (j := 16) rfl rfl) (fl_X1_wornNext_2 (j := 17) rfl rfl) rfl
theorem dX1_wornNext_146 : decode cX1_wornNext 146 = .ok (.iload_n 3, 1) := fq1_29 (fl_X1_wornNext_2 (j := 18) rfl rfl)
theorem dX1_wornNext_147 : decode cX1_wornNext 147 = .ok (.iload 6, 2) := fq2_21 (fl_X1_wornNext_2 (j := 19) rfl rfl) (fl_X1_wornNext_2 (j := 20) rfl rfl) rfl
theorem dX1_wornNext_149 : decode cX1_wornNext 149 = .ok (.ifCond .eq 10, 3) := fq3_153 (fl_X1_wornNext_2 (j := 21) rfl rfl) (fl_X1_wornNext_2 (j := 22) rfl rfl) (fl_X1_wornNext_2 (j := 23) rfl rfl) (s2p rfl (bl rfl))
theorem dX1_wornNext_152 : decode cX1_wornNext 152 = .ok (.iconst 1, 1) := fq1_4 (fl_X1_wornNext_2 (j := 24) rfl rfl)
theorem dX1_wornNext_153 : decode cX1_wornNext 153 = .ok (.iload 4, 2) := fq2_21 (fl_X1_wornNext_2 (j := 25) rfl rfl) (fl_X1_wornNext_2 (j := 26) rfl rfl) rfl
theorem dX1_wornNext_155 : decode cX1_wornNext 155 = .ok (.ishl, 1) := fq1_120 (fl_X1_wornNext_2 (j := 27) rfl rfl)
theorem dX1_wornNext_156 : decode cX1_wornNext 156 = .ok (.goto 4, 3) := fq3_167 (fl_X1_wornNext_2 (j := 28) rfl rfl) (fl_X1_wornNext_2 (j := 29) rfl rfl) (fl_X1_wornNext_2 (j := 30) rfl rfl) (s2p rfl (bl rfl))
theorem dX1_wornNext_159 : decode cX1_wornNext 159 = .ok (.iconst 0, 1) := fq1_3 (fl_X1_wornNext_2 (j := 31) rfl rfl)
theorem dX1_wornNext_160 : decode cX1_wornNext 160 = .ok (.ior, 1) := fq1_128 (fl_X1_wornNext_2 (j := 32) rfl rfl)
theorem dX1_wornNext_161 : decode cX1_wornNext 161 = .ok (.istore_n 3, 1) := fq1_62 (fl_X1_wornNext_2 (j := 33) rfl rfl)
theorem dX1_wornNext_162 : decode cX1_wornNext 162 = .ok (.iinc 4 1, 3) := fq3_132 (fl_X1_wornNext_2 (j := 34) rfl rfl) (fl_X1_wornNext_2 (j := 35) rfl rfl) (fl_X1_wornNext_2 (j := 36) rfl rfl) rfl (s1p rfl (bl rfl))
theorem dX1_wornNext_165 : decode cX1_wornNext 165 = .ok (.goto (-145), 3) := fq3_167 (fl_X1_wornNext_2 (j := 37) rfl rfl) (fl_X1_wornNext_2 (j := 38) rfl rfl) (fl_X1_wornNext_2 (j := 39) rfl rfl) (by decide)
theorem dX1_wornNext_168 : decode cX1_wornNext 168 = .ok (.iload_n 3, 1) := fq1_29 (fl_X1_wornNext_2 (j := 40) rfl rfl)
theorem dX1_wornNext_169 : decode cX1_wornNext 169 = .ok (.ireturn, 1) := fq1_172 (fl_X1_wornNext_2 (j := 41) rfl rfl)
end

section
theorem rg_ext {f g : Nat → Int32} {lo hi n v : Int} (h : rgI f lo hi n) (hg : g = upd f (iZ n).toNatClampNeg (iZ v)) (h0 : 0 ≤ n ∧ n < 2147483648) (hv : lo ≤ v ∧ v ≤ hi) (hr : -2147483648 ≤ v ∧ v < 2147483648) : rgI g lo hi (n + 1) := by
  intro j hj hn
  rw [gz_up hg h0 hr hj]
  by_cases he : j = n
  · rw [if_pos he]; exact hv
  · rw [if_neg he]; exact h j hj (by omega)
/-- what the steps of YEARS may name -/
def YI (yw y1 y3 yp : Nat → Int32) (n rows : Int) : Prop := ∀ r : Int, 0 ≤ r → r < rows → (gz yw r = 17 → 0 ≤ gz y1 r ∧ gz y1 r < n) ∧ (gz yw r = 19 → gz y1 r = 20 → 0 ≤ gz y3 r ∧ gz y3 r < 6) ∧ (gz yw r = 19 ∨ gz yw r = 23 → 0 ≤ gz yp r ∧ gz yp r < rows)
/-- Life's world keeps its ranges: I: answer, week, orders, drawn, steps ..; F: known, tellers, hops, worn, givers, sent, known of orders, rounds, costs -/
def BI (n : Int) (I : Nat → Int) (F : Nat → Nat → Int32) : Prop := (0 ≤ I 1 ∧ I 1 ≤ 400) ∧ (0 ≤ I 2 ∧ I 2 ≤ 20) ∧ (0 ≤ I 3 ∧ I 3 ≤ 65535) ∧ rgI (F 0) (-1) 420 6 ∧ rgI (F 1) (-1) 5 6 ∧ rgI (F 4) 0 (n - 1) (I 2)
end

section
theorem qf_X1_67 : Cond.fieldLink RX1 67 "SlowWorlds$Course" "orders" "I" ∈ gw := tbt (tb1 (List.mem_of_getElem? (i := 107) rfl)) rfl
theorem qf_X1_25 : Cond.fieldLink RX1 25 "SlowWorlds$Life" "news" "LSlowWorlds$News;" ∈ gw := tbt (tb2 (List.mem_of_getElem? (i := 140) rfl)) rfl
theorem qc_X2_spread : Cond.code yX2_spread cX2_spread 6 none ∈ gw := tbt (tb4 (List.mem_of_getElem? (i := 155) rfl)) rfl
theorem qi_yX2_spread : Cond.instanceMethod yX2_spread ∈ gw := tbt (tb4 (List.mem_of_getElem? (i := 153) rfl)) rfl
theorem qs_X2_spread : Cond.selects (yX2_spread).cls yX2_spread yX2_spread ∈ gw := tbt (tb4 (List.mem_of_getElem? (i := 154) rfl)) rfl
theorem ci_X2_spread : CIv yX2_spread cX2_spread 6 none 2 := ⟨qc_X2_spread, qi_yX2_spread, qs_X2_spread, qz_X2, by decide +kernel⟩
theorem qm_X1_70 : Cond.methodLink RX1 70 yX2_spread ∈ gw := tbt (tb4 (List.mem_of_getElem? (i := 223) rfl)) rfl
theorem qf_X1_76 : Cond.fieldLink RX1 76 "SlowWorlds$Course" "givers" "[I" ∈ gw := tbt (tb1 (List.mem_of_getElem? (i := 94) rfl)) rfl
theorem qf_X1_79 : Cond.fieldLink RX1 79 "SlowWorlds$Course" "sent" "[I" ∈ gw := tbt (tb1 (List.mem_of_getElem? (i := 98) rfl)) rfl
theorem qf_X1_82 : Cond.fieldLink RX1 82 "SlowWorlds$News" "known" "[I" ∈ gw := tbt (tb2 (List.mem_of_getElem? (i := 112) rfl)) rfl
theorem qf_X1_85 : Cond.fieldLink RX1 85 "SlowWorlds$Course" "known" "[I" ∈ gw := tbt (tb1 (List.mem_of_getElem? (i := 102) rfl)) rfl
theorem qm_X1_86 : Cond.methodLink RX1 86 arraycopyName ∈ gw := tbt (tb4 (List.mem_of_getElem? (i := 224) rfl)) rfl
theorem qn_arraycopy : Cond.native arraycopyName ∈ gw := tbt (tb3 (List.mem_of_getElem? (i := 76) rfl)) rfl
theorem qt_arraycopyName : Cond.static arraycopyName ∈ gw := tbt (tb3 (List.mem_of_getElem? (i := 75) rfl)) rfl
theorem qz_J10 : Cond.initialized RJ10 ∈ gw := tbt (tb1 (List.mem_of_getElem? (i := 19) rfl)) rfl
theorem qf_X1_96 : Cond.fieldLink RX1 96 "SlowWorlds$Life" "drawn" "I" ∈ gw := tbt (tb2 (List.mem_of_getElem? (i := 142) rfl)) rfl
theorem qk_X1_157 : Cond.constant RX1 157 (65536) ∈ gw := tbt (tb5 (List.mem_of_getElem? (i := 237) rfl)) rfl
theorem qc_X0_turnRound : Cond.code yX0_turnRound cX0_turnRound 2 none ∈ gw := tbt (tb6 (List.mem_of_getElem? (i := 1) rfl)) rfl
theorem qi_yX0_turnRound : Cond.instanceMethod yX0_turnRound ∈ gw := tbt (tb5 (List.mem_of_getElem? (i := 239) rfl)) rfl
theorem qs_X0_turnRound : Cond.selects (yX0_turnRound).cls yX0_turnRound yX0_turnRound ∈ gw := tbt (tb6 (List.mem_of_getElem? (i := 0) rfl)) rfl
theorem ci_X0_turnRound : CIv yX0_turnRound cX0_turnRound 2 none 1 := ⟨qc_X0_turnRound, qi_yX0_turnRound, qs_X0_turnRound, qz_X0, by decide +kernel⟩
theorem qm_X1_158 : Cond.methodLink RX1 158 yX0_turnRound ∈ gw := tbt (tb5 (List.mem_of_getElem? (i := 238) rfl)) rfl
theorem qf_X1_108 : Cond.fieldLink RX1 108 "SlowWorlds$Life" "turned" "I" ∈ gw := tbt (tb2 (List.mem_of_getElem? (i := 149) rfl)) rfl
theorem qf_X1_92 : Cond.fieldLink RX1 92 "SlowWorlds$World" "years" "LSlowWorlds$Years;" ∈ gw := tbt (tb1 (List.mem_of_getElem? (i := 175) rfl)) rfl
theorem qf_X1_131 : Cond.fieldLink RX1 131 "SlowWorlds$Years" "partners" "[I" ∈ gw := tbt (tb1 (List.mem_of_getElem? (i := 142) rfl)) rfl
theorem qf_X1_121 : Cond.fieldLink RX1 121 "SlowWorlds$Years" "words" "[I" ∈ gw := tbt (tb1 (List.mem_of_getElem? (i := 130) rfl)) rfl
theorem qf_X1_11 : Cond.fieldLink RX1 11 "SlowWorlds$Life" "rounds" "[I" ∈ gw := tbt (tb2 (List.mem_of_getElem? (i := 141) rfl)) rfl
theorem qf_X1_140 : Cond.fieldLink RX1 140 "SlowWorlds$Years" "second" "[I" ∈ gw := tbt (tb1 (List.mem_of_getElem? (i := 136) rfl)) rfl
theorem qf_X1_161 : Cond.fieldLink RX1 161 "SlowWorlds$Years" "third" "[I" ∈ gw := tbt (tb1 (List.mem_of_getElem? (i := 139) rfl)) rfl
theorem qf_X1_134 : Cond.fieldLink RX1 134 "SlowWorlds$Years" "first" "[I" ∈ gw := tbt (tb1 (List.mem_of_getElem? (i := 133) rfl)) rfl
theorem qm_X1_164 : Cond.methodLink RX1 164 yX8_ruler ∈ gw := tbt (tb6 (List.mem_of_getElem? (i := 6) rfl)) rfl
theorem qc_X1_letPass : Cond.code yX1_letPass cX1_letPass 4 (some .int) ∈ gw := tbt (tb5 (List.mem_of_getElem? (i := 166) rfl)) rfl
theorem qi_yX1_letPass : Cond.instanceMethod yX1_letPass ∈ gw := tbt (tb5 (List.mem_of_getElem? (i := 164) rfl)) rfl
theorem qs_X1_letPass : Cond.selects (yX1_letPass).cls yX1_letPass yX1_letPass ∈ gw := tbt (tb5 (List.mem_of_getElem? (i := 165) rfl)) rfl
theorem ci_X1_letPass : CIv yX1_letPass cX1_letPass 4 (some .int) 1 := ⟨qc_X1_letPass, qi_yX1_letPass, qs_X1_letPass, qz_X1, by decide +kernel⟩
theorem qm_X1_137 : Cond.methodLink RX1 137 yX1_letPass ∈ gw := tbt (tb5 (List.mem_of_getElem? (i := 230) rfl)) rfl
theorem qf_X1_105 : Cond.fieldLink RX1 105 "SlowWorlds$Life" "weeks" "I" ∈ gw := tbt (tb2 (List.mem_of_getElem? (i := 147) rfl)) rfl
theorem qf_X1_102 : Cond.fieldLink RX1 102 "SlowWorlds$Life" "missed" "I" ∈ gw := tbt (tb2 (List.mem_of_getElem? (i := 145) rfl)) rfl
theorem qc_X0_dress : Cond.code yX0_dress cX0_dress 3 none ∈ gw := tbt (tb5 (List.mem_of_getElem? (i := 188) rfl)) rfl
theorem qi_yX0_dress : Cond.instanceMethod yX0_dress ∈ gw := tbt (tb5 (List.mem_of_getElem? (i := 186) rfl)) rfl
theorem qs_X0_dress : Cond.selects (yX0_dress).cls yX0_dress yX0_dress ∈ gw := tbt (tb5 (List.mem_of_getElem? (i := 187) rfl)) rfl
theorem ci_X0_dress : CIv yX0_dress cX0_dress 3 none 2 := ⟨qc_X0_dress, qi_yX0_dress, qs_X0_dress, qz_X0, by decide +kernel⟩
theorem qm_X1_143 : Cond.methodLink RX1 143 yX0_dress ∈ gw := tbt (tb5 (List.mem_of_getElem? (i := 231) rfl)) rfl
theorem qc_X1_giveOrder : Cond.code yX1_giveOrder cX1_giveOrder 4 (some .int) ∈ gw := tbt (tb4 (List.mem_of_getElem? (i := 222) rfl)) rfl
theorem qi_yX1_giveOrder : Cond.instanceMethod yX1_giveOrder ∈ gw := tbt (tb4 (List.mem_of_getElem? (i := 220) rfl)) rfl
theorem qs_X1_giveOrder : Cond.selects (yX1_giveOrder).cls yX1_giveOrder yX1_giveOrder ∈ gw := tbt (tb4 (List.mem_of_getElem? (i := 221) rfl)) rfl
theorem ci_X1_giveOrder : CIv yX1_giveOrder cX1_giveOrder 4 (some .int) 1 := ⟨qc_X1_giveOrder, qi_yX1_giveOrder, qs_X1_giveOrder, qz_X1, by decide +kernel⟩
theorem qm_X1_146 : Cond.methodLink RX1 146 yX1_giveOrder ∈ gw := tbt (tb5 (List.mem_of_getElem? (i := 232) rfl)) rfl
theorem qf_X1_111 : Cond.fieldLink RX1 111 "SlowWorlds$Life" "ordered" "I" ∈ gw := tbt (tb2 (List.mem_of_getElem? (i := 151) rfl)) rfl
theorem qc_X1_turnByChance : Cond.code yX1_turnByChance cX1_turnByChance 3 none ∈ gw := tbt (tb5 (List.mem_of_getElem? (i := 236) rfl)) rfl
theorem qi_yX1_turnByChance : Cond.instanceMethod yX1_turnByChance ∈ gw := tbt (tb5 (List.mem_of_getElem? (i := 235) rfl)) rfl
theorem qs_X1_turnByChance : Cond.selects (yX1_turnByChance).cls yX1_turnByChance yX1_turnByChance ∈ gw := tb0 (List.mem_of_getElem? (i := 34) rfl) rfl
theorem ci_X1_turnByChance : CIv yX1_turnByChance cX1_turnByChance 3 none 1 := ⟨qc_X1_turnByChance, qi_yX1_turnByChance, qs_X1_turnByChance, qz_X1, by decide +kernel⟩
theorem qm_X1_149 : Cond.methodLink RX1 149 yX1_turnByChance ∈ gw := tbt (tb5 (List.mem_of_getElem? (i := 233) rfl)) rfl
theorem qc_X1_holds : Cond.code yX1_holds cX1_holds 6 (some .boolean) ∈ gw := tbt (tb6 (List.mem_of_getElem? (i := 5) rfl)) rfl
theorem qi_yX1_holds : Cond.instanceMethod yX1_holds ∈ gw := tbt (tb6 (List.mem_of_getElem? (i := 4) rfl)) rfl
theorem qs_X1_holds : Cond.selects (yX1_holds).cls yX1_holds yX1_holds ∈ gw := tb0 (List.mem_of_getElem? (i := 35) rfl) rfl
theorem ci_X1_holds : CIv yX1_holds cX1_holds 6 (some .boolean) 1 := ⟨qc_X1_holds, qi_yX1_holds, qs_X1_holds, qz_X1, by decide +kernel⟩
theorem qm_X1_153 : Cond.methodLink RX1 153 yX1_holds ∈ gw := tbt (tb6 (List.mem_of_getElem? (i := 2) rfl)) rfl
theorem qf_X1_118 : Cond.fieldLink RX1 118 "SlowWorlds$Years" "rows" "I" ∈ gw := tbt (tb1 (List.mem_of_getElem? (i := 150) rfl)) rfl
theorem qf_X1_99 : Cond.fieldLink RX1 99 "SlowWorlds$Life" "steps" "I" ∈ gw := tbt (tb2 (List.mem_of_getElem? (i := 143) rfl)) rfl
theorem qf_X1_114 : Cond.fieldLink RX1 114 "SlowWorlds$Life" "left" "I" ∈ gw := tbt (tb2 (List.mem_of_getElem? (i := 153) rfl)) rfl
theorem qk_X1_117 : Cond.constant RX1 117 (1000000) ∈ gw := tbt (tb5 (List.mem_of_getElem? (i := 221) rfl)) rfl
theorem qc_X1_behindStep : Cond.code yX1_behindStep cX1_behindStep 6 (some .int) ∈ gw := tbt (tb5 (List.mem_of_getElem? (i := 229) rfl)) rfl
theorem qi_yX1_behindStep : Cond.instanceMethod yX1_behindStep ∈ gw := tbt (tb5 (List.mem_of_getElem? (i := 228) rfl)) rfl
theorem qs_X1_behindStep : Cond.selects (yX1_behindStep).cls yX1_behindStep yX1_behindStep ∈ gw := tb0 (List.mem_of_getElem? (i := 33) rfl) rfl
theorem ci_X1_behindStep : CIv yX1_behindStep cX1_behindStep 6 (some .int) 1 := ⟨qc_X1_behindStep, qi_yX1_behindStep, qs_X1_behindStep, qz_X1, by decide +kernel⟩
theorem qm_X1_128 : Cond.methodLink RX1 128 yX1_behindStep ∈ gw := tbt (tb5 (List.mem_of_getElem? (i := 226) rfl)) rfl
theorem qc_X1_behindEnd : Cond.code yX1_behindEnd cX1_behindEnd 3 (some .int) ∈ gw := tbt (tb5 (List.mem_of_getElem? (i := 225) rfl)) rfl
theorem qi_yX1_behindEnd : Cond.instanceMethod yX1_behindEnd ∈ gw := tbt (tb5 (List.mem_of_getElem? (i := 224) rfl)) rfl
theorem qs_X1_behindEnd : Cond.selects (yX1_behindEnd).cls yX1_behindEnd yX1_behindEnd ∈ gw := tb0 (List.mem_of_getElem? (i := 32) rfl) rfl
theorem ci_X1_behindEnd : CIv yX1_behindEnd cX1_behindEnd 3 (some .int) 1 := ⟨qc_X1_behindEnd, qi_yX1_behindEnd, qs_X1_behindEnd, qz_X1, by decide +kernel⟩
theorem qm_X1_124 : Cond.methodLink RX1 124 yX1_behindEnd ∈ gw := tbt (tb5 (List.mem_of_getElem? (i := 222) rfl)) rfl
def fb_X1_behindEnd_0 : List UInt8 := [0x2a, 0xb4, 0x00, 0x11, 0xb4, 0x00, 0x5c, 0xb4, 0x00, 0x83, 0x1b, 0x2e, 0x3d, 0x2a, 0xb4, 0x00, 0x11, 0xb4, 0x00, 0x5c, 0xb4, 0x00, 0x79, 0x1c, 0x2e, 0x10, 0x16, 0xa0, 0x00, 0x1a, 0x2a, 0xb4, 0x00, 0x0b, 0x1c, 0x5c, 0x2e, 0x04, 0x64, 0x4f, 0x2a, 0xb4, 0x00, 0x0b, 0x1c, 0x2e, 0x9e, 0x00, 0x07, 0x1c, 0x04, 0x60, 0xac, 0x1b, 0x04, 0x60, 0xac]
theorem fl_X1_behindEnd_0 {p j : Nat} {b : UInt8} (e : p = 0 + j) (h : fb_X1_behindEnd_0[j]? = some b) : cX1_behindEnd.data.toList[p]? = some b := fq_l (n := 64) (show (cX1_behindEnd.data.toList.drop 0).take 64 = fb_X1_behindEnd_0 by decide +kernel) e h
theorem dX1_behindEnd_0 : decode cX1_behindEnd 0 = .ok (.aload_n 0, 1) := fq1_42 (fl_X1_behindEnd_0 (j := 0) rfl rfl)
theorem dX1_behindEnd_1 : decode cX1_behindEnd 1 = .ok (.getfield 17, 3) := fq3_180 (fl_X1_behindEnd_0 (j := 1) rfl rfl) (fl_X1_behindEnd_0 (j := 2) rfl rfl) (fl_X1_behindEnd_0 (j := 3) rfl rfl) rfl
theorem dX1_behindEnd_4 : decode cX1_behindEnd 4 = .ok (.getfield 92, 3) := fq3_180 (fl_X1_behindEnd_0 (j := 4) rfl rfl) (fl_X1_behindEnd_0 (j := 5) rfl rfl) (fl_X1_behindEnd_0 (j := 6) rfl rfl) rfl
theorem dX1_behindEnd_7 : decode cX1_behindEnd 7 = .ok (.getfield 131, 3) := fq3_180 (fl_X1_behindEnd_0 (j := 7) rfl rfl) (fl_X1_behindEnd_0 (j := 8) rfl rfl) (fl_X1_behindEnd_0 (j := 9) rfl rfl) rfl
theorem dX1_behindEnd_10 : decode cX1_behindEnd 10 = .ok (.iload_n 1, 1) := fq1_27 (fl_X1_behindEnd_0 (j := 10) rfl rfl)
theorem dX1_behindEnd_11 : decode cX1_behindEnd 11 = .ok (.iaload, 1) := fq1_46 (fl_X1_behindEnd_0 (j := 11) rfl rfl)
theorem dX1_behindEnd_12 : decode cX1_behindEnd 12 = .ok (.istore_n 2, 1) := fq1_61 (fl_X1_behindEnd_0 (j := 12) rfl rfl)
theorem dX1_behindEnd_13 : decode cX1_behindEnd 13 = .ok (.aload_n 0, 1) := fq1_42 (fl_X1_behindEnd_0 (j := 13) rfl rfl)
theorem dX1_behindEnd_14 : decode cX1_behindEnd 14 = .ok (.getfield 17, 3) := fq3_180 (fl_X1_behindEnd_0 (j := 14) rfl rfl) (fl_X1_behindEnd_0 (j := 15) rfl rfl) (fl_X1_behindEnd_0 (j := 16) rfl rfl) rfl
theorem dX1_behindEnd_17 : decode cX1_behindEnd 17 = .ok (.getfield 92, 3) := fq3_180 (fl_X1_behindEnd_0 (j := 17) rfl rfl) (fl_X1_behindEnd_0 (j := 18) rfl rfl) (fl_X1_behindEnd_0 (j := 19) rfl rfl) rfl
theorem dX1_behindEnd_20 : decode cX1_behindEnd 20 = .ok (.getfield 121, 3) := fq3_180 (fl_X1_behindEnd_0 (j := 20) rfl rfl) (fl_X1_behindEnd_0 (j := 21) rfl rfl) (fl_X1_behindEnd_0 (j := 22) rfl rfl) rfl
theorem dX1_behindEnd_23 : decode cX1_behindEnd 23 = .ok (.iload_n 2, 1) := fq1_28 (fl_X1_behindEnd_0 (j := 23) rfl rfl)
theorem dX1_behindEnd_24 : decode cX1_behindEnd 24 = .ok (.iaload, 1) := fq1_46 (fl_X1_behindEnd_0 (j := 24) rfl rfl)
theorem dX1_behindEnd_25 : decode cX1_behindEnd 25 = .ok (.bipush 22, 2) := fq2_16 (fl_X1_behindEnd_0 (j := 25) rfl rfl) (fl_X1_behindEnd_0 (j := 26) rfl rfl) (s1p rfl (bl rfl))
theorem dX1_behindEnd_27 : decode cX1_behindEnd 27 = .ok (.if_icmp .ne 26, 3) := fq3_160 (fl_X1_behindEnd_0 (j := 27) rfl rfl) (fl_X1_behindEnd_0 (j := 28) rfl rfl) (fl_X1_behindEnd_0 (j := 29) rfl rfl) (s2p rfl (bl rfl))
theorem dX1_behindEnd_30 : decode cX1_behindEnd 30 = .ok (.aload_n 0, 1) := fq1_42 (fl_X1_behindEnd_0 (j := 30) rfl rfl)
theorem dX1_behindEnd_31 : decode cX1_behindEnd 31 = .ok (.getfield 11, 3) := fq3_180 (fl_X1_behindEnd_0 (j := 31) rfl rfl) (fl_X1_behindEnd_0 (j := 32) rfl rfl) (fl_X1_behindEnd_0 (j := 33) rfl rfl) rfl
theorem dX1_behindEnd_34 : decode cX1_behindEnd 34 = .ok (.iload_n 2, 1) := fq1_28 (fl_X1_behindEnd_0 (j := 34) rfl rfl)
theorem dX1_behindEnd_35 : decode cX1_behindEnd 35 = .ok (.dup2, 1) := fq1_92 (fl_X1_behindEnd_0 (j := 35) rfl rfl)
theorem dX1_behindEnd_36 : decode cX1_behindEnd 36 = .ok (.iaload, 1) := fq1_46 (fl_X1_behindEnd_0 (j := 36) rfl rfl)
theorem dX1_behindEnd_37 : decode cX1_behindEnd 37 = .ok (.iconst 1, 1) := fq1_4 (fl_X1_behindEnd_0 (j := 37) rfl rfl)
theorem dX1_behindEnd_38 : decode cX1_behindEnd 38 = .ok (.isub, 1) := fq1_100 (fl_X1_behindEnd_0 (j := 38) rfl rfl)
theorem dX1_behindEnd_39 : decode cX1_behindEnd 39 = .ok (.iastore, 1) := fq1_79 (fl_X1_behindEnd_0 (j := 39) rfl rfl)
theorem dX1_behindEnd_40 : decode cX1_behindEnd 40 = .ok (.aload_n 0, 1) := fq1_42 (fl_X1_behindEnd_0 (j := 40) rfl rfl)
theorem dX1_behindEnd_41 : decode cX1_behindEnd 41 = .ok (.getfield 11, 3) := fq3_180 (fl_X1_behindEnd_0 (j := 41) rfl rfl) (fl_X1_behindEnd_0 (j := 42) rfl rfl) (fl_X1_behindEnd_0 (j := 43) rfl rfl) rfl
theorem dX1_behindEnd_44 : decode cX1_behindEnd 44 = .ok (.iload_n 2, 1) := fq1_28 (fl_X1_behindEnd_0 (j := 44) rfl rfl)
theorem dX1_behindEnd_45 : decode cX1_behindEnd 45 = .ok (.iaload, 1) := fq1_46 (fl_X1_behindEnd_0 (j := 45) rfl rfl)
theorem dX1_behindEnd_46 : decode cX1_behindEnd 46 = .ok (.ifCond .le 7, 3) := fq3_158 (fl_X1_behindEnd_0 (j := 46) rfl rfl) (fl_X1_behindEnd_0 (j := 47) rfl rfl) (fl_X1_behindEnd_0 (j := 48) rfl rfl) (s2p rfl (bl rfl))
theorem dX1_behindEnd_49 : decode cX1_behindEnd 49 = .ok (.iload_n 2, 1) := fq1_28 (fl_X1_behindEnd_0 (j := 49) rfl rfl)
theorem dX1_behindEnd_50 : decode cX1_behindEnd 50 = .ok (.iconst 1, 1) := fq1_4 (fl_X1_behindEnd_0 (j := 50) rfl rfl)
theorem dX1_behindEnd_51 : decode cX1_behindEnd 51 = .ok (.iadd, 1) := fq1_96 (fl_X1_behindEnd_0 (j := 51) rfl rfl)
theorem dX1_behindEnd_52 : decode cX1_behindEnd 52 = .ok (.ireturn, 1) := fq1_172 (fl_X1_behindEnd_0 (j := 52) rfl rfl)
theorem dX1_behindEnd_53 : decode cX1_behindEnd 53 = .ok (.iload_n 1, 1) := fq1_27 (fl_X1_behindEnd_0 (j := 53) rfl rfl)
theorem dX1_behindEnd_54 : decode cX1_behindEnd 54 = .ok (.iconst 1, 1) := fq1_4 (fl_X1_behindEnd_0 (j := 54) rfl rfl)
theorem dX1_behindEnd_55 : decode cX1_behindEnd 55 = .ok (.iadd, 1) := fq1_96 (fl_X1_behindEnd_0 (j := 55) rfl rfl)
theorem dX1_behindEnd_56 : decode cX1_behindEnd 56 = .ok (.ireturn, 1) := fq1_172 (fl_X1_behindEnd_0 (j := 56) rfl rfl)
def fb_X1_behindStep_0 : List UInt8 := [0x2a, 0xb4, 0x00, 0x11, 0xb4, 0x00, 0x5c, 0x4d, 0x2c, 0xb4, 0x00, 0x86, 0x1b, 0x2e, 0x3e, 0x2c, 0xb4, 0x00, 0x79, 0x1b, 0x2e, 0xaa, 0x00, 0x00, 0x00, 0x00, 0x00, 0xd3, 0x00, 0x00, 0x00, 0x0f, 0x00, 0x00, 0x00, 0x16, 0x00, 0x00, 0x00, 0x2f, 0x00, 0x00, 0x00, 0x59, 0x00, 0x00, 0x00, 0x6e, 0x00, 0x00, 0x00, 0xa8, 0x00, 0x00, 0x00, 0xb1, 0x00, 0x00, 0x00, 0xd3, 0x00, 0x00, 0x00, 0xd3]
theorem fl_X1_behindStep_0 {p j : Nat} {b : UInt8} (e : p = 0 + j) (h : fb_X1_behindStep_0[j]? = some b) : cX1_behindStep.data.toList[p]? = some b := fq_l (n := 64) (show (cX1_behindStep.data.toList.drop 0).take 64 = fb_X1_behindStep_0 by decide +kernel) e h
theorem dX1_behindStep_0 : decode cX1_behindStep 0 = .ok (.aload_n 0, 1) := fq1_42 (fl_X1_behindStep_0 (j := 0) rfl rfl)
theorem dX1_behindStep_1 : decode cX1_behindStep 1 = .ok (.getfield 17, 3) := fq3_180 (fl_X1_behindStep_0 (j := 1) rfl rfl) (fl_X1_behindStep_0 (j := 2) rfl rfl) (fl_X1_behindStep_0 (j := 3) rfl rfl) rfl
theorem dX1_behindStep_4 : decode cX1_behindStep 4 = .ok (.getfield 92, 3) := fq3_180 (fl_X1_behindStep_0 (j := 4) rfl rfl) (fl_X1_behindStep_0 (j := 5) rfl rfl) (fl_X1_behindStep_0 (j := 6) rfl rfl) rfl
theorem dX1_behindStep_7 : decode cX1_behindStep 7 = .ok (.astore_n 2, 1) := fq1_77 (fl_X1_behindStep_0 (j := 7) rfl rfl)
theorem dX1_behindStep_8 : decode cX1_behindStep 8 = .ok (.aload_n 2, 1) := fq1_44 (fl_X1_behindStep_0 (j := 8) rfl rfl)
theorem dX1_behindStep_9 : decode cX1_behindStep 9 = .ok (.getfield 134, 3) := fq3_180 (fl_X1_behindStep_0 (j := 9) rfl rfl) (fl_X1_behindStep_0 (j := 10) rfl rfl) (fl_X1_behindStep_0 (j := 11) rfl rfl) rfl
theorem dX1_behindStep_12 : decode cX1_behindStep 12 = .ok (.iload_n 1, 1) := fq1_27 (fl_X1_behindStep_0 (j := 12) rfl rfl)
theorem dX1_behindStep_13 : decode cX1_behindStep 13 = .ok (.iaload, 1) := fq1_46 (fl_X1_behindStep_0 (j := 13) rfl rfl)
theorem dX1_behindStep_14 : decode cX1_behindStep 14 = .ok (.istore_n 3, 1) := fq1_62 (fl_X1_behindStep_0 (j := 14) rfl rfl)
theorem dX1_behindStep_15 : decode cX1_behindStep 15 = .ok (.aload_n 2, 1) := fq1_44 (fl_X1_behindStep_0 (j := 15) rfl rfl)
theorem dX1_behindStep_16 : decode cX1_behindStep 16 = .ok (.getfield 121, 3) := fq3_180 (fl_X1_behindStep_0 (j := 16) rfl rfl) (fl_X1_behindStep_0 (j := 17) rfl rfl) (fl_X1_behindStep_0 (j := 18) rfl rfl) rfl
theorem dX1_behindStep_19 : decode cX1_behindStep 19 = .ok (.iload_n 1, 1) := fq1_27 (fl_X1_behindStep_0 (j := 19) rfl rfl)
theorem dX1_behindStep_20 : decode cX1_behindStep 20 = .ok (.iaload, 1) := fq1_46 (fl_X1_behindStep_0 (j := 20) rfl rfl)
theorem dX1_behindStep_21 : decode cX1_behindStep 21 = .ok (.tableswitch 211 15 22 #[47, 89, 110, 168, 177, 211, 211, 200], 47) := by decide +kernel
def fb_X1_behindStep_1 : List UInt8 := [0x00, 0x00, 0x00, 0xc8, 0x2a, 0x1d, 0xb6, 0x00, 0x89, 0x36, 0x04, 0x2a, 0x59, 0xb4, 0x00, 0x69, 0x15, 0x04, 0x60, 0xb5, 0x00, 0x69, 0x2a, 0x59, 0xb4, 0x00, 0x66, 0x15, 0x04, 0x1d, 0xa2, 0x00, 0x07, 0x04, 0xa7, 0x00, 0x04, 0x03, 0x60, 0xb5, 0x00, 0x66, 0x1b, 0x04, 0x60, 0xac, 0x2a, 0xb4, 0x00, 0x11, 0xb4, 0x00, 0x1d, 0x1d, 0x2c, 0xb4, 0x00, 0x8c, 0x1b, 0x2e, 0xb6, 0x00, 0x8f, 0x1b]
theorem fl_X1_behindStep_1 {p j : Nat} {b : UInt8} (e : p = 64 + j) (h : fb_X1_behindStep_1[j]? = some b) : cX1_behindStep.data.toList[p]? = some b := fq_l (n := 64) (show (cX1_behindStep.data.toList.drop 64).take 64 = fb_X1_behindStep_1 by decide +kernel) e h
theorem dX1_behindStep_68 : decode cX1_behindStep 68 = .ok (.aload_n 0, 1) := fq1_42 (fl_X1_behindStep_1 (j := 4) rfl rfl)
theorem dX1_behindStep_69 : decode cX1_behindStep 69 = .ok (.iload_n 3, 1) := fq1_29 (fl_X1_behindStep_1 (j := 5) rfl rfl)
theorem dX1_behindStep_70 : decode cX1_behindStep 70 = .ok (.invokevirtual 137, 3) := fq3_182 (fl_X1_behindStep_1 (j := 6) rfl rfl) (fl_X1_behindStep_1 (j := 7) rfl rfl) (fl_X1_behindStep_1 (j := 8) rfl rfl) rfl
theorem dX1_behindStep_73 : decode cX1_behindStep 73 = .ok (.istore 4, 2) := fq2_54 (fl_X1_behindStep_1 (j := 9) rfl rfl) (fl_X1_behindStep_1 (j := 10) rfl rfl) rfl
theorem dX1_behindStep_75 : decode cX1_behindStep 75 = .ok (.aload_n 0, 1) := fq1_42 (fl_X1_behindStep_1 (j := 11) rfl rfl)
theorem dX1_behindStep_76 : decode cX1_behindStep 76 = .ok (.dup, 1) := fq1_89 (fl_X1_behindStep_1 (j := 12) rfl rfl)
theorem dX1_behindStep_77 : decode cX1_behindStep 77 = .ok (.getfield 105, 3) := fq3_180 (fl_X1_behindStep_1 (j := 13) rfl rfl) (fl_X1_behindStep_1 (j := 14) rfl rfl) (fl_X1_behindStep_1 (j := 15) rfl rfl) rfl
theorem dX1_behindStep_80 : decode cX1_behindStep 80 = .ok (.iload 4, 2) := fq2_21 (fl_X1_behindStep_1 (j := 16) rfl rfl) (fl_X1_behindStep_1 (j := 17) rfl rfl) rfl
theorem dX1_behindStep_82 : decode cX1_behindStep 82 = .ok (.iadd, 1) := fq1_96 (fl_X1_behindStep_1 (j := 18) rfl rfl)
theorem dX1_behindStep_83 : decode cX1_behindStep 83 = .ok (.putfield 105, 3) := fq3_181 (fl_X1_behindStep_1 (j := 19) rfl rfl) (fl_X1_behindStep_1 (j := 20) rfl rfl) (fl_X1_behindStep_1 (j := 21) rfl rfl) rfl
theorem dX1_behindStep_86 : decode cX1_behindStep 86 = .ok (.aload_n 0, 1) := fq1_42 (fl_X1_behindStep_1 (j := 22) rfl rfl)
theorem dX1_behindStep_87 : decode cX1_behindStep 87 = .ok (.dup, 1) := fq1_89 (fl_X1_behindStep_1 (j := 23) rfl rfl)
theorem dX1_behindStep_88 : decode cX1_behindStep 88 = .ok (.getfield 102, 3) := fq3_180 (fl_X1_behindStep_1 (j := 24) rfl rfl) (fl_X1_behindStep_1 (j := 25) rfl rfl) (fl_X1_behindStep_1 (j := 26) rfl rfl) rfl
theorem dX1_behindStep_91 : decode cX1_behindStep 91 = .ok (.iload 4, 2) := fq2_21 (fl_X1_behindStep_1 (j := 27) rfl rfl) (fl_X1_behindStep_1 (j := 28) rfl rfl) rfl
theorem dX1_behindStep_93 : decode cX1_behindStep 93 = .ok (.iload_n 3, 1) := fq1_29 (fl_X1_behindStep_1 (j := 29) rfl rfl)
theorem dX1_behindStep_94 : decode cX1_behindStep 94 = .ok (.if_icmp .ge 7, 3) := fq3_162 (fl_X1_behindStep_1 (j := 30) rfl rfl) (fl_X1_behindStep_1 (j := 31) rfl rfl) (fl_X1_behindStep_1 (j := 32) rfl rfl) (s2p rfl (bl rfl))
theorem dX1_behindStep_97 : decode cX1_behindStep 97 = .ok (.iconst 1, 1) := fq1_4 (fl_X1_behindStep_1 (j := 33) rfl rfl)
theorem dX1_behindStep_98 : decode cX1_behindStep 98 = .ok (.goto 4, 3) := fq3_167 (fl_X1_behindStep_1 (j := 34) rfl rfl) (fl_X1_behindStep_1 (j := 35) rfl rfl) (fl_X1_behindStep_1 (j := 36) rfl rfl) (s2p rfl (bl rfl))
theorem dX1_behindStep_101 : decode cX1_behindStep 101 = .ok (.iconst 0, 1) := fq1_3 (fl_X1_behindStep_1 (j := 37) rfl rfl)
theorem dX1_behindStep_102 : decode cX1_behindStep 102 = .ok (.iadd, 1) := fq1_96 (fl_X1_behindStep_1 (j := 38) rfl rfl)
theorem dX1_behindStep_103 : decode cX1_behindStep 103 = .ok (.putfield 102, 3) := fq3_181 (fl_X1_behindStep_1 (j := 39) rfl rfl) (fl_X1_behindStep_1 (j := 40) rfl rfl) (fl_X1_behindStep_1 (j := 41) rfl rfl) rfl
theorem dX1_behindStep_106 : decode cX1_behindStep 106 = .ok (.iload_n 1, 1) := fq1_27 (fl_X1_behindStep_1 (j := 42) rfl rfl)
theorem dX1_behindStep_107 : decode cX1_behindStep 107 = .ok (.iconst 1, 1) := fq1_4 (fl_X1_behindStep_1 (j := 43) rfl rfl)
theorem dX1_behindStep_108 : decode cX1_behindStep 108 = .ok (.iadd, 1) := fq1_96 (fl_X1_behindStep_1 (j := 44) rfl rfl)
theorem dX1_behindStep_109 : decode cX1_behindStep 109 = .ok (.ireturn, 1) := fq1_172 (fl_X1_behindStep_1 (j := 45) rfl rfl)
theorem dX1_behindStep_110 : decode cX1_behindStep 110 = .ok (.aload_n 0, 1) := fq1_42 (fl_X1_behindStep_1 (j := 46) rfl rfl)
theorem dX1_behindStep_111 : decode cX1_behindStep 111 = .ok (.getfield 17, 3) := fq3_180 (fl_X1_behindStep_1 (j := 47) rfl rfl) (fl_X1_behindStep_1 (j := 48) rfl rfl) (fl_X1_behindStep_1 (j := 49) rfl rfl) rfl
theorem dX1_behindStep_114 : decode cX1_behindStep 114 = .ok (.getfield 29, 3) := fq3_180 (fl_X1_behindStep_1 (j := 50) rfl rfl) (fl_X1_behindStep_1 (j := 51) rfl rfl) (fl_X1_behindStep_1 (j := 52) rfl rfl) rfl
theorem dX1_behindStep_117 : decode cX1_behindStep 117 = .ok (.iload_n 3, 1) := fq1_29 (fl_X1_behindStep_1 (j := 53) rfl rfl)
theorem dX1_behindStep_118 : decode cX1_behindStep 118 = .ok (.aload_n 2, 1) := fq1_44 (fl_X1_behindStep_1 (j := 54) rfl rfl)
theorem dX1_behindStep_119 : decode cX1_behindStep 119 = .ok (.getfield 140, 3) := fq3_180 (fl_X1_behindStep_1 (j := 55) rfl rfl) (fl_X1_behindStep_1 (j := 56) rfl rfl) (fl_X1_behindStep_1 (j := 57) rfl rfl) rfl
theorem dX1_behindStep_122 : decode cX1_behindStep 122 = .ok (.iload_n 1, 1) := fq1_27 (fl_X1_behindStep_1 (j := 58) rfl rfl)
theorem dX1_behindStep_123 : decode cX1_behindStep 123 = .ok (.iaload, 1) := fq1_46 (fl_X1_behindStep_1 (j := 59) rfl rfl)
theorem dX1_behindStep_124 : decode cX1_behindStep 124 = .ok (.invokevirtual 143, 3) := fq3_182 (fl_X1_behindStep_1 (j := 60) rfl rfl) (fl_X1_behindStep_1 (j := 61) rfl rfl) (fl_X1_behindStep_1 (j := 62) rfl rfl) rfl
theorem dX1_behindStep_127 : decode cX1_behindStep 127 = .ok (.iload_n 1, 1) := fq1_27 (fl_X1_behindStep_1 (j := 63) rfl rfl)
def fb_X1_behindStep_2 : List UInt8 := [0x04, 0x60, 0xac, 0x2a, 0x1d, 0xb6, 0x00, 0x92, 0x02, 0x9f, 0x00, 0x07, 0x04, 0xa7, 0x00, 0x04, 0x03, 0x36, 0x05, 0x2a, 0x59, 0xb4, 0x00, 0x6f, 0x15, 0x05, 0x99, 0x00, 0x07, 0x04, 0xa7, 0x00, 0x04, 0x03, 0x60, 0xb5, 0x00, 0x6f, 0x2a, 0x59, 0xb4, 0x00, 0x66, 0x15, 0x05, 0x99, 0x00, 0x07, 0x03, 0xa7, 0x00, 0x04, 0x04, 0x60, 0xb5, 0x00, 0x66, 0x1b, 0x04, 0x60, 0xac, 0x2a, 0x1d, 0xb6]
theorem fl_X1_behindStep_2 {p j : Nat} {b : UInt8} (e : p = 128 + j) (h : fb_X1_behindStep_2[j]? = some b) : cX1_behindStep.data.toList[p]? = some b := fq_l (n := 64) (show (cX1_behindStep.data.toList.drop 128).take 64 = fb_X1_behindStep_2 by decide +kernel) e h
theorem dX1_behindStep_128 : decode cX1_behindStep 128 = .ok (.iconst 1, 1) := fq1_4 (fl_X1_behindStep_2 (j := 0) rfl rfl)
theorem dX1_behindStep_129 : decode cX1_behindStep 129 = .ok (.iadd, 1) := fq1_96 (fl_X1_behindStep_2 (j := 1) rfl rfl)
theorem dX1_behindStep_130 : decode cX1_behindStep 130 = .ok (.ireturn, 1) := fq1_172 (fl_X1_behindStep_2 (j := 2) rfl rfl)
theorem dX1_behindStep_131 : decode cX1_behindStep 131 = .ok (.aload_n 0, 1) := fq1_42 (fl_X1_behindStep_2 (j := 3) rfl rfl)
theorem dX1_behindStep_132 : decode cX1_behindStep 132 = .ok (.iload_n 3, 1) := fq1_29 (fl_X1_behindStep_2 (j := 4) rfl rfl)
theorem dX1_behindStep_133 : decode cX1_behindStep 133 = .ok (.invokevirtual 146, 3) := fq3_182 (fl_X1_behindStep_2 (j := 5) rfl rfl) (fl_X1_behindStep_2 (j := 6) rfl rfl) (fl_X1_behindStep_2 (j := 7) rfl rfl) rfl
theorem dX1_behindStep_136 : decode cX1_behindStep 136 = .ok (.iconst (-1), 1) := fq1_2 (fl_X1_behindStep_2 (j := 8) rfl rfl)
theorem dX1_behindStep_137 : decode cX1_behindStep 137 = .ok (.if_icmp .eq 7, 3) := fq3_159 (fl_X1_behindStep_2 (j := 9) rfl rfl) (fl_X1_behindStep_2 (j := 10) rfl rfl) (fl_X1_behindStep_2 (j := 11) rfl rfl) (s2p rfl (bl rfl))
theorem dX1_behindStep_140 : decode cX1_behindStep 140 = .ok (.iconst 1, 1) := fq1_4 (fl_X1_behindStep_2 (j := 12) rfl rfl)
theorem dX1_behindStep_141 : decode cX1_behindStep 141 = .ok (.goto 4, 3) := fq3_167 (fl_X1_behindStep_2 (j := 13) rfl rfl) (fl_X1_behindStep_2 (j := 14) rfl rfl) (fl_X1_behindStep_2 (j := 15) rfl rfl) (s2p rfl (bl rfl))
theorem dX1_behindStep_144 : decode cX1_behindStep 144 = .ok (.iconst 0, 1) := fq1_3 (fl_X1_behindStep_2 (j := 16) rfl rfl)
theorem dX1_behindStep_145 : decode cX1_behindStep 145 = .ok (.istore 5, 2) := fq2_54 (fl_X1_behindStep_2 (j := 17) rfl rfl) (fl_X1_behindStep_2 (j := 18) rfl rfl) rfl
theorem dX1_behindStep_147 : decode cX1_behindStep 147 = .ok (.aload_n 0, 1) := fq1_42 (fl_X1_behindStep_2 (j := 19) rfl rfl)
theorem dX1_behindStep_148 : decode cX1_behindStep 148 = .ok (.dup, 1) := fq1_89 (fl_X1_behindStep_2 (j := 20) rfl rfl)
theorem dX1_behindStep_149 : decode cX1_behindStep 149 = .ok (.getfield 111, 3) := fq3_180 (fl_X1_behindStep_2 (j := 21) rfl rfl) (fl_X1_behindStep_2 (j := 22) rfl rfl) (fl_X1_behindStep_2 (j := 23) rfl rfl) rfl
theorem dX1_behindStep_152 : decode cX1_behindStep 152 = .ok (.iload 5, 2) := fq2_21 (fl_X1_behindStep_2 (j := 24) rfl rfl) (fl_X1_behindStep_2 (j := 25) rfl rfl) rfl
theorem dX1_behindStep_154 : decode cX1_behindStep 154 = .ok (.ifCond .eq 7, 3) := fq3_153 (fl_X1_behindStep_2 (j := 26) rfl rfl) (fl_X1_behindStep_2 (j := 27) rfl rfl) (fl_X1_behindStep_2 (j := 28) rfl rfl) (s2p rfl (bl rfl))
theorem dX1_behindStep_157 : decode cX1_behindStep 157 = .ok (.iconst 1, 1) := fq1_4 (fl_X1_behindStep_2 (j := 29) rfl rfl)
theorem dX1_behindStep_158 : decode cX1_behindStep 158 = .ok (.goto 4, 3) := fq3_167 (fl_X1_behindStep_2 (j := 30) rfl rfl) (fl_X1_behindStep_2 (j := 31) rfl rfl) (fl_X1_behindStep_2 (j := 32) rfl rfl) (s2p rfl (bl rfl))
theorem dX1_behindStep_161 : decode cX1_behindStep 161 = .ok (.iconst 0, 1) := fq1_3 (fl_X1_behindStep_2 (j := 33) rfl rfl)
theorem dX1_behindStep_162 : decode cX1_behindStep 162 = .ok (.iadd, 1) := fq1_96 (fl_X1_behindStep_2 (j := 34) rfl rfl)
theorem dX1_behindStep_163 : decode cX1_behindStep 163 = .ok (.putfield 111, 3) := fq3_181 (fl_X1_behindStep_2 (j := 35) rfl rfl) (fl_X1_behindStep_2 (j := 36) rfl rfl) (fl_X1_behindStep_2 (j := 37) rfl rfl) rfl
theorem dX1_behindStep_166 : decode cX1_behindStep 166 = .ok (.aload_n 0, 1) := fq1_42 (fl_X1_behindStep_2 (j := 38) rfl rfl)
theorem dX1_behindStep_167 : decode cX1_behindStep 167 = .ok (.dup, 1) := fq1_89 (fl_X1_behindStep_2 (j := 39) rfl rfl)
theorem dX1_behindStep_168 : decode cX1_behindStep 168 = .ok (.getfield 102, 3) := fq3_180 (fl_X1_behindStep_2 (j := 40) rfl rfl) (fl_X1_behindStep_2 (j := 41) rfl rfl) (fl_X1_behindStep_2 (j := 42) rfl rfl) rfl
theorem dX1_behindStep_171 : decode cX1_behindStep 171 = .ok (.iload 5, 2) := fq2_21 (fl_X1_behindStep_2 (j := 43) rfl rfl) (fl_X1_behindStep_2 (j := 44) rfl rfl) rfl
theorem dX1_behindStep_173 : decode cX1_behindStep 173 = .ok (.ifCond .eq 7, 3) := fq3_153 (fl_X1_behindStep_2 (j := 45) rfl rfl) (fl_X1_behindStep_2 (j := 46) rfl rfl) (fl_X1_behindStep_2 (j := 47) rfl rfl) (s2p rfl (bl rfl))
theorem dX1_behindStep_176 : decode cX1_behindStep 176 = .ok (.iconst 0, 1) := fq1_3 (fl_X1_behindStep_2 (j := 48) rfl rfl)
theorem dX1_behindStep_177 : decode cX1_behindStep 177 = .ok (.goto 4, 3) := fq3_167 (fl_X1_behindStep_2 (j := 49) rfl rfl) (fl_X1_behindStep_2 (j := 50) rfl rfl) (fl_X1_behindStep_2 (j := 51) rfl rfl) (s2p rfl (bl rfl))
theorem dX1_behindStep_180 : decode cX1_behindStep 180 = .ok (.iconst 1, 1) := fq1_4 (fl_X1_behindStep_2 (j := 52) rfl rfl)
theorem dX1_behindStep_181 : decode cX1_behindStep 181 = .ok (.iadd, 1) := fq1_96 (fl_X1_behindStep_2 (j := 53) rfl rfl)
theorem dX1_behindStep_182 : decode cX1_behindStep 182 = .ok (.putfield 102, 3) := fq3_181 (fl_X1_behindStep_2 (j := 54) rfl rfl) (fl_X1_behindStep_2 (j := 55) rfl rfl) (fl_X1_behindStep_2 (j := 56) rfl rfl) rfl
theorem dX1_behindStep_185 : decode cX1_behindStep 185 = .ok (.iload_n 1, 1) := fq1_27 (fl_X1_behindStep_2 (j := 57) rfl rfl)
theorem dX1_behindStep_186 : decode cX1_behindStep 186 = .ok (.iconst 1, 1) := fq1_4 (fl_X1_behindStep_2 (j := 58) rfl rfl)
theorem dX1_behindStep_187 : decode cX1_behindStep 187 = .ok (.iadd, 1) := fq1_96 (fl_X1_behindStep_2 (j := 59) rfl rfl)
theorem dX1_behindStep_188 : decode cX1_behindStep 188 = .ok (.ireturn, 1) := fq1_172 (fl_X1_behindStep_2 (j := 60) rfl rfl)
theorem dX1_behindStep_189 : decode cX1_behindStep 189 = .ok (.aload_n 0, 1) := fq1_42 (fl_X1_behindStep_2 (j := 61) rfl rfl)
theorem dX1_behindStep_190 : decode cX1_behindStep 190 = .ok (.iload_n 3, 1) := fq1_29 (fl_X1_behindStep_2 (j := 62) rfl rfl)
def fb_X1_behindStep_3 : List UInt8 := [0x00, 0x95, 0x1b, 0x04, 0x60, 0xac, 0x2a, 0x1b, 0xb6, 0x00, 0x99, 0x99, 0x00, 0x09, 0x1b, 0x04, 0x60, 0xa7, 0x00, 0x0b, 0x2c, 0xb4, 0x00, 0x83, 0x1b, 0x2e, 0x04, 0x60, 0xac, 0x2a, 0xb4, 0x00, 0x0b, 0x1b, 0x1d, 0x4f, 0x1b, 0x04, 0x60, 0xac, 0x2c, 0xb4, 0x00, 0x76, 0xac]
theorem fl_X1_behindStep_3 {p j : Nat} {b : UInt8} (e : p = 192 + j) (h : fb_X1_behindStep_3[j]? = some b) : cX1_behindStep.data.toList[p]? = some b := fq_l (n := 64) (show (cX1_behindStep.data.toList.drop 192).take 64 = fb_X1_behindStep_3 by decide +kernel) e h
theorem dX1_behindStep_191 : decode cX1_behindStep 191 = .ok (.invokevirtual 149, 3) := fq3_182 (fl_X1_behindStep_2 (j := 63) rfl rfl) (fl_X1_behindStep_3 (j := 0) rfl rfl) (fl_X1_behindStep_3 (j := 1) rfl rfl) rfl
theorem dX1_behindStep_194 : decode cX1_behindStep 194 = .ok (.iload_n 1, 1) := fq1_27 (fl_X1_behindStep_3 (j := 2) rfl rfl)
theorem dX1_behindStep_195 : decode cX1_behindStep 195 = .ok (.iconst 1, 1) := fq1_4 (fl_X1_behindStep_3 (j := 3) rfl rfl)
theorem dX1_behindStep_196 : decode cX1_behindStep 196 = .ok (.iadd, 1) := fq1_96 (fl_X1_behindStep_3 (j := 4) rfl rfl)
theorem dX1_behindStep_197 : decode cX1_behindStep 197 = .ok (.ireturn, 1) := fq1_172 (fl_X1_behindStep_3 (j := 5) rfl rfl)
theorem dX1_behindStep_198 : decode cX1_behindStep 198 = .ok (.aload_n 0, 1) := fq1_42 (fl_X1_behindStep_3 (j := 6) rfl rfl)
theorem dX1_behindStep_199 : decode cX1_behindStep 199 = .ok (.iload_n 1, 1) := fq1_27 (fl_X1_behindStep_3 (j := 7) rfl rfl)
theorem dX1_behindStep_200 : decode cX1_behindStep 200 = .ok (.invokevirtual 153, 3) := fq3_182 (fl_X1_behindStep_3 (j := 8) rfl rfl) (fl_X1_behindStep_3 (j := 9) rfl rfl) (fl_X1_behindStep_3 (j := 10) rfl rfl) rfl
theorem dX1_behindStep_203 : decode cX1_behindStep 203 = .ok (.ifCond .eq 9, 3) := fq3_153 (fl_X1_behindStep_3 (j := 11) rfl rfl) (fl_X1_behindStep_3 (j := 12) rfl rfl) (fl_X1_behindStep_3 (j := 13) rfl rfl) (s2p rfl (bl rfl))
theorem dX1_behindStep_206 : decode cX1_behindStep 206 = .ok (.iload_n 1, 1) := fq1_27 (fl_X1_behindStep_3 (j := 14) rfl rfl)
theorem dX1_behindStep_207 : decode cX1_behindStep 207 = .ok (.iconst 1, 1) := fq1_4 (fl_X1_behindStep_3 (j := 15) rfl rfl)
theorem dX1_behindStep_208 : decode cX1_behindStep 208 = .ok (.iadd, 1) := fq1_96 (fl_X1_behindStep_3 (j := 16) rfl rfl)
theorem dX1_behindStep_209 : decode cX1_behindStep 209 = .ok (.goto 11, 3) := fq3_167 (fl_X1_behindStep_3 (j := 17) rfl rfl) (fl_X1_behindStep_3 (j := 18) rfl rfl) (fl_X1_behindStep_3 (j := 19) rfl rfl) (s2p rfl (bl rfl))
theorem dX1_behindStep_212 : decode cX1_behindStep 212 = .ok (.aload_n 2, 1) := fq1_44 (fl_X1_behindStep_3 (j := 20) rfl rfl)
theorem dX1_behindStep_213 : decode cX1_behindStep 213 = .ok (.getfield 131, 3) := fq3_180 (fl_X1_behindStep_3 (j := 21) rfl rfl) (fl_X1_behindStep_3 (j := 22) rfl rfl) (fl_X1_behindStep_3 (j := 23) rfl rfl) rfl
theorem dX1_behindStep_216 : decode cX1_behindStep 216 = .ok (.iload_n 1, 1) := fq1_27 (fl_X1_behindStep_3 (j := 24) rfl rfl)
theorem dX1_behindStep_217 : decode cX1_behindStep 217 = .ok (.iaload, 1) := fq1_46 (fl_X1_behindStep_3 (j := 25) rfl rfl)
theorem dX1_behindStep_218 : decode cX1_behindStep 218 = .ok (.iconst 1, 1) := fq1_4 (fl_X1_behindStep_3 (j := 26) rfl rfl)
theorem dX1_behindStep_219 : decode cX1_behindStep 219 = .ok (.iadd, 1) := fq1_96 (fl_X1_behindStep_3 (j := 27) rfl rfl)
theorem dX1_behindStep_220 : decode cX1_behindStep 220 = .ok (.ireturn, 1) := fq1_172 (fl_X1_behindStep_3 (j := 28) rfl rfl)
theorem dX1_behindStep_221 : decode cX1_behindStep 221 = .ok (.aload_n 0, 1) := fq1_42 (fl_X1_behindStep_3 (j := 29) rfl rfl)
theorem dX1_behindStep_222 : decode cX1_behindStep 222 = .ok (.getfield 11, 3) := fq3_180 (fl_X1_behindStep_3 (j := 30) rfl rfl) (fl_X1_behindStep_3 (j := 31) rfl rfl) (fl_X1_behindStep_3 (j := 32) rfl rfl) rfl
theorem dX1_behindStep_225 : decode cX1_behindStep 225 = .ok (.iload_n 1, 1) := fq1_27 (fl_X1_behindStep_3 (j := 33) rfl rfl)
theorem dX1_behindStep_226 : decode cX1_behindStep 226 = .ok (.iload_n 3, 1) := fq1_29 (fl_X1_behindStep_3 (j := 34) rfl rfl)
theorem dX1_behindStep_227 : decode cX1_behindStep 227 = .ok (.iastore, 1) := fq1_79 (fl_X1_behindStep_3 (j := 35) rfl rfl)
theorem dX1_behindStep_228 : decode cX1_behindStep 228 = .ok (.iload_n 1, 1) := fq1_27 (fl_X1_behindStep_3 (j := 36) rfl rfl)
theorem dX1_behindStep_229 : decode cX1_behindStep 229 = .ok (.iconst 1, 1) := fq1_4 (fl_X1_behindStep_3 (j := 37) rfl rfl)
theorem dX1_behindStep_230 : decode cX1_behindStep 230 = .ok (.iadd, 1) := fq1_96 (fl_X1_behindStep_3 (j := 38) rfl rfl)
theorem dX1_behindStep_231 : decode cX1_behindStep 231 = .ok (.ireturn, 1) := fq1_172 (fl_X1_behindStep_3 (j := 39) rfl rfl)
theorem dX1_behindStep_232 : decode cX1_behindStep 232 = .ok (.aload_n 2, 1) := fq1_44 (fl_X1_behindStep_3 (j := 40) rfl rfl)
theorem dX1_behindStep_233 : decode cX1_behindStep 233 = .ok (.getfield 118, 3) := fq3_180 (fl_X1_behindStep_3 (j := 41) rfl rfl) (fl_X1_behindStep_3 (j := 42) rfl rfl) (fl_X1_behindStep_3 (j := 43) rfl rfl) rfl
theorem dX1_behindStep_236 : decode cX1_behindStep 236 = .ok (.ireturn, 1) := fq1_172 (fl_X1_behindStep_3 (j := 44) rfl rfl)
def fb_X1_giveOrder_0 : List UInt8 := [0x2a, 0xb4, 0x00, 0x11, 0xb4, 0x00, 0x1d, 0x4d, 0x2c, 0xb4, 0x00, 0x43, 0x3e, 0x1d, 0x10, 0x14, 0xa1, 0x00, 0x05, 0x02, 0xac, 0x2a, 0xb4, 0x00, 0x19, 0x1b, 0x2c, 0xb4, 0x00, 0x23, 0xb6, 0x00, 0x46, 0x2c, 0xb4, 0x00, 0x4c, 0x1d, 0x1b, 0x4f, 0x2c, 0xb4, 0x00, 0x4f, 0x1d, 0x2c, 0xb4, 0x00, 0x23, 0x4f, 0x2a, 0xb4, 0x00, 0x19, 0xb4, 0x00, 0x52, 0x03, 0x2c, 0xb4, 0x00, 0x55, 0x1d, 0x10]
theorem fl_X1_giveOrder_0 {p j : Nat} {b : UInt8} (e : p = 0 + j) (h : fb_X1_giveOrder_0[j]? = some b) : cX1_giveOrder.data.toList[p]? = some b := fq_l (n := 64) (show (cX1_giveOrder.data.toList.drop 0).take 64 = fb_X1_giveOrder_0 by decide +kernel) e h
theorem dX1_giveOrder_0 : decode cX1_giveOrder 0 = .ok (.aload_n 0, 1) := fq1_42 (fl_X1_giveOrder_0 (j := 0) rfl rfl)
theorem dX1_giveOrder_1 : decode cX1_giveOrder 1 = .ok (.getfield 17, 3) := fq3_180 (fl_X1_giveOrder_0 (j := 1) rfl rfl) (fl_X1_giveOrder_0 (j := 2) rfl rfl) (fl_X1_giveOrder_0 (j := 3) rfl rfl) rfl
theorem dX1_giveOrder_4 : decode cX1_giveOrder 4 = .ok (.getfield 29, 3) := fq3_180 (fl_X1_giveOrder_0 (j := 4) rfl rfl) (fl_X1_giveOrder_0 (j := 5) rfl rfl) (fl_X1_giveOrder_0 (j := 6) rfl rfl) rfl
theorem dX1_giveOrder_7 : decode cX1_giveOrder 7 = .ok (.astore_n 2, 1) := fq1_77 (fl_X1_giveOrder_0 (j := 7) rfl rfl)
theorem dX1_giveOrder_8 : decode cX1_giveOrder 8 = .ok (.aload_n 2, 1) := fq1_44 (fl_X1_giveOrder_0 (j := 8) rfl rfl)
theorem dX1_giveOrder_9 : decode cX1_giveOrder 9 = .ok (.getfield 67, 3) := fq3_180 (fl_X1_giveOrder_0 (j := 9) rfl rfl) (fl_X1_giveOrder_0 (j := 10) rfl rfl) (fl_X1_giveOrder_0 (j := 11) rfl rfl) rfl
theorem dX1_giveOrder_12 : decode cX1_giveOrder 12 = .ok (.istore_n 3, 1) := fq1_62 (fl_X1_giveOrder_0 (j := 12) rfl rfl)
theorem dX1_giveOrder_13 : decode cX1_giveOrder 13 = .ok (.iload_n 3, 1) := fq1_29 (fl_X1_giveOrder_0 (j := 13) rfl rfl)
theorem dX1_giveOrder_14 : decode cX1_giveOrder 14 = .ok (.bipush 20, 2) := fq2_16 (fl_X1_giveOrder_0 (j := 14) rfl rfl) (fl_X1_giveOrder_0 (j := 15) rfl rfl) (s1p rfl (bl rfl))
theorem dX1_giveOrder_16 : decode cX1_giveOrder 16 = .ok (.if_icmp .lt 5, 3) := fq3_161 (fl_X1_giveOrder_0 (j := 16) rfl rfl) (fl_X1_giveOrder_0 (j := 17) rfl rfl) (fl_X1_giveOrder_0 (j := 18) rfl rfl) (s2p rfl (bl rfl))
theorem dX1_giveOrder_19 : decode cX1_giveOrder 19 = .ok (.iconst (-1), 1) := fq1_2 (fl_X1_giveOrder_0 (j := 19) rfl rfl)
theorem dX1_giveOrder_20 : decode cX1_giveOrder 20 = .ok (.ireturn, 1) := fq1_172 (fl_X1_giveOrder_0 (j := 20) rfl rfl)
theorem dX1_giveOrder_21 : decode cX1_giveOrder 21 = .ok (.aload_n 0, 1) := fq1_42 (fl_X1_giveOrder_0 (j := 21) rfl rfl)
theorem dX1_giveOrder_22 : decode cX1_giveOrder 22 = .ok (.getfield 25, 3) := fq3_180 (fl_X1_giveOrder_0 (j := 22) rfl rfl) (fl_X1_giveOrder_0 (j := 23) rfl rfl) (fl_X1_giveOrder_0 (j := 24) rfl rfl) rfl
theorem dX1_giveOrder_25 : decode cX1_giveOrder 25 = .ok (.iload_n 1, 1) := fq1_27 (fl_X1_giveOrder_0 (j := 25) rfl rfl)
theorem dX1_giveOrder_26 : decode cX1_giveOrder 26 = .ok (.aload_n 2, 1) := fq1_44 (fl_X1_giveOrder_0 (j := 26) rfl rfl)
theorem dX1_giveOrder_27 : decode cX1_giveOrder 27 = .ok (.getfield 35, 3) := fq3_180 (fl_X1_giveOrder_0 (j := 27) rfl rfl) (fl_X1_giveOrder_0 (j := 28) rfl rfl) (fl_X1_giveOrder_0 (j := 29) rfl rfl) rfl
theorem dX1_giveOrder_30 : decode cX1_giveOrder 30 = .ok (.invokevirtual 70, 3) := fq3_182 (fl_X1_giveOrder_0 (j := 30) rfl rfl) (fl_X1_giveOrder_0 (j := 31) rfl rfl) (fl_X1_giveOrder_0 (j := 32) rfl rfl) rfl
theorem dX1_giveOrder_33 : decode cX1_giveOrder 33 = .ok (.aload_n 2, 1) := fq1_44 (fl_X1_giveOrder_0 (j := 33) rfl rfl)
theorem dX1_giveOrder_34 : decode cX1_giveOrder 34 = .ok (.getfield 76, 3) := fq3_180 (fl_X1_giveOrder_0 (j := 34) rfl rfl) (fl_X1_giveOrder_0 (j := 35) rfl rfl) (fl_X1_giveOrder_0 (j := 36) rfl rfl) rfl
theorem dX1_giveOrder_37 : decode cX1_giveOrder 37 = .ok (.iload_n 3, 1) := fq1_29 (fl_X1_giveOrder_0 (j := 37) rfl rfl)
theorem dX1_giveOrder_38 : decode cX1_giveOrder 38 = .ok (.iload_n 1, 1) := fq1_27 (fl_X1_giveOrder_0 (j := 38) rfl rfl)
theorem dX1_giveOrder_39 : decode cX1_giveOrder 39 = .ok (.iastore, 1) := fq1_79 (fl_X1_giveOrder_0 (j := 39) rfl rfl)
theorem dX1_giveOrder_40 : decode cX1_giveOrder 40 = .ok (.aload_n 2, 1) := fq1_44 (fl_X1_giveOrder_0 (j := 40) rfl rfl)
theorem dX1_giveOrder_41 : decode cX1_giveOrder 41 = .ok (.getfield 79, 3) := fq3_180 (fl_X1_giveOrder_0 (j := 41) rfl rfl) (fl_X1_giveOrder_0 (j := 42) rfl rfl) (fl_X1_giveOrder_0 (j := 43) rfl rfl) rfl
theorem dX1_giveOrder_44 : decode cX1_giveOrder 44 = .ok (.iload_n 3, 1) := fq1_29 (fl_X1_giveOrder_0 (j := 44) rfl rfl)
theorem dX1_giveOrder_45 : decode cX1_giveOrder 45 = .ok (.aload_n 2, 1) := fq1_44 (fl_X1_giveOrder_0 (j := 45) rfl rfl)
theorem dX1_giveOrder_46 : decode cX1_giveOrder 46 = .ok (.getfield 35, 3) := fq3_180 (fl_X1_giveOrder_0 (j := 46) rfl rfl) (fl_X1_giveOrder_0 (j := 47) rfl rfl) (fl_X1_giveOrder_0 (j := 48) rfl rfl) rfl
theorem dX1_giveOrder_49 : decode cX1_giveOrder 49 = .ok (.iastore, 1) := fq1_79 (fl_X1_giveOrder_0 (j := 49) rfl rfl)
theorem dX1_giveOrder_50 : decode cX1_giveOrder 50 = .ok (.aload_n 0, 1) := fq1_42 (fl_X1_giveOrder_0 (j := 50) rfl rfl)
theorem dX1_giveOrder_51 : decode cX1_giveOrder 51 = .ok (.getfield 25, 3) := fq3_180 (fl_X1_giveOrder_0 (j := 51) rfl rfl) (fl_X1_giveOrder_0 (j := 52) rfl rfl) (fl_X1_giveOrder_0 (j := 53) rfl rfl) rfl
theorem dX1_giveOrder_54 : decode cX1_giveOrder 54 = .ok (.getfield 82, 3) := fq3_180 (fl_X1_giveOrder_0 (j := 54) rfl rfl) (fl_X1_giveOrder_0 (j := 55) rfl rfl) (fl_X1_giveOrder_0 (j := 56) rfl rfl) rfl
theorem dX1_giveOrder_57 : decode cX1_giveOrder 57 = .ok (.iconst 0, 1) := fq1_3 (fl_X1_giveOrder_0 (j := 57) rfl rfl)
theorem dX1_giveOrder_58 : decode cX1_giveOrder 58 = .ok (.aload_n 2, 1) := fq1_44 (fl_X1_giveOrder_0 (j := 58) rfl rfl)
theorem dX1_giveOrder_59 : decode cX1_giveOrder 59 = .ok (.getfield 85, 3) := fq3_180 (fl_X1_giveOrder_0 (j := 59) rfl rfl) (fl_X1_giveOrder_0 (j := 60) rfl rfl) (fl_X1_giveOrder_0 (j := 61) rfl rfl) rfl
theorem dX1_giveOrder_62 : decode cX1_giveOrder 62 = .ok (.iload_n 3, 1) := fq1_29 (fl_X1_giveOrder_0 (j := 62) rfl rfl)
def fb_X1_giveOrder_1 : List UInt8 := [0x06, 0x68, 0x10, 0x06, 0xb8, 0x00, 0x56, 0x2c, 0x59, 0xb4, 0x00, 0x43, 0x04, 0x60, 0xb5, 0x00, 0x43, 0x1d, 0xac]
theorem fl_X1_giveOrder_1 {p j : Nat} {b : UInt8} (e : p = 64 + j) (h : fb_X1_giveOrder_1[j]? = some b) : cX1_giveOrder.data.toList[p]? = some b := fq_l (n := 64) (show (cX1_giveOrder.data.toList.drop 64).take 64 = fb_X1_giveOrder_1 by decide +kernel) e h
theorem dX1_giveOrder_63 : decode cX1_giveOrder 63 = .ok (.bipush 6, 2) := fq2_16 (fl_X1_giveOrder_0 (j := 63) rfl rfl) (fl_X1_giveOrder_1 (j := 0) rfl rfl) (s1p rfl (bl rfl))
theorem dX1_giveOrder_65 : decode cX1_giveOrder 65 = .ok (.imul, 1) := fq1_104 (fl_X1_giveOrder_1 (j := 1) rfl rfl)
theorem dX1_giveOrder_66 : decode cX1_giveOrder 66 = .ok (.bipush 6, 2) := fq2_16 (fl_X1_giveOrder_1 (j := 2) rfl rfl) (fl_X1_giveOrder_1 (j := 3) rfl rfl) (s1p rfl (bl rfl))
theorem dX1_giveOrder_68 : decode cX1_giveOrder 68 = .ok (.invokestatic 86, 3) := fq3_184 (fl_X1_giveOrder_1 (j := 4) rfl rfl) (fl_X1_giveOrder_1 (j := 5) rfl rfl) (fl_X1_giveOrder_1 (j := 6) rfl rfl) rfl
theorem dX1_giveOrder_71 : decode cX1_giveOrder 71 = .ok (.aload_n 2, 1) := fq1_44 (fl_X1_giveOrder_1 (j := 7) rfl rfl)
theorem dX1_giveOrder_72 : decode cX1_giveOrder 72 = .ok (.dup, 1) := fq1_89 (fl_X1_giveOrder_1 (j := 8) rfl rfl)
theorem dX1_giveOrder_73 : decode cX1_giveOrder 73 = .ok (.getfield 67, 3) := fq3_180 (fl_X1_giveOrder_1 (j := 9) rfl rfl) (fl_X1_giveOrder_1 (j := 10) rfl rfl) (fl_X1_giveOrder_1 (j := 11) rfl rfl) rfl
theorem dX1_giveOrder_76 : decode cX1_giveOrder 76 = .ok (.iconst 1, 1) := fq1_4 (fl_X1_giveOrder_1 (j := 12) rfl rfl)
theorem dX1_giveOrder_77 : decode cX1_giveOrder 77 = .ok (.iadd, 1) := fq1_96 (fl_X1_giveOrder_1 (j := 13) rfl rfl)
theorem dX1_giveOrder_78 : decode cX1_giveOrder 78 = .ok (.putfield 67, 3) := fq3_181 (fl_X1_giveOrder_1 (j := 14) rfl rfl) (fl_X1_giveOrder_1 (j := 15) rfl rfl) (fl_X1_giveOrder_1 (j := 16) rfl rfl) rfl
theorem dX1_giveOrder_81 : decode cX1_giveOrder 81 = .ok (.iload_n 3, 1) := fq1_29 (fl_X1_giveOrder_1 (j := 17) rfl rfl)
theorem dX1_giveOrder_82 : decode cX1_giveOrder 82 = .ok (.ireturn, 1) := fq1_172 (fl_X1_giveOrder_1 (j := 18) rfl rfl)
def fb_X1_holds_0 : List UInt8 := [0x2a, 0xb4, 0x00, 0x11, 0xb4, 0x00, 0x1d, 0x4d, 0x2a, 0xb4, 0x00, 0x11, 0xb4, 0x00, 0x5c, 0xb4, 0x00, 0x8c, 0x1b, 0x2e, 0x3e, 0x2a, 0xb4, 0x00, 0x11, 0xb4, 0x00, 0x5c, 0xb4, 0x00, 0xa1, 0x1b, 0x2e, 0x36, 0x04, 0x2a, 0xb4, 0x00, 0x11, 0xb4, 0x00, 0x5c, 0xb4, 0x00, 0x86, 0x1b, 0x2e, 0x10, 0x07, 0xa0, 0x00, 0x16, 0x2c, 0x1d, 0x2c, 0xb4, 0x00, 0x23, 0xb6, 0x00, 0x3f, 0x04, 0xa0, 0x00]
theorem fl_X1_holds_0 {p j : Nat} {b : UInt8} (e : p = 0 + j) (h : fb_X1_holds_0[j]? = some b) : cX1_holds.data.toList[p]? = some b := fq_l (n := 64) (show (cX1_holds.data.toList.drop 0).take 64 = fb_X1_holds_0 by decide +kernel) e h
theorem dX1_holds_0 : decode cX1_holds 0 = .ok (.aload_n 0, 1) := fq1_42 (fl_X1_holds_0 (j := 0) rfl rfl)
theorem dX1_holds_1 : decode cX1_holds 1 = .ok (.getfield 17, 3) := fq3_180 (fl_X1_holds_0 (j := 1) rfl rfl) (fl_X1_holds_0 (j := 2) rfl rfl) (fl_X1_holds_0 (j := 3) rfl rfl) rfl
theorem dX1_holds_4 : decode cX1_holds 4 = .ok (.getfield 29, 3) := fq3_180 (fl_X1_holds_0 (j := 4) rfl rfl) (fl_X1_holds_0 (j := 5) rfl rfl) (fl_X1_holds_0 (j := 6) rfl rfl) rfl
theorem dX1_holds_7 : decode cX1_holds 7 = .ok (.astore_n 2, 1) := fq1_77 (fl_X1_holds_0 (j := 7) rfl rfl)
theorem dX1_holds_8 : decode cX1_holds 8 = .ok (.aload_n 0, 1) := fq1_42 (fl_X1_holds_0 (j := 8) rfl rfl)
theorem dX1_holds_9 : decode cX1_holds 9 = .ok (.getfield 17, 3) := fq3_180 (fl_X1_holds_0 (j := 9) rfl rfl) (fl_X1_holds_0 (j := 10) rfl rfl) (fl_X1_holds_0 (j := 11) rfl rfl) rfl
theorem dX1_holds_12 : decode cX1_holds 12 = .ok (.getfield 92, 3) := fq3_180 (fl_X1_holds_0 (j := 12) rfl rfl) (fl_X1_holds_0 (j := 13) rfl rfl) (fl_X1_holds_0 (j := 14) rfl rfl) rfl
theorem dX1_holds_15 : decode cX1_holds 15 = .ok (.getfield 140, 3) := fq3_180 (fl_X1_holds_0 (j := 15) rfl rfl) (fl_X1_holds_0 (j := 16) rfl rfl) (fl_X1_holds_0 (j := 17) rfl rfl) rfl
theorem dX1_holds_18 : decode cX1_holds 18 = .ok (.iload_n 1, 1) := fq1_27 (fl_X1_holds_0 (j := 18) rfl rfl)
theorem dX1_holds_19 : decode cX1_holds 19 = .ok (.iaload, 1) := fq1_46 (fl_X1_holds_0 (j := 19) rfl rfl)
theorem dX1_holds_20 : decode cX1_holds 20 = .ok (.istore_n 3, 1) := fq1_62 (fl_X1_holds_0 (j := 20) rfl rfl)
theorem dX1_holds_21 : decode cX1_holds 21 = .ok (.aload_n 0, 1) := fq1_42 (fl_X1_holds_0 (j := 21) rfl rfl)
theorem dX1_holds_22 : decode cX1_holds 22 = .ok (.getfield 17, 3) := fq3_180 (fl_X1_holds_0 (j := 22) rfl rfl) (fl_X1_holds_0 (j := 23) rfl rfl) (fl_X1_holds_0 (j := 24) rfl rfl) rfl
theorem dX1_holds_25 : decode cX1_holds 25 = .ok (.getfield 92, 3) := fq3_180 (fl_X1_holds_0 (j := 25) rfl rfl) (fl_X1_holds_0 (j := 26) rfl rfl) (fl_X1_holds_0 (j := 27) rfl rfl) rfl
theorem dX1_holds_28 : decode cX1_holds 28 = .ok (.getfield 161, 3) := fq3_180 (fl_X1_holds_0 (j := 28) rfl rfl) (fl_X1_holds_0 (j := 29) rfl rfl) (fl_X1_holds_0 (j := 30) rfl rfl) rfl
theorem dX1_holds_31 : decode cX1_holds 31 = .ok (.iload_n 1, 1) := fq1_27 (fl_X1_holds_0 (j := 31) rfl rfl)
theorem dX1_holds_32 : decode cX1_holds 32 = .ok (.iaload, 1) := fq1_46 (fl_X1_holds_0 (j := 32) rfl rfl)
theorem dX1_holds_33 : decode cX1_holds 33 = .ok (.istore 4, 2) := fq2_54 (fl_X1_holds_0 (j := 33) rfl rfl) (fl_X1_holds_0 (j := 34) rfl rfl) rfl
theorem dX1_holds_35 : decode cX1_holds 35 = .ok (.aload_n 0, 1) := fq1_42 (fl_X1_holds_0 (j := 35) rfl rfl)
theorem dX1_holds_36 : decode cX1_holds 36 = .ok (.getfield 17, 3) := fq3_180 (fl_X1_holds_0 (j := 36) rfl rfl) (fl_X1_holds_0 (j := 37) rfl rfl) (fl_X1_holds_0 (j := 38) rfl rfl) rfl
theorem dX1_holds_39 : decode cX1_holds 39 = .ok (.getfield 92, 3) := fq3_180 (fl_X1_holds_0 (j := 39) rfl rfl) (fl_X1_holds_0 (j := 40) rfl rfl) (fl_X1_holds_0 (j := 41) rfl rfl) rfl
theorem dX1_holds_42 : decode cX1_holds 42 = .ok (.getfield 134, 3) := fq3_180 (fl_X1_holds_0 (j := 42) rfl rfl) (fl_X1_holds_0 (j := 43) rfl rfl) (fl_X1_holds_0 (j := 44) rfl rfl) rfl
theorem dX1_holds_45 : decode cX1_holds 45 = .ok (.iload_n 1, 1) := fq1_27 (fl_X1_holds_0 (j := 45) rfl rfl)
theorem dX1_holds_46 : decode cX1_holds 46 = .ok (.iaload, 1) := fq1_46 (fl_X1_holds_0 (j := 46) rfl rfl)
theorem dX1_holds_47 : decode cX1_holds 47 = .ok (.bipush 7, 2) := fq2_16 (fl_X1_holds_0 (j := 47) rfl rfl) (fl_X1_holds_0 (j := 48) rfl rfl) (s1p rfl (bl rfl))
theorem dX1_holds_49 : decode cX1_holds 49 = .ok (.if_icmp .ne 22, 3) := fq3_160 (fl_X1_holds_0 (j := 49) rfl rfl) (fl_X1_holds_0 (j := 50) rfl rfl) (fl_X1_holds_0 (j := 51) rfl rfl) (s2p rfl (bl rfl))
theorem dX1_holds_52 : decode cX1_holds 52 = .ok (.aload_n 2, 1) := fq1_44 (fl_X1_holds_0 (j := 52) rfl rfl)
theorem dX1_holds_53 : decode cX1_holds 53 = .ok (.iload_n 3, 1) := fq1_29 (fl_X1_holds_0 (j := 53) rfl rfl)
theorem dX1_holds_54 : decode cX1_holds 54 = .ok (.aload_n 2, 1) := fq1_44 (fl_X1_holds_0 (j := 54) rfl rfl)
theorem dX1_holds_55 : decode cX1_holds 55 = .ok (.getfield 35, 3) := fq3_180 (fl_X1_holds_0 (j := 55) rfl rfl) (fl_X1_holds_0 (j := 56) rfl rfl) (fl_X1_holds_0 (j := 57) rfl rfl) rfl
theorem dX1_holds_58 : decode cX1_holds 58 = .ok (.invokevirtual 63, 3) := fq3_182 (fl_X1_holds_0 (j := 58) rfl rfl) (fl_X1_holds_0 (j := 59) rfl rfl) (fl_X1_holds_0 (j := 60) rfl rfl) rfl
theorem dX1_holds_61 : decode cX1_holds 61 = .ok (.iconst 1, 1) := fq1_4 (fl_X1_holds_0 (j := 61) rfl rfl)
def fb_X1_holds_1 : List UInt8 := [0x07, 0x04, 0xa7, 0x00, 0x04, 0x03, 0xac, 0x2a, 0xb4, 0x00, 0x11, 0xb4, 0x00, 0x5c, 0xb4, 0x00, 0x86, 0x1b, 0x2e, 0x10, 0x14, 0xa0, 0x00, 0x29, 0x2a, 0xb4, 0x00, 0x11, 0x15, 0x04, 0x2c, 0xb4, 0x00, 0x23, 0xb6, 0x00, 0xa4, 0x36, 0x05, 0x15, 0x05, 0x02, 0x9f, 0x00, 0x12, 0x2c, 0xb4, 0x00, 0x4c, 0x15, 0x05, 0x2e, 0x1d, 0xa0, 0x00, 0x07, 0x04, 0xa7, 0x00, 0x04, 0x03, 0xac, 0x1d, 0x10]
theorem fl_X1_holds_1 {p j : Nat} {b : UInt8} (e : p = 64 + j) (h : fb_X1_holds_1[j]? = some b) : cX1_holds.data.toList[p]? = some b := fq_l (n := 64) (show (cX1_holds.data.toList.drop 64).take 64 = fb_X1_holds_1 by decide +kernel) e h
theorem dX1_holds_62 : decode cX1_holds 62 = .ok (.if_icmp .ne 7, 3) := fq3_160 (fl_X1_holds_0 (j := 62) rfl rfl) (fl_X1_holds_0 (j := 63) rfl rfl) (fl_X1_holds_1 (j := 0) rfl rfl) (s2p rfl (bl rfl))
theorem dX1_holds_65 : decode cX1_holds 65 = .ok (.iconst 1, 1) := fq1_4 (fl_X1_holds_1 (j := 1) rfl rfl)
theorem dX1_holds_66 : decode cX1_holds 66 = .ok (.goto 4, 3) := fq3_167 (fl_X1_holds_1 (j := 2) rfl rfl) (fl_X1_holds_1 (j := 3) rfl rfl) (fl_X1_holds_1 (j := 4) rfl rfl) (s2p rfl (bl rfl))
theorem dX1_holds_69 : decode cX1_holds 69 = .ok (.iconst 0, 1) := fq1_3 (fl_X1_holds_1 (j := 5) rfl rfl)
theorem dX1_holds_70 : decode cX1_holds 70 = .ok (.ireturn, 1) := fq1_172 (fl_X1_holds_1 (j := 6) rfl rfl)
theorem dX1_holds_71 : decode cX1_holds 71 = .ok (.aload_n 0, 1) := fq1_42 (fl_X1_holds_1 (j := 7) rfl rfl)
theorem dX1_holds_72 : decode cX1_holds 72 = .ok (.getfield 17, 3) := fq3_180 (fl_X1_holds_1 (j := 8) rfl rfl) (fl_X1_holds_1 (j := 9) rfl rfl) (fl_X1_holds_1 (j := 10) rfl rfl) rfl
theorem dX1_holds_75 : decode cX1_holds 75 = .ok (.getfield 92, 3) := fq3_180 (fl_X1_holds_1 (j := 11) rfl rfl) (fl_X1_holds_1 (j := 12) rfl rfl) (fl_X1_holds_1 (j := 13) rfl rfl) rfl
theorem dX1_holds_78 : decode cX1_holds 78 = .ok (.getfield 134, 3) := fq3_180 (fl_X1_holds_1 (j := 14) rfl rfl) (fl_X1_holds_1 (j := 15) rfl rfl) (fl_X1_holds_1 (j := 16) rfl rfl) rfl
theorem dX1_holds_81 : decode cX1_holds 81 = .ok (.iload_n 1, 1) := fq1_27 (fl_X1_holds_1 (j := 17) rfl rfl)
theorem dX1_holds_82 : decode cX1_holds 82 = .ok (.iaload, 1) := fq1_46 (fl_X1_holds_1 (j := 18) rfl rfl)
theorem dX1_holds_83 : decode cX1_holds 83 = .ok (.bipush 20, 2) := fq2_16 (fl_X1_holds_1 (j := 19) rfl rfl) (fl_X1_holds_1 (j := 20) rfl rfl) (s1p rfl (bl rfl))
theorem dX1_holds_85 : decode cX1_holds 85 = .ok (.if_icmp .ne 41, 3) := fq3_160 (fl_X1_holds_1 (j := 21) rfl rfl) (fl_X1_holds_1 (j := 22) rfl rfl) (fl_X1_holds_1 (j := 23) rfl rfl) (s2p rfl (bl rfl))
theorem dX1_holds_88 : decode cX1_holds 88 = .ok (.aload_n 0, 1) := fq1_42 (fl_X1_holds_1 (j := 24) rfl rfl)
theorem dX1_holds_89 : decode cX1_holds 89 = .ok (.getfield 17, 3) := fq3_180 (fl_X1_holds_1 (j := 25) rfl rfl) (fl_X1_holds_1 (j := 26) rfl rfl) (fl_X1_holds_1 (j := 27) rfl rfl) rfl
theorem dX1_holds_92 : decode cX1_holds 92 = .ok (.iload 4, 2) := fq2_21 (fl_X1_holds_1 (j := 28) rfl rfl) (fl_X1_holds_1 (j := 29) rfl rfl) rfl
theorem dX1_holds_94 : decode cX1_holds 94 = .ok (.aload_n 2, 1) := fq1_44 (fl_X1_holds_1 (j := 30) rfl rfl)
theorem dX1_holds_95 : decode cX1_holds 95 = .ok (.getfield 35, 3) := fq3_180 (fl_X1_holds_1 (j := 31) rfl rfl) (fl_X1_holds_1 (j := 32) rfl rfl) (fl_X1_holds_1 (j := 33) rfl rfl) rfl
theorem dX1_holds_98 : decode cX1_holds 98 = .ok (.invokevirtual 164, 3) := fq3_182 (fl_X1_holds_1 (j := 34) rfl rfl) (fl_X1_holds_1 (j := 35) rfl rfl) (fl_X1_holds_1 (j := 36) rfl rfl) rfl
theorem dX1_holds_101 : decode cX1_holds 101 = .ok (.istore 5, 2) := fq2_54 (fl_X1_holds_1 (j := 37) rfl rfl) (fl_X1_holds_1 (j := 38) rfl rfl) rfl
theorem dX1_holds_103 : decode cX1_holds 103 = .ok (.iload 5, 2) := fq2_21 (fl_X1_holds_1 (j := 39) rfl rfl) (fl_X1_holds_1 (j := 40) rfl rfl) rfl
theorem dX1_holds_105 : decode cX1_holds 105 = .ok (.iconst (-1), 1) := fq1_2 (fl_X1_holds_1 (j := 41) rfl rfl)
theorem dX1_holds_106 : decode cX1_holds 106 = .ok (.if_icmp .eq 18, 3) := fq3_159 (fl_X1_holds_1 (j := 42) rfl rfl) (fl_X1_holds_1 (j := 43) rfl rfl) (fl_X1_holds_1 (j := 44) rfl rfl) (s2p rfl (bl rfl))
theorem dX1_holds_109 : decode cX1_holds 109 = .ok (.aload_n 2, 1) := fq1_44 (fl_X1_holds_1 (j := 45) rfl rfl)
theorem dX1_holds_110 : decode cX1_holds 110 = .ok (.getfield 76, 3) := fq3_180 (fl_X1_holds_1 (j := 46) rfl rfl) (fl_X1_holds_1 (j := 47) rfl rfl) (fl_X1_holds_1 (j := 48) rfl rfl) rfl
theorem dX1_holds_113 : decode cX1_holds 113 = .ok (.iload 5, 2) := fq2_21 (fl_X1_holds_1 (j := 49) rfl rfl) (fl_X1_holds_1 (j := 50) rfl rfl) rfl
theorem dX1_holds_115 : decode cX1_holds 115 = .ok (.iaload, 1) := fq1_46 (fl_X1_holds_1 (j := 51) rfl rfl)
theorem dX1_holds_116 : decode cX1_holds 116 = .ok (.iload_n 3, 1) := fq1_29 (fl_X1_holds_1 (j := 52) rfl rfl)
theorem dX1_holds_117 : decode cX1_holds 117 = .ok (.if_icmp .ne 7, 3) := fq3_160 (fl_X1_holds_1 (j := 53) rfl rfl) (fl_X1_holds_1 (j := 54) rfl rfl) (fl_X1_holds_1 (j := 55) rfl rfl) (s2p rfl (bl rfl))
theorem dX1_holds_120 : decode cX1_holds 120 = .ok (.iconst 1, 1) := fq1_4 (fl_X1_holds_1 (j := 56) rfl rfl)
theorem dX1_holds_121 : decode cX1_holds 121 = .ok (.goto 4, 3) := fq3_167 (fl_X1_holds_1 (j := 57) rfl rfl) (fl_X1_holds_1 (j := 58) rfl rfl) (fl_X1_holds_1 (j := 59) rfl rfl) (s2p rfl (bl rfl))
theorem dX1_holds_124 : decode cX1_holds 124 = .ok (.iconst 0, 1) := fq1_3 (fl_X1_holds_1 (j := 60) rfl rfl)
theorem dX1_holds_125 : decode cX1_holds 125 = .ok (.ireturn, 1) := fq1_172 (fl_X1_holds_1 (j := 61) rfl rfl)
theorem dX1_holds_126 : decode cX1_holds 126 = .ok (.iload_n 3, 1) := fq1_29 (fl_X1_holds_1 (j := 62) rfl rfl)
def fb_X1_holds_2 : List UInt8 := [0x3c, 0xa0, 0x00, 0x12, 0x2c, 0xb4, 0x00, 0x23, 0x15, 0x04, 0xa2, 0x00, 0x07, 0x04, 0xa7, 0x00, 0x04, 0x03, 0xac, 0x1d, 0x10, 0x3e, 0xa0, 0x00, 0x14, 0x2c, 0xb4, 0x00, 0x23, 0x15, 0x04, 0xa4, 0x00, 0x07, 0x04, 0xa7, 0x00, 0x15, 0x03, 0xa7, 0x00, 0x11, 0x2c, 0xb4, 0x00, 0x23, 0x15, 0x04, 0xa0, 0x00, 0x07, 0x04, 0xa7, 0x00, 0x04, 0x03, 0xac]
theorem fl_X1_holds_2 {p j : Nat} {b : UInt8} (e : p = 128 + j) (h : fb_X1_holds_2[j]? = some b) : cX1_holds.data.toList[p]? = some b := fq_l (n := 64) (show (cX1_holds.data.toList.drop 128).take 64 = fb_X1_holds_2 by decide +kernel) e h
theorem dX1_holds_127 : decode cX1_holds 127 = .ok (.bipush 60, 2) := fq2_16 (fl_X1_holds_1 (j := 63) rfl rfl) (fl_X1_holds_2 (j := 0) rfl rfl) (s1p rfl (bl rfl))
theorem dX1_holds_129 : decode cX1_holds 129 = .ok (.if_icmp .ne 18, 3) := fq3_160 (fl_X1_holds_2 (j := 1) rfl rfl) (fl_X1_holds_2 (j := 2) rfl rfl) (fl_X1_holds_2 (j := 3) rfl rfl) (s2p rfl (bl rfl))
theorem dX1_holds_132 : decode cX1_holds 132 = .ok (.aload_n 2, 1) := fq1_44 (fl_X1_holds_2 (j := 4) rfl rfl)
theorem dX1_holds_133 : decode cX1_holds 133 = .ok (.getfield 35, 3) := fq3_180 (fl_X1_holds_2 (j := 5) rfl rfl) (fl_X1_holds_2 (j := 6) rfl rfl) (fl_X1_holds_2 (j := 7) rfl rfl) rfl
theorem dX1_holds_136 : decode cX1_holds 136 = .ok (.iload 4, 2) := fq2_21 (fl_X1_holds_2 (j := 8) rfl rfl) (fl_X1_holds_2 (j := 9) rfl rfl) rfl
theorem dX1_holds_138 : decode cX1_holds 138 = .ok (.if_icmp .ge 7, 3) := fq3_162 (fl_X1_holds_2 (j := 10) rfl rfl) (fl_X1_holds_2 (j := 11) rfl rfl) (fl_X1_holds_2 (j := 12) rfl rfl) (s2p rfl (bl rfl))
theorem dX1_holds_141 : decode cX1_holds 141 = .ok (.iconst 1, 1) := fq1_4 (fl_X1_holds_2 (j := 13) rfl rfl)
theorem dX1_holds_142 : decode cX1_holds 142 = .ok (.goto 4, 3) := fq3_167 (fl_X1_holds_2 (j := 14) rfl rfl) (fl_X1_holds_2 (j := 15) rfl rfl) (fl_X1_holds_2 (j := 16) rfl rfl) (s2p rfl (bl rfl))
theorem dX1_holds_145 : decode cX1_holds 145 = .ok (.iconst 0, 1) := fq1_3 (fl_X1_holds_2 (j := 17) rfl rfl)
theorem dX1_holds_146 : decode cX1_holds 146 = .ok (.ireturn, 1) := fq1_172 (fl_X1_holds_2 (j := 18) rfl rfl)
theorem dX1_holds_147 : decode cX1_holds 147 = .ok (.iload_n 3, 1) := fq1_29 (fl_X1_holds_2 (j := 19) rfl rfl)
theorem dX1_holds_148 : decode cX1_holds 148 = .ok (.bipush 62, 2) := fq2_16 (fl_X1_holds_2 (j := 20) rfl rfl) (fl_X1_holds_2 (j := 21) rfl rfl) (s1p rfl (bl rfl))
theorem dX1_holds_150 : decode cX1_holds 150 = .ok (.if_icmp .ne 20, 3) := fq3_160 (fl_X1_holds_2 (j := 22) rfl rfl) (fl_X1_holds_2 (j := 23) rfl rfl) (fl_X1_holds_2 (j := 24) rfl rfl) (s2p rfl (bl rfl))
theorem dX1_holds_153 : decode cX1_holds 153 = .ok (.aload_n 2, 1) := fq1_44 (fl_X1_holds_2 (j := 25) rfl rfl)
theorem dX1_holds_154 : decode cX1_holds 154 = .ok (.getfield 35, 3) := fq3_180 (fl_X1_holds_2 (j := 26) rfl rfl) (fl_X1_holds_2 (j := 27) rfl rfl) (fl_X1_holds_2 (j := 28) rfl rfl) rfl
theorem dX1_holds_157 : decode cX1_holds 157 = .ok (.iload 4, 2) := fq2_21 (fl_X1_holds_2 (j := 29) rfl rfl) (fl_X1_holds_2 (j := 30) rfl rfl) rfl
theorem dX1_holds_159 : decode cX1_holds 159 = .ok (.if_icmp .le 7, 3) := fq3_164 (fl_X1_holds_2 (j := 31) rfl rfl) (fl_X1_holds_2 (j := 32) rfl rfl) (fl_X1_holds_2 (j := 33) rfl rfl) (s2p rfl (bl rfl))
theorem dX1_holds_162 : decode cX1_holds 162 = .ok (.iconst 1, 1) := fq1_4 (fl_X1_holds_2 (j := 34) rfl rfl)
theorem dX1_holds_163 : decode cX1_holds 163 = .ok (.goto 21, 3) := fq3_167 (fl_X1_holds_2 (j := 35) rfl rfl) (fl_X1_holds_2 (j := 36) rfl rfl) (fl_X1_holds_2 (j := 37) rfl rfl) (s2p rfl (bl rfl))
theorem dX1_holds_166 : decode cX1_holds 166 = .ok (.iconst 0, 1) := fq1_3 (fl_X1_holds_2 (j := 38) rfl rfl)
theorem dX1_holds_167 : decode cX1_holds 167 = .ok (.goto 17, 3) := fq3_167 (fl_X1_holds_2 (j := 39) rfl rfl) (fl_X1_holds_2 (j := 40) rfl rfl) (fl_X1_holds_2 (j := 41) rfl rfl) (s2p rfl (bl rfl))
theorem dX1_holds_170 : decode cX1_holds 170 = .ok (.aload_n 2, 1) := fq1_44 (fl_X1_holds_2 (j := 42) rfl rfl)
theorem dX1_holds_171 : decode cX1_holds 171 = .ok (.getfield 35, 3) := fq3_180 (fl_X1_holds_2 (j := 43) rfl rfl) (fl_X1_holds_2 (j := 44) rfl rfl) (fl_X1_holds_2 (j := 45) rfl rfl) rfl
theorem dX1_holds_174 : decode cX1_holds 174 = .ok (.iload 4, 2) := fq2_21 (fl_X1_holds_2 (j := 46) rfl rfl) (fl_X1_holds_2 (j := 47) rfl rfl) rfl
theorem dX1_holds_176 : decode cX1_holds 176 = .ok (.if_icmp .ne 7, 3) := fq3_160 (fl_X1_holds_2 (j := 48) rfl rfl) (fl_X1_holds_2 (j := 49) rfl rfl) (fl_X1_holds_2 (j := 50) rfl rfl) (s2p rfl (bl rfl))
theorem dX1_holds_179 : decode cX1_holds 179 = .ok (.iconst 1, 1) := fq1_4 (fl_X1_holds_2 (j := 51) rfl rfl)
theorem dX1_holds_180 : decode cX1_holds 180 = .ok (.goto 4, 3) := fq3_167 (fl_X1_holds_2 (j := 52) rfl rfl) (fl_X1_holds_2 (j := 53) rfl rfl) (fl_X1_holds_2 (j := 54) rfl rfl) (s2p rfl (bl rfl))
theorem dX1_holds_183 : decode cX1_holds 183 = .ok (.iconst 0, 1) := fq1_3 (fl_X1_holds_2 (j := 55) rfl rfl)
theorem dX1_holds_184 : decode cX1_holds 184 = .ok (.ireturn, 1) := fq1_172 (fl_X1_holds_2 (j := 56) rfl rfl)
def fb_X1_run_0 : List UInt8 := [0x2a, 0xb4, 0x00, 0x11, 0xb4, 0x00, 0x5c, 0x4d, 0x2a, 0x1b, 0xb5, 0x00, 0x60, 0x2a, 0x03, 0xb5, 0x00, 0x63, 0x2a, 0x03, 0xb5, 0x00, 0x66, 0x2a, 0x03, 0xb5, 0x00, 0x69, 0x2a, 0x03, 0xb5, 0x00, 0x6c, 0x2a, 0x03, 0xb5, 0x00, 0x6f, 0x2a, 0x03, 0xb5, 0x00, 0x72, 0x03, 0x3e, 0x03, 0x36, 0x04, 0x15, 0x04, 0x12, 0x75, 0xa2, 0x00, 0x48, 0x1d, 0x2c, 0xb4, 0x00, 0x76, 0xa2, 0x00, 0x40, 0x2c]
theorem fl_X1_run_0 {p j : Nat} {b : UInt8} (e : p = 0 + j) (h : fb_X1_run_0[j]? = some b) : cX1_run.data.toList[p]? = some b := fq_l (n := 64) (show (cX1_run.data.toList.drop 0).take 64 = fb_X1_run_0 by decide +kernel) e h
theorem dX1_run_0 : decode cX1_run 0 = .ok (.aload_n 0, 1) := fq1_42 (fl_X1_run_0 (j := 0) rfl rfl)
theorem dX1_run_1 : decode cX1_run 1 = .ok (.getfield 17, 3) := fq3_180 (fl_X1_run_0 (j := 1) rfl rfl) (fl_X1_run_0 (j := 2) rfl rfl) (fl_X1_run_0 (j := 3) rfl rfl) rfl
theorem dX1_run_4 : decode cX1_run 4 = .ok (.getfield 92, 3) := fq3_180 (fl_X1_run_0 (j := 4) rfl rfl) (fl_X1_run_0 (j := 5) rfl rfl) (fl_X1_run_0 (j := 6) rfl rfl) rfl
theorem dX1_run_7 : decode cX1_run 7 = .ok (.astore_n 2, 1) := fq1_77 (fl_X1_run_0 (j := 7) rfl rfl)
theorem dX1_run_8 : decode cX1_run 8 = .ok (.aload_n 0, 1) := fq1_42 (fl_X1_run_0 (j := 8) rfl rfl)
theorem dX1_run_9 : decode cX1_run 9 = .ok (.iload_n 1, 1) := fq1_27 (fl_X1_run_0 (j := 9) rfl rfl)
theorem dX1_run_10 : decode cX1_run 10 = .ok (.putfield 96, 3) := fq3_181 (fl_X1_run_0 (j := 10) rfl rfl) (fl_X1_run_0 (j := 11) rfl rfl) (fl_X1_run_0 (j := 12) rfl rfl) rfl
theorem dX1_run_13 : decode cX1_run 13 = .ok (.aload_n 0, 1) := fq1_42 (fl_X1_run_0 (j := 13) rfl rfl)
theorem dX1_run_14 : decode cX1_run 14 = .ok (.iconst 0, 1) := fq1_3 (fl_X1_run_0 (j := 14) rfl rfl)
theorem dX1_run_15 : decode cX1_run 15 = .ok (.putfield 99, 3) := fq3_181 (fl_X1_run_0 (j := 15) rfl rfl) (fl_X1_run_0 (j := 16) rfl rfl) (fl_X1_run_0 (j := 17) rfl rfl) rfl
theorem dX1_run_18 : decode cX1_run 18 = .ok (.aload_n 0, 1) := fq1_42 (fl_X1_run_0 (j := 18) rfl rfl)
theorem dX1_run_19 : decode cX1_run 19 = .ok (.iconst 0, 1) := fq1_3 (fl_X1_run_0 (j := 19) rfl rfl)
theorem dX1_run_20 : decode cX1_run 20 = .ok (.putfield 102, 3) := fq3_181 (fl_X1_run_0 (j := 20) rfl rfl) (fl_X1_run_0 (j := 21) rfl rfl) (fl_X1_run_0 (j := 22) rfl rfl) rfl
theorem dX1_run_23 : decode cX1_run 23 = .ok (.aload_n 0, 1) := fq1_42 (fl_X1_run_0 (j := 23) rfl rfl)
theorem dX1_run_24 : decode cX1_run 24 = .ok (.iconst 0, 1) := fq1_3 (fl_X1_run_0 (j := 24) rfl rfl)
theorem dX1_run_25 : decode cX1_run 25 = .ok (.putfield 105, 3) := fq3_181 (fl_X1_run_0 (j := 25) rfl rfl) (fl_X1_run_0 (j := 26) rfl rfl) (fl_X1_run_0 (j := 27) rfl rfl) rfl
theorem dX1_run_28 : decode cX1_run 28 = .ok (.aload_n 0, 1) := fq1_42 (fl_X1_run_0 (j := 28) rfl rfl)
theorem dX1_run_29 : decode cX1_run 29 = .ok (.iconst 0, 1) := fq1_3 (fl_X1_run_0 (j := 29) rfl rfl)
theorem dX1_run_30 : decode cX1_run 30 = .ok (.putfield 108, 3) := fq3_181 (fl_X1_run_0 (j := 30) rfl rfl) (fl_X1_run_0 (j := 31) rfl rfl) (fl_X1_run_0 (j := 32) rfl rfl) rfl
theorem dX1_run_33 : decode cX1_run 33 = .ok (.aload_n 0, 1) := fq1_42 (fl_X1_run_0 (j := 33) rfl rfl)
theorem dX1_run_34 : decode cX1_run 34 = .ok (.iconst 0, 1) := fq1_3 (fl_X1_run_0 (j := 34) rfl rfl)
theorem dX1_run_35 : decode cX1_run 35 = .ok (.putfield 111, 3) := fq3_181 (fl_X1_run_0 (j := 35) rfl rfl) (fl_X1_run_0 (j := 36) rfl rfl) (fl_X1_run_0 (j := 37) rfl rfl) rfl
theorem dX1_run_38 : decode cX1_run 38 = .ok (.aload_n 0, 1) := fq1_42 (fl_X1_run_0 (j := 38) rfl rfl)
theorem dX1_run_39 : decode cX1_run 39 = .ok (.iconst 0, 1) := fq1_3 (fl_X1_run_0 (j := 39) rfl rfl)
theorem dX1_run_40 : decode cX1_run 40 = .ok (.putfield 114, 3) := fq3_181 (fl_X1_run_0 (j := 40) rfl rfl) (fl_X1_run_0 (j := 41) rfl rfl) (fl_X1_run_0 (j := 42) rfl rfl) rfl
theorem dX1_run_43 : decode cX1_run 43 = .ok (.iconst 0, 1) := fq1_3 (fl_X1_run_0 (j := 43) rfl rfl)
theorem dX1_run_44 : decode cX1_run 44 = .ok (.istore_n 3, 1) := fq1_62 (fl_X1_run_0 (j := 44) rfl rfl)
theorem dX1_run_45 : decode cX1_run 45 = .ok (.iconst 0, 1) := fq1_3 (fl_X1_run_0 (j := 45) rfl rfl)
theorem dX1_run_46 : decode cX1_run 46 = .ok (.istore 4, 2) := fq2_54 (fl_X1_run_0 (j := 46) rfl rfl) (fl_X1_run_0 (j := 47) rfl rfl) rfl
theorem dX1_run_48 : decode cX1_run 48 = .ok (.iload 4, 2) := fq2_21 (fl_X1_run_0 (j := 48) rfl rfl) (fl_X1_run_0 (j := 49) rfl rfl) rfl
theorem dX1_run_50 : decode cX1_run 50 = .ok (.ldc 117, 2) := fq2_18 (fl_X1_run_0 (j := 50) rfl rfl) (fl_X1_run_0 (j := 51) rfl rfl) rfl
theorem dX1_run_52 : decode cX1_run 52 = .ok (.if_icmp .ge 72, 3) := fq3_162 (fl_X1_run_0 (j := 52) rfl rfl) (fl_X1_run_0 (j := 53) rfl rfl) (fl_X1_run_0 (j := 54) rfl rfl) (s2p rfl (bl rfl))
theorem dX1_run_55 : decode cX1_run 55 = .ok (.iload_n 3, 1) := fq1_29 (fl_X1_run_0 (j := 55) rfl rfl)
theorem dX1_run_56 : decode cX1_run 56 = .ok (.aload_n 2, 1) := fq1_44 (fl_X1_run_0 (j := 56) rfl rfl)
theorem dX1_run_57 : decode cX1_run 57 = .ok (.getfield 118, 3) := fq3_180 (fl_X1_run_0 (j := 57) rfl rfl) (fl_X1_run_0 (j := 58) rfl rfl) (fl_X1_run_0 (j := 59) rfl rfl) rfl
theorem dX1_run_60 : decode cX1_run 60 = .ok (.if_icmp .ge 64, 3) := fq3_162 (fl_X1_run_0 (j := 60) rfl rfl) (fl_X1_run_0 (j := 61) rfl rfl) (fl_X1_run_0 (j := 62) rfl rfl) (s2p rfl (bl rfl))
theorem dX1_run_63 : decode cX1_run 63 = .ok (.aload_n 2, 1) := fq1_44 (fl_X1_run_0 (j := 63) rfl rfl)
def fb_X1_run_1 : List UInt8 := [0xb4, 0x00, 0x79, 0x1d, 0x2e, 0x10, 0x17, 0xa0, 0x00, 0x0c, 0x2a, 0x1d, 0xb6, 0x00, 0x7c, 0x3e, 0xa7, 0x00, 0x26, 0x2a, 0xb4, 0x00, 0x63, 0x11, 0x00, 0xc8, 0xa2, 0x00, 0x16, 0x2a, 0x59, 0xb4, 0x00, 0x63, 0x04, 0x60, 0xb5, 0x00, 0x63, 0x2a, 0x1d, 0xb6, 0x00, 0x80, 0x3e, 0xa7, 0x00, 0x09, 0x2a, 0x04, 0xb5, 0x00, 0x72, 0xb1, 0x84, 0x04, 0x01, 0xa7, 0xff, 0xb7, 0xb1]
theorem fl_X1_run_1 {p j : Nat} {b : UInt8} (e : p = 64 + j) (h : fb_X1_run_1[j]? = some b) : cX1_run.data.toList[p]? = some b := fq_l (n := 64) (show (cX1_run.data.toList.drop 64).take 64 = fb_X1_run_1 by decide +kernel) e h
theorem dX1_run_64 : decode cX1_run 64 = .ok (.getfield 121, 3) := fq3_180 (fl_X1_run_1 (j := 0) rfl rfl) (fl_X1_run_1 (j := 1) rfl rfl) (fl_X1_run_1 (j := 2) rfl rfl) rfl
theorem dX1_run_67 : decode cX1_run 67 = .ok (.iload_n 3, 1) := fq1_29 (fl_X1_run_1 (j := 3) rfl rfl)
theorem dX1_run_68 : decode cX1_run 68 = .ok (.iaload, 1) := fq1_46 (fl_X1_run_1 (j := 4) rfl rfl)
theorem dX1_run_69 : decode cX1_run 69 = .ok (.bipush 23, 2) := fq2_16 (fl_X1_run_1 (j := 5) rfl rfl) (fl_X1_run_1 (j := 6) rfl rfl) (s1p rfl (bl rfl))
theorem dX1_run_71 : decode cX1_run 71 = .ok (.if_icmp .ne 12, 3) := fq3_160 (fl_X1_run_1 (j := 7) rfl rfl) (fl_X1_run_1 (j := 8) rfl rfl) (fl_X1_run_1 (j := 9) rfl rfl) (s2p rfl (bl rfl))
theorem dX1_run_74 : decode cX1_run 74 = .ok (.aload_n 0, 1) := fq1_42 (fl_X1_run_1 (j := 10) rfl rfl)
theorem dX1_run_75 : decode cX1_run 75 = .ok (.iload_n 3, 1) := fq1_29 (fl_X1_run_1 (j := 11) rfl rfl)
theorem dX1_run_76 : decode cX1_run 76 = .ok (.invokevirtual 124, 3) := fq3_182 (fl_X1_run_1 (j := 12) rfl rfl) (fl_X1_run_1 (j := 13) rfl rfl) (fl_X1_run_1 (j := 14) rfl rfl) rfl
theorem dX1_run_79 : decode cX1_run 79 = .ok (.istore_n 3, 1) := fq1_62 (fl_X1_run_1 (j := 15) rfl rfl)
theorem dX1_run_80 : decode cX1_run 80 = .ok (.goto 38, 3) := fq3_167 (fl_X1_run_1 (j := 16) rfl rfl) (fl_X1_run_1 (j := 17) rfl rfl) (fl_X1_run_1 (j := 18) rfl rfl) (s2p rfl (bl rfl))
theorem dX1_run_83 : decode cX1_run 83 = .ok (.aload_n 0, 1) := fq1_42 (fl_X1_run_1 (j := 19) rfl rfl)
theorem dX1_run_84 : decode cX1_run 84 = .ok (.getfield 99, 3) := fq3_180 (fl_X1_run_1 (j := 20) rfl rfl) (fl_X1_run_1 (j := 21) rfl rfl) (fl_X1_run_1 (j := 22) rfl rfl) rfl
theorem dX1_run_87 : decode cX1_run 87 = .ok (.sipush 200, 3) := fq3_17 (fl_X1_run_1 (j := 23) rfl rfl) (fl_X1_run_1 (j := 24) rfl rfl) (fl_X1_run_1 (j := 25) rfl rfl) (s2p rfl (bl rfl))
theorem dX1_run_90 : decode cX1_run 90 = .ok (.if_icmp .ge 22, 3) := fq3_162 (fl_X1_run_1 (j := 26) rfl rfl) (fl_X1_run_1 (j := 27) rfl rfl) (fl_X1_run_1 (j := 28) rfl rfl) (s2p rfl (bl rfl))
theorem dX1_run_93 : decode cX1_run 93 = .ok (.aload_n 0, 1) := fq1_42 (fl_X1_run_1 (j := 29) rfl rfl)
theorem dX1_run_94 : decode cX1_run 94 = .ok (.dup, 1) := fq1_89 (fl_X1_run_1 (j := 30) rfl rfl)
theorem dX1_run_95 : decode cX1_run 95 = .ok (.getfield 99, 3) := fq3_180 (fl_X1_run_1 (j := 31) rfl rfl) (fl_X1_run_1 (j := 32) rfl rfl) (fl_X1_run_1 (j := 33) rfl rfl) rfl
theorem dX1_run_98 : decode cX1_run 98 = .ok (.iconst 1, 1) := fq1_4 (fl_X1_run_1 (j := 34) rfl rfl)
theorem dX1_run_99 : decode cX1_run 99 = .ok (.iadd, 1) := fq1_96 (fl_X1_run_1 (j := 35) rfl rfl)
theorem dX1_run_100 : decode cX1_run 100 = .ok (.putfield 99, 3) := fq3_181 (fl_X1_run_1 (j := 36) rfl rfl) (fl_X1_run_1 (j := 37) rfl rfl) (fl_X1_run_1 (j := 38) rfl rfl) rfl
theorem dX1_run_103 : decode cX1_run 103 = .ok (.aload_n 0, 1) := fq1_42 (fl_X1_run_1 (j := 39) rfl rfl)
theorem dX1_run_104 : decode cX1_run 104 = .ok (.iload_n 3, 1) := fq1_29 (fl_X1_run_1 (j := 40) rfl rfl)
theorem dX1_run_105 : decode cX1_run 105 = .ok (.invokevirtual 128, 3) := fq3_182 (fl_X1_run_1 (j := 41) rfl rfl) (fl_X1_run_1 (j := 42) rfl rfl) (fl_X1_run_1 (j := 43) rfl rfl) rfl
theorem dX1_run_108 : decode cX1_run 108 = .ok (.istore_n 3, 1) := fq1_62 (fl_X1_run_1 (j := 44) rfl rfl)
theorem dX1_run_109 : decode cX1_run 109 = .ok (.goto 9, 3) := fq3_167 (fl_X1_run_1 (j := 45) rfl rfl) (fl_X1_run_1 (j := 46) rfl rfl) (fl_X1_run_1 (j := 47) rfl rfl) (s2p rfl (bl rfl))
theorem dX1_run_112 : decode cX1_run 112 = .ok (.aload_n 0, 1) := fq1_42 (fl_X1_run_1 (j := 48) rfl rfl)
theorem dX1_run_113 : decode cX1_run 113 = .ok (.iconst 1, 1) := fq1_4 (fl_X1_run_1 (j := 49) rfl rfl)
theorem dX1_run_114 : decode cX1_run 114 = .ok (.putfield 114, 3) := fq3_181 (fl_X1_run_1 (j := 50) rfl rfl) (fl_X1_run_1 (j := 51) rfl rfl) (fl_X1_run_1 (j := 52) rfl rfl) rfl
theorem dX1_run_117 : decode cX1_run 117 = .ok (.return_, 1) := fq1_177 (fl_X1_run_1 (j := 53) rfl rfl)
theorem dX1_run_118 : decode cX1_run 118 = .ok (.iinc 4 1, 3) := fq3_132 (fl_X1_run_1 (j := 54) rfl rfl) (fl_X1_run_1 (j := 55) rfl rfl) (fl_X1_run_1 (j := 56) rfl rfl) rfl (s1p rfl (bl rfl))
theorem dX1_run_121 : decode cX1_run 121 = .ok (.goto (-73), 3) := fq3_167 (fl_X1_run_1 (j := 57) rfl rfl) (fl_X1_run_1 (j := 58) rfl rfl) (fl_X1_run_1 (j := 59) rfl rfl) (by decide)
theorem dX1_run_124 : decode cX1_run 124 = .ok (.return_, 1) := fq1_177 (fl_X1_run_1 (j := 60) rfl rfl)
def fb_X1_turnByChance_0 : List UInt8 := [0x03, 0x3d, 0x1c, 0x2a, 0xb4, 0x00, 0x11, 0xb4, 0x00, 0x30, 0xb4, 0x00, 0x34, 0xa2, 0x00, 0x3f, 0x2a, 0x2a, 0xb4, 0x00, 0x60, 0x11, 0x0b, 0x4d, 0x68, 0x11, 0x2b, 0x55, 0x60, 0x12, 0x9d, 0x70, 0xb5, 0x00, 0x60, 0x2a, 0xb4, 0x00, 0x60, 0x10, 0x08, 0x6c, 0x10, 0x10, 0x70, 0x1b, 0xa2, 0x00, 0x18, 0x2a, 0xb4, 0x00, 0x11, 0xb4, 0x00, 0x1d, 0x1c, 0xb6, 0x00, 0x9e, 0x2a, 0x59, 0xb4, 0x00]
theorem fl_X1_turnByChance_0 {p j : Nat} {b : UInt8} (e : p = 0 + j) (h : fb_X1_turnByChance_0[j]? = some b) : cX1_turnByChance.data.toList[p]? = some b := fq_l (n := 64) (show (cX1_turnByChance.data.toList.drop 0).take 64 = fb_X1_turnByChance_0 by decide +kernel) e h
theorem dX1_turnByChance_0 : decode cX1_turnByChance 0 = .ok (.iconst 0, 1) := fq1_3 (fl_X1_turnByChance_0 (j := 0) rfl rfl)
theorem dX1_turnByChance_1 : decode cX1_turnByChance 1 = .ok (.istore_n 2, 1) := fq1_61 (fl_X1_turnByChance_0 (j := 1) rfl rfl)
theorem dX1_turnByChance_2 : decode cX1_turnByChance 2 = .ok (.iload_n 2, 1) := fq1_28 (fl_X1_turnByChance_0 (j := 2) rfl rfl)
theorem dX1_turnByChance_3 : decode cX1_turnByChance 3 = .ok (.aload_n 0, 1) := fq1_42 (fl_X1_turnByChance_0 (j := 3) rfl rfl)
theorem dX1_turnByChance_4 : decode cX1_turnByChance 4 = .ok (.getfield 17, 3) := fq3_180 (fl_X1_turnByChance_0 (j := 4) rfl rfl) (fl_X1_turnByChance_0 (j := 5) rfl rfl) (fl_X1_turnByChance_0 (j := 6) rfl rfl) rfl
theorem dX1_turnByChance_7 : decode cX1_turnByChance 7 = .ok (.getfield 48, 3) := fq3_180 (fl_X1_turnByChance_0 (j := 7) rfl rfl) (fl_X1_turnByChance_0 (j := 8) rfl rfl) (fl_X1_turnByChance_0 (j := 9) rfl rfl) rfl
theorem dX1_turnByChance_10 : decode cX1_turnByChance 10 = .ok (.getfield 52, 3) := fq3_180 (fl_X1_turnByChance_0 (j := 10) rfl rfl) (fl_X1_turnByChance_0 (j := 11) rfl rfl) (fl_X1_turnByChance_0 (j := 12) rfl rfl) rfl
theorem dX1_turnByChance_13 : decode cX1_turnByChance 13 = .ok (.if_icmp .ge 63, 3) := fq3_162 (fl_X1_turnByChance_0 (j := 13) rfl rfl) (fl_X1_turnByChance_0 (j := 14) rfl rfl) (fl_X1_turnByChance_0 (j := 15) rfl rfl) (s2p rfl (bl rfl))
theorem dX1_turnByChance_16 : decode cX1_turnByChance 16 = .ok (.aload_n 0, 1) := fq1_42 (fl_X1_turnByChance_0 (j := 16) rfl rfl)
theorem dX1_turnByChance_17 : decode cX1_turnByChance 17 = .ok (.aload_n 0, 1) := fq1_42 (fl_X1_turnByChance_0 (j := 17) rfl rfl)
theorem dX1_turnByChance_18 : decode cX1_turnByChance 18 = .ok (.getfield 96, 3) := fq3_180 (fl_X1_turnByChance_0 (j := 18) rfl rfl) (fl_X1_turnByChance_0 (j := 19) rfl rfl) (fl_X1_turnByChance_0 (j := 20) rfl rfl) rfl
theorem dX1_turnByChance_21 : decode cX1_turnByChance 21 = .ok (.sipush 2893, 3) := fq3_17 (fl_X1_turnByChance_0 (j := 21) rfl rfl) (fl_X1_turnByChance_0 (j := 22) rfl rfl) (fl_X1_turnByChance_0 (j := 23) rfl rfl) (s2p rfl (bl rfl))
theorem dX1_turnByChance_24 : decode cX1_turnByChance 24 = .ok (.imul, 1) := fq1_104 (fl_X1_turnByChance_0 (j := 24) rfl rfl)
theorem dX1_turnByChance_25 : decode cX1_turnByChance 25 = .ok (.sipush 11093, 3) := fq3_17 (fl_X1_turnByChance_0 (j := 25) rfl rfl) (fl_X1_turnByChance_0 (j := 26) rfl rfl) (fl_X1_turnByChance_0 (j := 27) rfl rfl) (s2p rfl (bl rfl))
theorem dX1_turnByChance_28 : decode cX1_turnByChance 28 = .ok (.iadd, 1) := fq1_96 (fl_X1_turnByChance_0 (j := 28) rfl rfl)
theorem dX1_turnByChance_29 : decode cX1_turnByChance 29 = .ok (.ldc 157, 2) := fq2_18 (fl_X1_turnByChance_0 (j := 29) rfl rfl) (fl_X1_turnByChance_0 (j := 30) rfl rfl) rfl
theorem dX1_turnByChance_31 : decode cX1_turnByChance 31 = .ok (.irem, 1) := fq1_112 (fl_X1_turnByChance_0 (j := 31) rfl rfl)
theorem dX1_turnByChance_32 : decode cX1_turnByChance 32 = .ok (.putfield 96, 3) := fq3_181 (fl_X1_turnByChance_0 (j := 32) rfl rfl) (fl_X1_turnByChance_0 (j := 33) rfl rfl) (fl_X1_turnByChance_0 (j := 34) rfl rfl) rfl
theorem dX1_turnByChance_35 : decode cX1_turnByChance 35 = .ok (.aload_n 0, 1) := fq1_42 (fl_X1_turnByChance_0 (j := 35) rfl rfl)
theorem dX1_turnByChance_36 : decode cX1_turnByChance 36 = .ok (.getfield 96, 3) := fq3_180 (fl_X1_turnByChance_0 (j := 36) rfl rfl) (fl_X1_turnByChance_0 (j := 37) rfl rfl) (fl_X1_turnByChance_0 (j := 38) rfl rfl) rfl
theorem dX1_turnByChance_39 : decode cX1_turnByChance 39 = .ok (.bipush 8, 2) := fq2_16 (fl_X1_turnByChance_0 (j := 39) rfl rfl) (fl_X1_turnByChance_0 (j := 40) rfl rfl) (s1p rfl (bl rfl))
theorem dX1_turnByChance_41 : decode cX1_turnByChance 41 = .ok (.idiv, 1) := fq1_108 (fl_X1_turnByChance_0 (j := 41) rfl rfl)
theorem dX1_turnByChance_42 : decode cX1_turnByChance 42 = .ok (.bipush 16, 2) := fq2_16 (fl_X1_turnByChance_0 (j := 42) rfl rfl) (fl_X1_turnByChance_0 (j := 43) rfl rfl) (s1p rfl (bl rfl))
theorem dX1_turnByChance_44 : decode cX1_turnByChance 44 = .ok (.irem, 1) := fq1_112 (fl_X1_turnByChance_0 (j := 44) rfl rfl)
theorem dX1_turnByChance_45 : decode cX1_turnByChance 45 = .ok (.iload_n 1, 1) := fq1_27 (fl_X1_turnByChance_0 (j := 45) rfl rfl)
theorem dX1_turnByChance_46 : decode cX1_turnByChance 46 = .ok (.if_icmp .ge 24, 3) := fq3_162 (fl_X1_turnByChance_0 (j := 46) rfl rfl) (fl_X1_turnByChance_0 (j := 47) rfl rfl) (fl_X1_turnByChance_0 (j := 48) rfl rfl) (s2p rfl (bl rfl))
theorem dX1_turnByChance_49 : decode cX1_turnByChance 49 = .ok (.aload_n 0, 1) := fq1_42 (fl_X1_turnByChance_0 (j := 49) rfl rfl)
theorem dX1_turnByChance_50 : decode cX1_turnByChance 50 = .ok (.getfield 17, 3) := fq3_180 (fl_X1_turnByChance_0 (j := 50) rfl rfl) (fl_X1_turnByChance_0 (j := 51) rfl rfl) (fl_X1_turnByChance_0 (j := 52) rfl rfl) rfl
theorem dX1_turnByChance_53 : decode cX1_turnByChance 53 = .ok (.getfield 29, 3) := fq3_180 (fl_X1_turnByChance_0 (j := 53) rfl rfl) (fl_X1_turnByChance_0 (j := 54) rfl rfl) (fl_X1_turnByChance_0 (j := 55) rfl rfl) rfl
theorem dX1_turnByChance_56 : decode cX1_turnByChance 56 = .ok (.iload_n 2, 1) := fq1_28 (fl_X1_turnByChance_0 (j := 56) rfl rfl)
theorem dX1_turnByChance_57 : decode cX1_turnByChance 57 = .ok (.invokevirtual 158, 3) := fq3_182 (fl_X1_turnByChance_0 (j := 57) rfl rfl) (fl_X1_turnByChance_0 (j := 58) rfl rfl) (fl_X1_turnByChance_0 (j := 59) rfl rfl) rfl
theorem dX1_turnByChance_60 : decode cX1_turnByChance 60 = .ok (.aload_n 0, 1) := fq1_42 (fl_X1_turnByChance_0 (j := 60) rfl rfl)
theorem dX1_turnByChance_61 : decode cX1_turnByChance 61 = .ok (.dup, 1) := fq1_89 (fl_X1_turnByChance_0 (j := 61) rfl rfl)
def fb_X1_turnByChance_1 : List UInt8 := [0x6c, 0x04, 0x60, 0xb5, 0x00, 0x6c, 0x84, 0x02, 0x01, 0xa7, 0xff, 0xb9, 0xb1]
theorem fl_X1_turnByChance_1 {p j : Nat} {b : UInt8} (e : p = 64 + j) (h : fb_X1_turnByChance_1[j]? = some b) : cX1_turnByChance.data.toList[p]? = some b := fq_l (n := 64) (show (cX1_turnByChance.data.toList.drop 64).take 64 = fb_X1_turnByChance_1 by decide +kernel) e h
theorem dX1_turnByChance_62 : decode cX1_turnByChance 62 = .ok (.getfield 108, 3) := fq3_180 (fl_X1_turnByChance_0 (j := 62) rfl rfl) (fl_X1_turnByChance_0 (j := 63) rfl rfl) (fl_X1_turnByChance_1 (j := 0) rfl rfl) rfl
theorem dX1_turnByChance_65 : decode cX1_turnByChance 65 = .ok (.iconst 1, 1) := fq1_4 (fl_X1_turnByChance_1 (j := 1) rfl rfl)
theorem dX1_turnByChance_66 : decode cX1_turnByChance 66 = .ok (.iadd, 1) := fq1_96 (fl_X1_turnByChance_1 (j := 2) rfl rfl)
theorem dX1_turnByChance_67 : decode cX1_turnByChance 67 = .ok (.putfield 108, 3) := fq3_181 (fl_X1_turnByChance_1 (j := 3) rfl rfl) (fl_X1_turnByChance_1 (j := 4) rfl rfl) (fl_X1_turnByChance_1 (j := 5) rfl rfl) rfl
theorem dX1_turnByChance_70 : decode cX1_turnByChance 70 = .ok (.iinc 2 1, 3) := fq3_132 (fl_X1_turnByChance_1 (j := 6) rfl rfl) (fl_X1_turnByChance_1 (j := 7) rfl rfl) (fl_X1_turnByChance_1 (j := 8) rfl rfl) rfl (s1p rfl (bl rfl))
theorem dX1_turnByChance_73 : decode cX1_turnByChance 73 = .ok (.goto (-71), 3) := fq3_167 (fl_X1_turnByChance_1 (j := 9) rfl rfl) (fl_X1_turnByChance_1 (j := 10) rfl rfl) (fl_X1_turnByChance_1 (j := 11) rfl rfl) (by decide)
theorem dX1_turnByChance_76 : decode cX1_turnByChance 76 = .ok (.return_, 1) := fq1_177 (fl_X1_turnByChance_1 (j := 12) rfl rfl)
end

section
theorem qf_X4_9 : Cond.fieldLink RX4 9 "SlowWorlds$Reader" "text" "[B" ∈ gw := tbt (tb2 (List.mem_of_getElem? (i := 2) rfl)) rfl
theorem iX4 : ∀ w ∈ u_ws RX4 TX4 12, w ∈ gw := by
  intro w hw
  obtain ⟨k, hk, rfl⟩ := List.mem_map.mp hw
  have hk := List.mem_range.mp hk
  match k, hk with
  | 0, _ => exact tbt (tb2 (List.mem_of_getElem? (i := 20) rfl)) rfl
  | 1, _ => exact tbt (tb2 (List.mem_of_getElem? (i := 22) rfl)) rfl
  | 2, _ => exact tbt (tb2 (List.mem_of_getElem? (i := 24) rfl)) rfl
  | 3, _ => exact tbt (tb2 (List.mem_of_getElem? (i := 26) rfl)) rfl
  | 4, _ => exact tbt (tb2 (List.mem_of_getElem? (i := 28) rfl)) rfl
  | 5, _ => exact tbt (tb2 (List.mem_of_getElem? (i := 30) rfl)) rfl
  | 6, _ => exact tbt (tb2 (List.mem_of_getElem? (i := 32) rfl)) rfl
  | 7, _ => exact tbt (tb2 (List.mem_of_getElem? (i := 34) rfl)) rfl
  | 8, _ => exact tbt (tb2 (List.mem_of_getElem? (i := 36) rfl)) rfl
  | 9, _ => exact tbt (tb2 (List.mem_of_getElem? (i := 38) rfl)) rfl
  | 10, _ => exact tbt (tb2 (List.mem_of_getElem? (i := 40) rfl)) rfl
  | 11, _ => exact tbt (tb2 (List.mem_of_getElem? (i := 42) rfl)) rfl
  | (k + 12), hk => exact absurd hk (by omega)
theorem qf_X4_47 : Cond.fieldLink RX4 47 "SlowWorlds$Reader" "end" "I" ∈ gw := tbt (tb2 (List.mem_of_getElem? (i := 8) rfl)) rfl
theorem qf_X4_68 : Cond.fieldLink RX4 68 "SlowWorlds$Reader" "kind" "I" ∈ gw := tbt (tb2 (List.mem_of_getElem? (i := 9) rfl)) rfl
theorem qf_X4_65 : Cond.fieldLink RX4 65 "SlowWorlds$Reader" "value" "I" ∈ gw := tbt (tb2 (List.mem_of_getElem? (i := 10) rfl)) rfl
theorem qf_X4_45 : Cond.fieldLink RX4 45 "SlowWorlds$Reader" "length" "I" ∈ gw := tbt (tb2 (List.mem_of_getElem? (i := 6) rfl)) rfl
theorem qf_X4_53 : Cond.fieldLink RX4 53 "SlowWorlds$Reader" "place" "I" ∈ gw := tbt (tb2 (List.mem_of_getElem? (i := 7) rfl)) rfl
theorem qf_X4_61 : Cond.fieldLink RX4 61 "SlowWorlds$Reader" "name" "J" ∈ gw := tbt (tb2 (List.mem_of_getElem? (i := 15) rfl)) rfl
theorem qf_X4_15 : Cond.fieldLink RX4 15 "SlowWorlds$Reader" "keywords" "[J" ∈ gw := tbt (tb2 (List.mem_of_getElem? (i := 3) rfl)) rfl
theorem qf_X4_56 : Cond.fieldLink RX4 56 "SlowWorlds$Reader" "keyword" "I" ∈ gw := tbt (tb2 (List.mem_of_getElem? (i := 13) rfl)) rfl
theorem qk_X4_59 : Cond.constantLong RX4 59 (-1) ∈ gw := tbt (tb3 (List.mem_of_getElem? (i := 97) rfl)) rfl
theorem qk_X4_38 : Cond.constantLong RX4 38 (32) ∈ gw := tbt (tb2 (List.mem_of_getElem? (i := 0) rfl)) rfl
theorem qk_X4_40 : Cond.constantLong RX4 40 (97) ∈ gw := tbt (tb2 (List.mem_of_getElem? (i := 1) rfl)) rfl
theorem qc_X4_readSign : Cond.code yX4_readSign cX4_readSign 2 none ∈ gw := tbt (tb3 (List.mem_of_getElem? (i := 109) rfl)) rfl
theorem qi_yX4_readSign : Cond.instanceMethod yX4_readSign ∈ gw := tbt (tb3 (List.mem_of_getElem? (i := 108) rfl)) rfl
theorem qs_X4_readSign : Cond.selects (yX4_readSign).cls yX4_readSign yX4_readSign ∈ gw := tb0 (List.mem_of_getElem? (i := 6) rfl) rfl
theorem qz_X4 : Cond.initialized RX4 ∈ gw := tbt (tb1 (List.mem_of_getElem? (i := 6) rfl)) rfl
theorem ci_X4_readSign : CIv yX4_readSign cX4_readSign 2 none 0 := ⟨qc_X4_readSign, qi_yX4_readSign, qs_X4_readSign, qz_X4, by decide +kernel⟩
theorem qm_X4_77 : Cond.methodLink RX4 77 yX4_readSign ∈ gw := tbt (tb3 (List.mem_of_getElem? (i := 106) rfl)) rfl
theorem qc_X4_readNumber : Cond.code yX4_readNumber cX4_readNumber 2 none ∈ gw := tbt (tb3 (List.mem_of_getElem? (i := 105) rfl)) rfl
theorem qi_yX4_readNumber : Cond.instanceMethod yX4_readNumber ∈ gw := tbt (tb3 (List.mem_of_getElem? (i := 104) rfl)) rfl
theorem qs_X4_readNumber : Cond.selects (yX4_readNumber).cls yX4_readNumber yX4_readNumber ∈ gw := tb0 (List.mem_of_getElem? (i := 5) rfl) rfl
theorem ci_X4_readNumber : CIv yX4_readNumber cX4_readNumber 2 none 0 := ⟨qc_X4_readNumber, qi_yX4_readNumber, qs_X4_readNumber, qz_X4, by decide +kernel⟩
theorem qm_X4_74 : Cond.methodLink RX4 74 yX4_readNumber ∈ gw := tbt (tb3 (List.mem_of_getElem? (i := 102) rfl)) rfl
theorem qc_X4_readWord : Cond.code yX4_readWord cX4_readWord 4 none ∈ gw := tbt (tb3 (List.mem_of_getElem? (i := 101) rfl)) rfl
theorem qi_yX4_readWord : Cond.instanceMethod yX4_readWord ∈ gw := tbt (tb3 (List.mem_of_getElem? (i := 100) rfl)) rfl
theorem qs_X4_readWord : Cond.selects (yX4_readWord).cls yX4_readWord yX4_readWord ∈ gw := tb0 (List.mem_of_getElem? (i := 4) rfl) rfl
theorem ci_X4_readWord : CIv yX4_readWord cX4_readWord 4 none 0 := ⟨qc_X4_readWord, qi_yX4_readWord, qs_X4_readWord, qz_X4, by decide +kernel⟩
theorem qm_X4_71 : Cond.methodLink RX4 71 yX4_readWord ∈ gw := tbt (tb3 (List.mem_of_getElem? (i := 98) rfl)) rfl
def fb_X4_next_0 : List UInt8 := [0x2a, 0xb4, 0x00, 0x2f, 0x2a, 0xb4, 0x00, 0x2d, 0xa2, 0x00, 0x2c, 0x2a, 0xb4, 0x00, 0x09, 0x2a, 0xb4, 0x00, 0x2f, 0x33, 0x10, 0x0a, 0x9f, 0x00, 0x11, 0x2a, 0xb4, 0x00, 0x09, 0x2a, 0xb4, 0x00, 0x2f, 0x33, 0x10, 0x20, 0xa0, 0x00, 0x10, 0x2a, 0x59, 0xb4, 0x00, 0x2f, 0x04, 0x60, 0xb5, 0x00, 0x2f, 0xa7, 0xff, 0xcf, 0x2a, 0x2a, 0xb4, 0x00, 0x2f, 0xb5, 0x00, 0x35, 0x2a, 0x02, 0xb5, 0x00]
theorem fl_X4_next_0 {p j : Nat} {b : UInt8} (e : p = 0 + j) (h : fb_X4_next_0[j]? = some b) : cX4_next.data.toList[p]? = some b := fq_l (n := 64) (show (cX4_next.data.toList.drop 0).take 64 = fb_X4_next_0 by decide +kernel) e h
theorem dX4_next_0 : decode cX4_next 0 = .ok (.aload_n 0, 1) := fq1_42 (fl_X4_next_0 (j := 0) rfl rfl)
theorem dX4_next_1 : decode cX4_next 1 = .ok (.getfield 47, 3) := fq3_180 (fl_X4_next_0 (j := 1) rfl rfl) (fl_X4_next_0 (j := 2) rfl rfl) (fl_X4_next_0 (j := 3) rfl rfl) rfl
theorem dX4_next_4 : decode cX4_next 4 = .ok (.aload_n 0, 1) := fq1_42 (fl_X4_next_0 (j := 4) rfl rfl)
theorem dX4_next_5 : decode cX4_next 5 = .ok (.getfield 45, 3) := fq3_180 (fl_X4_next_0 (j := 5) rfl rfl) (fl_X4_next_0 (j := 6) rfl rfl) (fl_X4_next_0 (j := 7) rfl rfl) rfl
theorem dX4_next_8 : decode cX4_next 8 = .ok (.if_icmp .ge 44, 3) := fq3_162 (fl_X4_next_0 (j := 8) rfl rfl) (fl_X4_next_0 (j := 9) rfl rfl) (fl_X4_next_0 (j := 10) rfl rfl) (s2p rfl (bl rfl))
theorem dX4_next_11 : decode cX4_next 11 = .ok (.aload_n 0, 1) := fq1_42 (fl_X4_next_0 (j := 11) rfl rfl)
theorem dX4_next_12 : decode cX4_next 12 = .ok (.getfield 9, 3) := fq3_180 (fl_X4_next_0 (j := 12) rfl rfl) (fl_X4_next_0 (j := 13) rfl rfl) (fl_X4_next_0 (j := 14) rfl rfl) rfl
theorem dX4_next_15 : decode cX4_next 15 = .ok (.aload_n 0, 1) := fq1_42 (fl_X4_next_0 (j := 15) rfl rfl)
theorem dX4_next_16 : decode cX4_next 16 = .ok (.getfield 47, 3) := fq3_180 (fl_X4_next_0 (j := 16) rfl rfl) (fl_X4_next_0 (j := 17) rfl rfl) (fl_X4_next_0 (j := 18) rfl rfl) rfl
theorem dX4_next_19 : decode cX4_next 19 = .ok (.baload, 1) := fq1_51 (fl_X4_next_0 (j := 19) rfl rfl)
theorem dX4_next_20 : decode cX4_next 20 = .ok (.bipush 10, 2) := fq2_16 (fl_X4_next_0 (j := 20) rfl rfl) (fl_X4_next_0 (j := 21) rfl rfl) (s1p rfl (bl rfl))
theorem dX4_next_22 : decode cX4_next 22 = .ok (.if_icmp .eq 17, 3) := fq3_159 (fl_X4_next_0 (j := 22) rfl rfl) (fl_X4_next_0 (j := 23) rfl rfl) (fl_X4_next_0 (j := 24) rfl rfl) (s2p rfl (bl rfl))
theorem dX4_next_25 : decode cX4_next 25 = .ok (.aload_n 0, 1) := fq1_42 (fl_X4_next_0 (j := 25) rfl rfl)
theorem dX4_next_26 : decode cX4_next 26 = .ok (.getfield 9, 3) := fq3_180 (fl_X4_next_0 (j := 26) rfl rfl) (fl_X4_next_0 (j := 27) rfl rfl) (fl_X4_next_0 (j := 28) rfl rfl) rfl
theorem dX4_next_29 : decode cX4_next 29 = .ok (.aload_n 0, 1) := fq1_42 (fl_X4_next_0 (j := 29) rfl rfl)
theorem dX4_next_30 : decode cX4_next 30 = .ok (.getfield 47, 3) := fq3_180 (fl_X4_next_0 (j := 30) rfl rfl) (fl_X4_next_0 (j := 31) rfl rfl) (fl_X4_next_0 (j := 32) rfl rfl) rfl
theorem dX4_next_33 : decode cX4_next 33 = .ok (.baload, 1) := fq1_51 (fl_X4_next_0 (j := 33) rfl rfl)
theorem dX4_next_34 : decode cX4_next 34 = .ok (.bipush 32, 2) := fq2_16 (fl_X4_next_0 (j := 34) rfl rfl) (fl_X4_next_0 (j := 35) rfl rfl) (s1p rfl (bl rfl))
theorem dX4_next_36 : decode cX4_next 36 = .ok (.if_icmp .ne 16, 3) := fq3_160 (fl_X4_next_0 (j := 36) rfl rfl) (fl_X4_next_0 (j := 37) rfl rfl) (fl_X4_next_0 (j := 38) rfl rfl) (s2p rfl (bl rfl))
theorem dX4_next_39 : decode cX4_next 39 = .ok (.aload_n 0, 1) := fq1_42 (fl_X4_next_0 (j := 39) rfl rfl)
theorem dX4_next_40 : decode cX4_next 40 = .ok (.dup, 1) := fq1_89 (fl_X4_next_0 (j := 40) rfl rfl)
theorem dX4_next_41 : decode cX4_next 41 = .ok (.getfield 47, 3) := fq3_180 (fl_X4_next_0 (j := 41) rfl rfl) (fl_X4_next_0 (j := 42) rfl rfl) (fl_X4_next_0 (j := 43) rfl rfl) rfl
theorem dX4_next_44 : decode cX4_next 44 = .ok (.iconst 1, 1) := fq1_4 (fl_X4_next_0 (j := 44) rfl rfl)
theorem dX4_next_45 : decode cX4_next 45 = .ok (.iadd, 1) := fq1_96 (fl_X4_next_0 (j := 45) rfl rfl)
theorem dX4_next_46 : decode cX4_next 46 = .ok (.putfield 47, 3) := fq3_181 (fl_X4_next_0 (j := 46) rfl rfl) (fl_X4_next_0 (j := 47) rfl rfl) (fl_X4_next_0 (j := 48) rfl rfl) rfl
theorem dX4_next_49 : decode cX4_next 49 = .ok (.goto (-49), 3) := fq3_167 (fl_X4_next_0 (j := 49) rfl rfl) (fl_X4_next_0 (j := 50) rfl rfl) (fl_X4_next_0 (j := 51) rfl rfl) (by decide)
theorem dX4_next_52 : decode cX4_next 52 = .ok (.aload_n 0, 1) := fq1_42 (fl_X4_next_0 (j := 52) rfl rfl)
theorem dX4_next_53 : decode cX4_next 53 = .ok (.aload_n 0, 1) := fq1_42 (fl_X4_next_0 (j := 53) rfl rfl)
theorem dX4_next_54 : decode cX4_next 54 = .ok (.getfield 47, 3) := fq3_180 (fl_X4_next_0 (j := 54) rfl rfl) (fl_X4_next_0 (j := 55) rfl rfl) (fl_X4_next_0 (j := 56) rfl rfl) rfl
theorem dX4_next_57 : decode cX4_next 57 = .ok (.putfield 53, 3) := fq3_181 (fl_X4_next_0 (j := 57) rfl rfl) (fl_X4_next_0 (j := 58) rfl rfl) (fl_X4_next_0 (j := 59) rfl rfl) rfl
theorem dX4_next_60 : decode cX4_next 60 = .ok (.aload_n 0, 1) := fq1_42 (fl_X4_next_0 (j := 60) rfl rfl)
theorem dX4_next_61 : decode cX4_next 61 = .ok (.iconst (-1), 1) := fq1_2 (fl_X4_next_0 (j := 61) rfl rfl)
def fb_X4_next_1 : List UInt8 := [0x38, 0x2a, 0x14, 0x00, 0x3b, 0xb5, 0x00, 0x3d, 0x2a, 0x02, 0xb5, 0x00, 0x41, 0x2a, 0xb4, 0x00, 0x2f, 0x2a, 0xb4, 0x00, 0x2d, 0xa1, 0x00, 0x0b, 0x2a, 0x03, 0xb5, 0x00, 0x44, 0xa7, 0x00, 0x4d, 0x2a, 0xb4, 0x00, 0x09, 0x2a, 0xb4, 0x00, 0x2f, 0x33, 0x10, 0x61, 0xa1, 0x00, 0x18, 0x2a, 0xb4, 0x00, 0x09, 0x2a, 0xb4, 0x00, 0x2f, 0x33, 0x10, 0x7a, 0xa3, 0x00, 0x0a, 0x2a, 0xb6, 0x00, 0x47]
theorem fl_X4_next_1 {p j : Nat} {b : UInt8} (e : p = 64 + j) (h : fb_X4_next_1[j]? = some b) : cX4_next.data.toList[p]? = some b := fq_l (n := 64) (show (cX4_next.data.toList.drop 64).take 64 = fb_X4_next_1 by decide +kernel) e h
theorem dX4_next_62 : decode cX4_next 62 = .ok (.putfield 56, 3) := fq3_181 (fl_X4_next_0 (j := 62) rfl rfl) (fl_X4_next_0 (j := 63) rfl rfl) (fl_X4_next_1 (j := 0) rfl rfl) rfl
theorem dX4_next_65 : decode cX4_next 65 = .ok (.aload_n 0, 1) := fq1_42 (fl_X4_next_1 (j := 1) rfl rfl)
theorem dX4_next_66 : decode cX4_next 66 = .ok (.ldc2_w 59, 3) := fq3_20 (fl_X4_next_1 (j := 2) rfl rfl) (fl_X4_next_1 (j := 3) rfl rfl) (fl_X4_next_1 (j := 4) rfl rfl) rfl
theorem dX4_next_69 : decode cX4_next 69 = .ok (.putfield 61, 3) := fq3_181 (fl_X4_next_1 (j := 5) rfl rfl) (fl_X4_next_1 (j := 6) rfl rfl) (fl_X4_next_1 (j := 7) rfl rfl) rfl
theorem dX4_next_72 : decode cX4_next 72 = .ok (.aload_n 0, 1) := fq1_42 (fl_X4_next_1 (j := 8) rfl rfl)
theorem dX4_next_73 : decode cX4_next 73 = .ok (.iconst (-1), 1) := fq1_2 (fl_X4_next_1 (j := 9) rfl rfl)
theorem dX4_next_74 : decode cX4_next 74 = .ok (.putfield 65, 3) := fq3_181 (fl_X4_next_1 (j := 10) rfl rfl) (fl_X4_next_1 (j := 11) rfl rfl) (fl_X4_next_1 (j := 12) rfl rfl) rfl
theorem dX4_next_77 : decode cX4_next 77 = .ok (.aload_n 0, 1) := fq1_42 (fl_X4_next_1 (j := 13) rfl rfl)
theorem dX4_next_78 : decode cX4_next 78 = .ok (.getfield 47, 3) := fq3_180 (fl_X4_next_1 (j := 14) rfl rfl) (fl_X4_next_1 (j := 15) rfl rfl) (fl_X4_next_1 (j := 16) rfl rfl) rfl
theorem dX4_next_81 : decode cX4_next 81 = .ok (.aload_n 0, 1) := fq1_42 (fl_X4_next_1 (j := 17) rfl rfl)
theorem dX4_next_82 : decode cX4_next 82 = .ok (.getfield 45, 3) := fq3_180 (fl_X4_next_1 (j := 18) rfl rfl) (fl_X4_next_1 (j := 19) rfl rfl) (fl_X4_next_1 (j := 20) rfl rfl) rfl
theorem dX4_next_85 : decode cX4_next 85 = .ok (.if_icmp .lt 11, 3) := fq3_161 (fl_X4_next_1 (j := 21) rfl rfl) (fl_X4_next_1 (j := 22) rfl rfl) (fl_X4_next_1 (j := 23) rfl rfl) (s2p rfl (bl rfl))
theorem dX4_next_88 : decode cX4_next 88 = .ok (.aload_n 0, 1) := fq1_42 (fl_X4_next_1 (j := 24) rfl rfl)
theorem dX4_next_89 : decode cX4_next 89 = .ok (.iconst 0, 1) := fq1_3 (fl_X4_next_1 (j := 25) rfl rfl)
theorem dX4_next_90 : decode cX4_next 90 = .ok (.putfield 68, 3) := fq3_181 (fl_X4_next_1 (j := 26) rfl rfl) (fl_X4_next_1 (j := 27) rfl rfl) (fl_X4_next_1 (j := 28) rfl rfl) rfl
theorem dX4_next_93 : decode cX4_next 93 = .ok (.goto 77, 3) := fq3_167 (fl_X4_next_1 (j := 29) rfl rfl) (fl_X4_next_1 (j := 30) rfl rfl) (fl_X4_next_1 (j := 31) rfl rfl) (s2p rfl (bl rfl))
theorem dX4_next_96 : decode cX4_next 96 = .ok (.aload_n 0, 1) := fq1_42 (fl_X4_next_1 (j := 32) rfl rfl)
theorem dX4_next_97 : decode cX4_next 97 = .ok (.getfield 9, 3) := fq3_180 (fl_X4_next_1 (j := 33) rfl rfl) (fl_X4_next_1 (j := 34) rfl rfl) (fl_X4_next_1 (j := 35) rfl rfl) rfl
theorem dX4_next_100 : decode cX4_next 100 = .ok (.aload_n 0, 1) := fq1_42 (fl_X4_next_1 (j := 36) rfl rfl)
theorem dX4_next_101 : decode cX4_next 101 = .ok (.getfield 47, 3) := fq3_180 (fl_X4_next_1 (j := 37) rfl rfl) (fl_X4_next_1 (j := 38) rfl rfl) (fl_X4_next_1 (j := 39) rfl rfl) rfl
theorem dX4_next_104 : decode cX4_next 104 = .ok (.baload, 1) := fq1_51 (fl_X4_next_1 (j := 40) rfl rfl)
theorem dX4_next_105 : decode cX4_next 105 = .ok (.bipush 97, 2) := fq2_16 (fl_X4_next_1 (j := 41) rfl rfl) (fl_X4_next_1 (j := 42) rfl rfl) (s1p rfl (bl rfl))
theorem dX4_next_107 : decode cX4_next 107 = .ok (.if_icmp .lt 24, 3) := fq3_161 (fl_X4_next_1 (j := 43) rfl rfl) (fl_X4_next_1 (j := 44) rfl rfl) (fl_X4_next_1 (j := 45) rfl rfl) (s2p rfl (bl rfl))
theorem dX4_next_110 : decode cX4_next 110 = .ok (.aload_n 0, 1) := fq1_42 (fl_X4_next_1 (j := 46) rfl rfl)
theorem dX4_next_111 : decode cX4_next 111 = .ok (.getfield 9, 3) := fq3_180 (fl_X4_next_1 (j := 47) rfl rfl) (fl_X4_next_1 (j := 48) rfl rfl) (fl_X4_next_1 (j := 49) rfl rfl) rfl
theorem dX4_next_114 : decode cX4_next 114 = .ok (.aload_n 0, 1) := fq1_42 (fl_X4_next_1 (j := 50) rfl rfl)
theorem dX4_next_115 : decode cX4_next 115 = .ok (.getfield 47, 3) := fq3_180 (fl_X4_next_1 (j := 51) rfl rfl) (fl_X4_next_1 (j := 52) rfl rfl) (fl_X4_next_1 (j := 53) rfl rfl) rfl
theorem dX4_next_118 : decode cX4_next 118 = .ok (.baload, 1) := fq1_51 (fl_X4_next_1 (j := 54) rfl rfl)
theorem dX4_next_119 : decode cX4_next 119 = .ok (.bipush 122, 2) := fq2_16 (fl_X4_next_1 (j := 55) rfl rfl) (fl_X4_next_1 (j := 56) rfl rfl) (s1p rfl (bl rfl))
theorem dX4_next_121 : decode cX4_next 121 = .ok (.if_icmp .gt 10, 3) := fq3_163 (fl_X4_next_1 (j := 57) rfl rfl) (fl_X4_next_1 (j := 58) rfl rfl) (fl_X4_next_1 (j := 59) rfl rfl) (s2p rfl (bl rfl))
theorem dX4_next_124 : decode cX4_next 124 = .ok (.aload_n 0, 1) := fq1_42 (fl_X4_next_1 (j := 60) rfl rfl)
theorem dX4_next_125 : decode cX4_next 125 = .ok (.invokevirtual 71, 3) := fq3_182 (fl_X4_next_1 (j := 61) rfl rfl) (fl_X4_next_1 (j := 62) rfl rfl) (fl_X4_next_1 (j := 63) rfl rfl) rfl
def fb_X4_next_2 : List UInt8 := [0xa7, 0x00, 0x2a, 0x2a, 0xb4, 0x00, 0x09, 0x2a, 0xb4, 0x00, 0x2f, 0x33, 0x10, 0x30, 0xa1, 0x00, 0x18, 0x2a, 0xb4, 0x00, 0x09, 0x2a, 0xb4, 0x00, 0x2f, 0x33, 0x10, 0x39, 0xa3, 0x00, 0x0a, 0x2a, 0xb6, 0x00, 0x4a, 0xa7, 0x00, 0x07, 0x2a, 0xb6, 0x00, 0x4d, 0xb1]
theorem fl_X4_next_2 {p j : Nat} {b : UInt8} (e : p = 128 + j) (h : fb_X4_next_2[j]? = some b) : cX4_next.data.toList[p]? = some b := fq_l (n := 64) (show (cX4_next.data.toList.drop 128).take 64 = fb_X4_next_2 by decide +kernel) e h
theorem dX4_next_128 : decode cX4_next 128 = .ok (.goto 42, 3) := fq3_167 (fl_X4_next_2 (j := 0) rfl rfl) (fl_X4_next_2 (j := 1) rfl rfl) (fl_X4_next_2 (j := 2) rfl rfl) (s2p rfl (bl rfl))
theorem dX4_next_131 : decode cX4_next 131 = .ok (.aload_n 0, 1) := fq1_42 (fl_X4_next_2 (j := 3) rfl rfl)
theorem dX4_next_132 : decode cX4_next 132 = .ok (.getfield 9, 3) := fq3_180 (fl_X4_next_2 (j := 4) rfl rfl) (fl_X4_next_2 (j := 5) rfl rfl) (fl_X4_next_2 (j := 6) rfl rfl) rfl
theorem dX4_next_135 : decode cX4_next 135 = .ok (.aload_n 0, 1) := fq1_42 (fl_X4_next_2 (j := 7) rfl rfl)
theorem dX4_next_136 : decode cX4_next 136 = .ok (.getfield 47, 3) := fq3_180 (fl_X4_next_2 (j := 8) rfl rfl) (fl_X4_next_2 (j := 9) rfl rfl) (fl_X4_next_2 (j := 10) rfl rfl) rfl
theorem dX4_next_139 : decode cX4_next 139 = .ok (.baload, 1) := fq1_51 (fl_X4_next_2 (j := 11) rfl rfl)
theorem dX4_next_140 : decode cX4_next 140 = .ok (.bipush 48, 2) := fq2_16 (fl_X4_next_2 (j := 12) rfl rfl) (fl_X4_next_2 (j := 13) rfl rfl) (s1p rfl (bl rfl))
theorem dX4_next_142 : decode cX4_next 142 = .ok (.if_icmp .lt 24, 3) := fq3_161 (fl_X4_next_2 (j := 14) rfl rfl) (fl_X4_next_2 (j := 15) rfl rfl) (fl_X4_next_2 (j := 16) rfl rfl) (s2p rfl (bl rfl))
theorem dX4_next_145 : decode cX4_next 145 = .ok (.aload_n 0, 1) := fq1_42 (fl_X4_next_2 (j := 17) rfl rfl)
theorem dX4_next_146 : decode cX4_next 146 = .ok (.getfield 9, 3) := fq3_180 (fl_X4_next_2 (j := 18) rfl rfl) (fl_X4_next_2 (j := 19) rfl rfl) (fl_X4_next_2 (j := 20) rfl rfl) rfl
theorem dX4_next_149 : decode cX4_next 149 = .ok (.aload_n 0, 1) := fq1_42 (fl_X4_next_2 (j := 21) rfl rfl)
theorem dX4_next_150 : decode cX4_next 150 = .ok (.getfield 47, 3) := fq3_180 (fl_X4_next_2 (j := 22) rfl rfl) (fl_X4_next_2 (j := 23) rfl rfl) (fl_X4_next_2 (j := 24) rfl rfl) rfl
theorem dX4_next_153 : decode cX4_next 153 = .ok (.baload, 1) := fq1_51 (fl_X4_next_2 (j := 25) rfl rfl)
theorem dX4_next_154 : decode cX4_next 154 = .ok (.bipush 57, 2) := fq2_16 (fl_X4_next_2 (j := 26) rfl rfl) (fl_X4_next_2 (j := 27) rfl rfl) (s1p rfl (bl rfl))
theorem dX4_next_156 : decode cX4_next 156 = .ok (.if_icmp .gt 10, 3) := fq3_163 (fl_X4_next_2 (j := 28) rfl rfl) (fl_X4_next_2 (j := 29) rfl rfl) (fl_X4_next_2 (j := 30) rfl rfl) (s2p rfl (bl rfl))
theorem dX4_next_159 : decode cX4_next 159 = .ok (.aload_n 0, 1) := fq1_42 (fl_X4_next_2 (j := 31) rfl rfl)
theorem dX4_next_160 : decode cX4_next 160 = .ok (.invokevirtual 74, 3) := fq3_182 (fl_X4_next_2 (j := 32) rfl rfl) (fl_X4_next_2 (j := 33) rfl rfl) (fl_X4_next_2 (j := 34) rfl rfl) rfl
theorem dX4_next_163 : decode cX4_next 163 = .ok (.goto 7, 3) := fq3_167 (fl_X4_next_2 (j := 35) rfl rfl) (fl_X4_next_2 (j := 36) rfl rfl) (fl_X4_next_2 (j := 37) rfl rfl) (s2p rfl (bl rfl))
theorem dX4_next_166 : decode cX4_next 166 = .ok (.aload_n 0, 1) := fq1_42 (fl_X4_next_2 (j := 38) rfl rfl)
theorem dX4_next_167 : decode cX4_next 167 = .ok (.invokevirtual 77, 3) := fq3_182 (fl_X4_next_2 (j := 39) rfl rfl) (fl_X4_next_2 (j := 40) rfl rfl) (fl_X4_next_2 (j := 41) rfl rfl) rfl
theorem dX4_next_170 : decode cX4_next 170 = .ok (.return_, 1) := fq1_177 (fl_X4_next_2 (j := 42) rfl rfl)
def fb_X4_readNumber_0 : List UInt8 := [0x03, 0x3c, 0x2a, 0xb4, 0x00, 0x2f, 0x2a, 0xb4, 0x00, 0x2d, 0xa2, 0x00, 0x4f, 0x2a, 0xb4, 0x00, 0x09, 0x2a, 0xb4, 0x00, 0x2f, 0x33, 0x10, 0x30, 0xa1, 0x00, 0x41, 0x2a, 0xb4, 0x00, 0x09, 0x2a, 0xb4, 0x00, 0x2f, 0x33, 0x10, 0x39, 0xa3, 0x00, 0x33, 0x2a, 0xb4, 0x00, 0x2f, 0x2a, 0xb4, 0x00, 0x35, 0x64, 0x07, 0xa2, 0x00, 0x17, 0x1b, 0x10, 0x0a, 0x68, 0x2a, 0xb4, 0x00, 0x09, 0x2a, 0xb4]
theorem fl_X4_readNumber_0 {p j : Nat} {b : UInt8} (e : p = 0 + j) (h : fb_X4_readNumber_0[j]? = some b) : cX4_readNumber.data.toList[p]? = some b := fq_l (n := 64) (show (cX4_readNumber.data.toList.drop 0).take 64 = fb_X4_readNumber_0 by decide +kernel) e h
theorem dX4_readNumber_0 : decode cX4_readNumber 0 = .ok (.iconst 0, 1) := fq1_3 (fl_X4_readNumber_0 (j := 0) rfl rfl)
theorem dX4_readNumber_1 : decode cX4_readNumber 1 = .ok (.istore_n 1, 1) := fq1_60 (fl_X4_readNumber_0 (j := 1) rfl rfl)
theorem dX4_readNumber_2 : decode cX4_readNumber 2 = .ok (.aload_n 0, 1) := fq1_42 (fl_X4_readNumber_0 (j := 2) rfl rfl)
theorem dX4_readNumber_3 : decode cX4_readNumber 3 = .ok (.getfield 47, 3) := fq3_180 (fl_X4_readNumber_0 (j := 3) rfl rfl) (fl_X4_readNumber_0 (j := 4) rfl rfl) (fl_X4_readNumber_0 (j := 5) rfl rfl) rfl
theorem dX4_readNumber_6 : decode cX4_readNumber 6 = .ok (.aload_n 0, 1) := fq1_42 (fl_X4_readNumber_0 (j := 6) rfl rfl)
theorem dX4_readNumber_7 : decode cX4_readNumber 7 = .ok (.getfield 45, 3) := fq3_180 (fl_X4_readNumber_0 (j := 7) rfl rfl) (fl_X4_readNumber_0 (j := 8) rfl rfl) (fl_X4_readNumber_0 (j := 9) rfl rfl) rfl
theorem dX4_readNumber_10 : decode cX4_readNumber 10 = .ok (.if_icmp .ge 79, 3) := fq3_162 (fl_X4_readNumber_0 (j := 10) rfl rfl) (fl_X4_readNumber_0 (j := 11) rfl rfl) (fl_X4_readNumber_0 (j := 12) rfl rfl) (s2p rfl (bl rfl))
theorem dX4_readNumber_13 : decode cX4_readNumber 13 = .ok (.aload_n 0, 1) := fq1_42 (fl_X4_readNumber_0 (j := 13) rfl rfl)
theorem dX4_readNumber_14 : decode cX4_readNumber 14 = .ok (.getfield 9, 3) := fq3_180 (fl_X4_readNumber_0 (j := 14) rfl rfl) (fl_X4_readNumber_0 (j := 15) rfl rfl) (fl_X4_readNumber_0 (j := 16) rfl rfl) rfl
theorem dX4_readNumber_17 : decode cX4_readNumber 17 = .ok (.aload_n 0, 1) := fq1_42 (fl_X4_readNumber_0 (j := 17) rfl rfl)
theorem dX4_readNumber_18 : decode cX4_readNumber 18 = .ok (.getfield 47, 3) := fq3_180 (fl_X4_readNumber_0 (j := 18) rfl rfl) (fl_X4_readNumber_0 (j := 19) rfl rfl) (fl_X4_readNumber_0 (j := 20) rfl rfl) rfl
theorem dX4_readNumber_21 : decode cX4_readNumber 21 = .ok (.baload, 1) := fq1_51 (fl_X4_readNumber_0 (j := 21) rfl rfl)
theorem dX4_readNumber_22 : decode cX4_readNumber 22 = .ok (.bipush 48, 2) := fq2_16 (fl_X4_readNumber_0 (j := 22) rfl rfl) (fl_X4_readNumber_0 (j := 23) rfl rfl) (s1p rfl (bl rfl))
theorem dX4_readNumber_24 : decode cX4_readNumber 24 = .ok (.if_icmp .lt 65, 3) := fq3_161 (fl_X4_readNumber_0 (j := 24) rfl rfl) (fl_X4_readNumber_0 (j := 25) rfl rfl) (fl_X4_readNumber_0 (j := 26) rfl rfl) (s2p rfl (bl rfl))
theorem dX4_readNumber_27 : decode cX4_readNumber 27 = .ok (.aload_n 0, 1) := fq1_42 (fl_X4_readNumber_0 (j := 27) rfl rfl)
theorem dX4_readNumber_28 : decode cX4_readNumber 28 = .ok (.getfield 9, 3) := fq3_180 (fl_X4_readNumber_0 (j := 28) rfl rfl) (fl_X4_readNumber_0 (j := 29) rfl rfl) (fl_X4_readNumber_0 (j := 30) rfl rfl) rfl
theorem dX4_readNumber_31 : decode cX4_readNumber 31 = .ok (.aload_n 0, 1) := fq1_42 (fl_X4_readNumber_0 (j := 31) rfl rfl)
theorem dX4_readNumber_32 : decode cX4_readNumber 32 = .ok (.getfield 47, 3) := fq3_180 (fl_X4_readNumber_0 (j := 32) rfl rfl) (fl_X4_readNumber_0 (j := 33) rfl rfl) (fl_X4_readNumber_0 (j := 34) rfl rfl) rfl
theorem dX4_readNumber_35 : decode cX4_readNumber 35 = .ok (.baload, 1) := fq1_51 (fl_X4_readNumber_0 (j := 35) rfl rfl)
theorem dX4_readNumber_36 : decode cX4_readNumber 36 = .ok (.bipush 57, 2) := fq2_16 (fl_X4_readNumber_0 (j := 36) rfl rfl) (fl_X4_readNumber_0 (j := 37) rfl rfl) (s1p rfl (bl rfl))
theorem dX4_readNumber_38 : decode cX4_readNumber 38 = .ok (.if_icmp .gt 51, 3) := fq3_163 (fl_X4_readNumber_0 (j := 38) rfl rfl) (fl_X4_readNumber_0 (j := 39) rfl rfl) (fl_X4_readNumber_0 (j := 40) rfl rfl) (s2p rfl (bl rfl))
theorem dX4_readNumber_41 : decode cX4_readNumber 41 = .ok (.aload_n 0, 1) := fq1_42 (fl_X4_readNumber_0 (j := 41) rfl rfl)
theorem dX4_readNumber_42 : decode cX4_readNumber 42 = .ok (.getfield 47, 3) := fq3_180 (fl_X4_readNumber_0 (j := 42) rfl rfl) (fl_X4_readNumber_0 (j := 43) rfl rfl) (fl_X4_readNumber_0 (j := 44) rfl rfl) rfl
theorem dX4_readNumber_45 : decode cX4_readNumber 45 = .ok (.aload_n 0, 1) := fq1_42 (fl_X4_readNumber_0 (j := 45) rfl rfl)
theorem dX4_readNumber_46 : decode cX4_readNumber 46 = .ok (.getfield 53, 3) := fq3_180 (fl_X4_readNumber_0 (j := 46) rfl rfl) (fl_X4_readNumber_0 (j := 47) rfl rfl) (fl_X4_readNumber_0 (j := 48) rfl rfl) rfl
theorem dX4_readNumber_49 : decode cX4_readNumber 49 = .ok (.isub, 1) := fq1_100 (fl_X4_readNumber_0 (j := 49) rfl rfl)
theorem dX4_readNumber_50 : decode cX4_readNumber 50 = .ok (.iconst 4, 1) := fq1_7 (fl_X4_readNumber_0 (j := 50) rfl rfl)
theorem dX4_readNumber_51 : decode cX4_readNumber 51 = .ok (.if_icmp .ge 23, 3) := fq3_162 (fl_X4_readNumber_0 (j := 51) rfl rfl) (fl_X4_readNumber_0 (j := 52) rfl rfl) (fl_X4_readNumber_0 (j := 53) rfl rfl) (s2p rfl (bl rfl))
theorem dX4_readNumber_54 : decode cX4_readNumber 54 = .ok (.iload_n 1, 1) := fq1_27 (fl_X4_readNumber_0 (j := 54) rfl rfl)
theorem dX4_readNumber_55 : decode cX4_readNumber 55 = .ok (.bipush 10, 2) := fq2_16 (fl_X4_readNumber_0 (j := 55) rfl rfl) (fl_X4_readNumber_0 (j := 56) rfl rfl) (s1p rfl (bl rfl))
theorem dX4_readNumber_57 : decode cX4_readNumber 57 = .ok (.imul, 1) := fq1_104 (fl_X4_readNumber_0 (j := 57) rfl rfl)
theorem dX4_readNumber_58 : decode cX4_readNumber 58 = .ok (.aload_n 0, 1) := fq1_42 (fl_X4_readNumber_0 (j := 58) rfl rfl)
theorem dX4_readNumber_59 : decode cX4_readNumber 59 = .ok (.getfield 9, 3) := fq3_180 (fl_X4_readNumber_0 (j := 59) rfl rfl) (fl_X4_readNumber_0 (j := 60) rfl rfl) (fl_X4_readNumber_0 (j := 61) rfl rfl) rfl
theorem dX4_readNumber_62 : decode cX4_readNumber 62 = .ok (.aload_n 0, 1) := fq1_42 (fl_X4_readNumber_0 (j := 62) rfl rfl)
def fb_X4_readNumber_1 : List UInt8 := [0x00, 0x2f, 0x33, 0x60, 0x10, 0x30, 0x64, 0xa7, 0x00, 0x04, 0x1b, 0x3c, 0x2a, 0x59, 0xb4, 0x00, 0x2f, 0x04, 0x60, 0xb5, 0x00, 0x2f, 0xa7, 0xff, 0xac, 0x2a, 0x2a, 0xb4, 0x00, 0x2f, 0x2a, 0xb4, 0x00, 0x35, 0x64, 0x07, 0xa4, 0x00, 0x07, 0x07, 0xa7, 0x00, 0x04, 0x05, 0xb5, 0x00, 0x44, 0x2a, 0x1b, 0xb5, 0x00, 0x41, 0xb1]
theorem fl_X4_readNumber_1 {p j : Nat} {b : UInt8} (e : p = 64 + j) (h : fb_X4_readNumber_1[j]? = some b) : cX4_readNumber.data.toList[p]? = some b := fq_l (n := 64) (show (cX4_readNumber.data.toList.drop 64).take 64 = fb_X4_readNumber_1 by decide +kernel) e h
theorem dX4_readNumber_63 : decode cX4_readNumber 63 = .ok (.getfield 47, 3) := fq3_180 (fl_X4_readNumber_0 (j := 63) rfl rfl) (fl_X4_readNumber_1 (j := 0) rfl rfl) (fl_X4_readNumber_1 (j := 1) rfl rfl) rfl
theorem dX4_readNumber_66 : decode cX4_readNumber 66 = .ok (.baload, 1) := fq1_51 (fl_X4_readNumber_1 (j := 2) rfl rfl)
theorem dX4_readNumber_67 : decode cX4_readNumber 67 = .ok (.iadd, 1) := fq1_96 (fl_X4_readNumber_1 (j := 3) rfl rfl)
theorem dX4_readNumber_68 : decode cX4_readNumber 68 = .ok (.bipush 48, 2) := fq2_16 (fl_X4_readNumber_1 (j := 4) rfl rfl) (fl_X4_readNumber_1 (j := 5) rfl rfl) (s1p rfl (bl rfl))
theorem dX4_readNumber_70 : decode cX4_readNumber 70 = .ok (.isub, 1) := fq1_100 (fl_X4_readNumber_1 (j := 6) rfl rfl)
theorem dX4_readNumber_71 : decode cX4_readNumber 71 = .ok (.goto 4, 3) := fq3_167 (fl_X4_readNumber_1 (j := 7) rfl rfl) (fl_X4_readNumber_1 (j := 8) rfl rfl) (fl_X4_readNumber_1 (j := 9) rfl rfl) (s2p rfl (bl rfl))
theorem dX4_readNumber_74 : decode cX4_readNumber 74 = .ok (.iload_n 1, 1) := fq1_27 (fl_X4_readNumber_1 (j := 10) rfl rfl)
theorem dX4_readNumber_75 : decode cX4_readNumber 75 = .ok (.istore_n 1, 1) := fq1_60 (fl_X4_readNumber_1 (j := 11) rfl rfl)
theorem dX4_readNumber_76 : decode cX4_readNumber 76 = .ok (.aload_n 0, 1) := fq1_42 (fl_X4_readNumber_1 (j := 12) rfl rfl)
theorem dX4_readNumber_77 : decode cX4_readNumber 77 = .ok (.dup, 1) := fq1_89 (fl_X4_readNumber_1 (j := 13) rfl rfl)
theorem dX4_readNumber_78 : decode cX4_readNumber 78 = .ok (.getfield 47, 3) := fq3_180 (fl_X4_readNumber_1 (j := 14) rfl rfl) (fl_X4_readNumber_1 (j := 15) rfl rfl) (fl_X4_readNumber_1 (j := 16) rfl rfl) rfl
theorem dX4_readNumber_81 : decode cX4_readNumber 81 = .ok (.iconst 1, 1) := fq1_4 (fl_X4_readNumber_1 (j := 17) rfl rfl)
theorem dX4_readNumber_82 : decode cX4_readNumber 82 = .ok (.iadd, 1) := fq1_96 (fl_X4_readNumber_1 (j := 18) rfl rfl)
theorem dX4_readNumber_83 : decode cX4_readNumber 83 = .ok (.putfield 47, 3) := fq3_181 (fl_X4_readNumber_1 (j := 19) rfl rfl) (fl_X4_readNumber_1 (j := 20) rfl rfl) (fl_X4_readNumber_1 (j := 21) rfl rfl) rfl
theorem dX4_readNumber_86 : decode cX4_readNumber 86 = .ok (.goto (-84), 3) := fq3_167 (fl_X4_readNumber_1 (j := 22) rfl rfl) (fl_X4_readNumber_1 (j := 23) rfl rfl) (fl_X4_readNumber_1 (j := 24) rfl rfl) (by decide)
theorem dX4_readNumber_89 : decode cX4_readNumber 89 = .ok (.aload_n 0, 1) := fq1_42 (fl_X4_readNumber_1 (j := 25) rfl rfl)
theorem dX4_readNumber_90 : decode cX4_readNumber 90 = .ok (.aload_n 0, 1) := fq1_42 (fl_X4_readNumber_1 (j := 26) rfl rfl)
theorem dX4_readNumber_91 : decode cX4_readNumber 91 = .ok (.getfield 47, 3) := fq3_180 (fl_X4_readNumber_1 (j := 27) rfl rfl) (fl_X4_readNumber_1 (j := 28) rfl rfl) (fl_X4_readNumber_1 (j := 29) rfl rfl) rfl
theorem dX4_readNumber_94 : decode cX4_readNumber 94 = .ok (.aload_n 0, 1) := fq1_42 (fl_X4_readNumber_1 (j := 30) rfl rfl)
theorem dX4_readNumber_95 : decode cX4_readNumber 95 = .ok (.getfield 53, 3) := fq3_180 (fl_X4_readNumber_1 (j := 31) rfl rfl) (fl_X4_readNumber_1 (j := 32) rfl rfl) (fl_X4_readNumber_1 (j := 33) rfl rfl) rfl
theorem dX4_readNumber_98 : decode cX4_readNumber 98 = .ok (.isub, 1) := fq1_100 (fl_X4_readNumber_1 (j := 34) rfl rfl)
theorem dX4_readNumber_99 : decode cX4_readNumber 99 = .ok (.iconst 4, 1) := fq1_7 (fl_X4_readNumber_1 (j := 35) rfl rfl)
theorem dX4_readNumber_100 : decode cX4_readNumber 100 = .ok (.if_icmp .le 7, 3) := fq3_164 (fl_X4_readNumber_1 (j := 36) rfl rfl) (fl_X4_readNumber_1 (j := 37) rfl rfl) (fl_X4_readNumber_1 (j := 38) rfl rfl) (s2p rfl (bl rfl))
theorem dX4_readNumber_103 : decode cX4_readNumber 103 = .ok (.iconst 4, 1) := fq1_7 (fl_X4_readNumber_1 (j := 39) rfl rfl)
theorem dX4_readNumber_104 : decode cX4_readNumber 104 = .ok (.goto 4, 3) := fq3_167 (fl_X4_readNumber_1 (j := 40) rfl rfl) (fl_X4_readNumber_1 (j := 41) rfl rfl) (fl_X4_readNumber_1 (j := 42) rfl rfl) (s2p rfl (bl rfl))
theorem dX4_readNumber_107 : decode cX4_readNumber 107 = .ok (.iconst 2, 1) := fq1_5 (fl_X4_readNumber_1 (j := 43) rfl rfl)
theorem dX4_readNumber_108 : decode cX4_readNumber 108 = .ok (.putfield 68, 3) := fq3_181 (fl_X4_readNumber_1 (j := 44) rfl rfl) (fl_X4_readNumber_1 (j := 45) rfl rfl) (fl_X4_readNumber_1 (j := 46) rfl rfl) rfl
theorem dX4_readNumber_111 : decode cX4_readNumber 111 = .ok (.aload_n 0, 1) := fq1_42 (fl_X4_readNumber_1 (j := 47) rfl rfl)
theorem dX4_readNumber_112 : decode cX4_readNumber 112 = .ok (.iload_n 1, 1) := fq1_27 (fl_X4_readNumber_1 (j := 48) rfl rfl)
theorem dX4_readNumber_113 : decode cX4_readNumber 113 = .ok (.putfield 65, 3) := fq3_181 (fl_X4_readNumber_1 (j := 49) rfl rfl) (fl_X4_readNumber_1 (j := 50) rfl rfl) (fl_X4_readNumber_1 (j := 51) rfl rfl) rfl
theorem dX4_readNumber_116 : decode cX4_readNumber 116 = .ok (.return_, 1) := fq1_177 (fl_X4_readNumber_1 (j := 52) rfl rfl)
def fb_X4_readSign_0 : List UInt8 := [0x2a, 0xb4, 0x00, 0x09, 0x2a, 0xb4, 0x00, 0x2f, 0x33, 0x3c, 0x2a, 0x1b, 0x10, 0x3b, 0x9f, 0x00, 0x15, 0x1b, 0x10, 0x3c, 0x9f, 0x00, 0x0f, 0x1b, 0x10, 0x3e, 0x9f, 0x00, 0x09, 0x1b, 0x10, 0x3d, 0xa0, 0x00, 0x07, 0x06, 0xa7, 0x00, 0x04, 0x07, 0xb5, 0x00, 0x44, 0x2a, 0x1b, 0xb5, 0x00, 0x41, 0x2a, 0x59, 0xb4, 0x00, 0x2f, 0x04, 0x60, 0xb5, 0x00, 0x2f, 0xb1]
theorem fl_X4_readSign_0 {p j : Nat} {b : UInt8} (e : p = 0 + j) (h : fb_X4_readSign_0[j]? = some b) : cX4_readSign.data.toList[p]? = some b := fq_l (n := 64) (show (cX4_readSign.data.toList.drop 0).take 64 = fb_X4_readSign_0 by decide +kernel) e h
theorem dX4_readSign_0 : decode cX4_readSign 0 = .ok (.aload_n 0, 1) := fq1_42 (fl_X4_readSign_0 (j := 0) rfl rfl)
theorem dX4_readSign_1 : decode cX4_readSign 1 = .ok (.getfield 9, 3) := fq3_180 (fl_X4_readSign_0 (j := 1) rfl rfl) (fl_X4_readSign_0 (j := 2) rfl rfl) (fl_X4_readSign_0 (j := 3) rfl rfl) rfl
theorem dX4_readSign_4 : decode cX4_readSign 4 = .ok (.aload_n 0, 1) := fq1_42 (fl_X4_readSign_0 (j := 4) rfl rfl)
theorem dX4_readSign_5 : decode cX4_readSign 5 = .ok (.getfield 47, 3) := fq3_180 (fl_X4_readSign_0 (j := 5) rfl rfl) (fl_X4_readSign_0 (j := 6) rfl rfl) (fl_X4_readSign_0 (j := 7) rfl rfl) rfl
theorem dX4_readSign_8 : decode cX4_readSign 8 = .ok (.baload, 1) := fq1_51 (fl_X4_readSign_0 (j := 8) rfl rfl)
theorem dX4_readSign_9 : decode cX4_readSign 9 = .ok (.istore_n 1, 1) := fq1_60 (fl_X4_readSign_0 (j := 9) rfl rfl)
theorem dX4_readSign_10 : decode cX4_readSign 10 = .ok (.aload_n 0, 1) := fq1_42 (fl_X4_readSign_0 (j := 10) rfl rfl)
theorem dX4_readSign_11 : decode cX4_readSign 11 = .ok (.iload_n 1, 1) := fq1_27 (fl_X4_readSign_0 (j := 11) rfl rfl)
theorem dX4_readSign_12 : decode cX4_readSign 12 = .ok (.bipush 59, 2) := fq2_16 (fl_X4_readSign_0 (j := 12) rfl rfl) (fl_X4_readSign_0 (j := 13) rfl rfl) (s1p rfl (bl rfl))
theorem dX4_readSign_14 : decode cX4_readSign 14 = .ok (.if_icmp .eq 21, 3) := fq3_159 (fl_X4_readSign_0 (j := 14) rfl rfl) (fl_X4_readSign_0 (j := 15) rfl rfl) (fl_X4_readSign_0 (j := 16) rfl rfl) (s2p rfl (bl rfl))
theorem dX4_readSign_17 : decode cX4_readSign 17 = .ok (.iload_n 1, 1) := fq1_27 (fl_X4_readSign_0 (j := 17) rfl rfl)
theorem dX4_readSign_18 : decode cX4_readSign 18 = .ok (.bipush 60, 2) := fq2_16 (fl_X4_readSign_0 (j := 18) rfl rfl) (fl_X4_readSign_0 (j := 19) rfl rfl) (s1p rfl (bl rfl))
theorem dX4_readSign_20 : decode cX4_readSign 20 = .ok (.if_icmp .eq 15, 3) := fq3_159 (fl_X4_readSign_0 (j := 20) rfl rfl) (fl_X4_readSign_0 (j := 21) rfl rfl) (fl_X4_readSign_0 (j := 22) rfl rfl) (s2p rfl (bl rfl))
theorem dX4_readSign_23 : decode cX4_readSign 23 = .ok (.iload_n 1, 1) := fq1_27 (fl_X4_readSign_0 (j := 23) rfl rfl)
theorem dX4_readSign_24 : decode cX4_readSign 24 = .ok (.bipush 62, 2) := fq2_16 (fl_X4_readSign_0 (j := 24) rfl rfl) (fl_X4_readSign_0 (j := 25) rfl rfl) (s1p rfl (bl rfl))
theorem dX4_readSign_26 : decode cX4_readSign 26 = .ok (.if_icmp .eq 9, 3) := fq3_159 (fl_X4_readSign_0 (j := 26) rfl rfl) (fl_X4_readSign_0 (j := 27) rfl rfl) (fl_X4_readSign_0 (j := 28) rfl rfl) (s2p rfl (bl rfl))
theorem dX4_readSign_29 : decode cX4_readSign 29 = .ok (.iload_n 1, 1) := fq1_27 (fl_X4_readSign_0 (j := 29) rfl rfl)
theorem dX4_readSign_30 : decode cX4_readSign 30 = .ok (.bipush 61, 2) := fq2_16 (fl_X4_readSign_0 (j := 30) rfl rfl) (fl_X4_readSign_0 (j := 31) rfl rfl) (s1p rfl (bl rfl))
theorem dX4_readSign_32 : decode cX4_readSign 32 = .ok (.if_icmp .ne 7, 3) := fq3_160 (fl_X4_readSign_0 (j := 32) rfl rfl) (fl_X4_readSign_0 (j := 33) rfl rfl) (fl_X4_readSign_0 (j := 34) rfl rfl) (s2p rfl (bl rfl))
theorem dX4_readSign_35 : decode cX4_readSign 35 = .ok (.iconst 3, 1) := fq1_6 (fl_X4_readSign_0 (j := 35) rfl rfl)
theorem dX4_readSign_36 : decode cX4_readSign 36 = .ok (.goto 4, 3) := fq3_167 (fl_X4_readSign_0 (j := 36) rfl rfl) (fl_X4_readSign_0 (j := 37) rfl rfl) (fl_X4_readSign_0 (j := 38) rfl rfl) (s2p rfl (bl rfl))
theorem dX4_readSign_39 : decode cX4_readSign 39 = .ok (.iconst 4, 1) := fq1_7 (fl_X4_readSign_0 (j := 39) rfl rfl)
theorem dX4_readSign_40 : decode cX4_readSign 40 = .ok (.putfield 68, 3) := fq3_181 (fl_X4_readSign_0 (j := 40) rfl rfl) (fl_X4_readSign_0 (j := 41) rfl rfl) (fl_X4_readSign_0 (j := 42) rfl rfl) rfl
theorem dX4_readSign_43 : decode cX4_readSign 43 = .ok (.aload_n 0, 1) := fq1_42 (fl_X4_readSign_0 (j := 43) rfl rfl)
theorem dX4_readSign_44 : decode cX4_readSign 44 = .ok (.iload_n 1, 1) := fq1_27 (fl_X4_readSign_0 (j := 44) rfl rfl)
theorem dX4_readSign_45 : decode cX4_readSign 45 = .ok (.putfield 65, 3) := fq3_181 (fl_X4_readSign_0 (j := 45) rfl rfl) (fl_X4_readSign_0 (j := 46) rfl rfl) (fl_X4_readSign_0 (j := 47) rfl rfl) rfl
theorem dX4_readSign_48 : decode cX4_readSign 48 = .ok (.aload_n 0, 1) := fq1_42 (fl_X4_readSign_0 (j := 48) rfl rfl)
theorem dX4_readSign_49 : decode cX4_readSign 49 = .ok (.dup, 1) := fq1_89 (fl_X4_readSign_0 (j := 49) rfl rfl)
theorem dX4_readSign_50 : decode cX4_readSign 50 = .ok (.getfield 47, 3) := fq3_180 (fl_X4_readSign_0 (j := 50) rfl rfl) (fl_X4_readSign_0 (j := 51) rfl rfl) (fl_X4_readSign_0 (j := 52) rfl rfl) rfl
theorem dX4_readSign_53 : decode cX4_readSign 53 = .ok (.iconst 1, 1) := fq1_4 (fl_X4_readSign_0 (j := 53) rfl rfl)
theorem dX4_readSign_54 : decode cX4_readSign 54 = .ok (.iadd, 1) := fq1_96 (fl_X4_readSign_0 (j := 54) rfl rfl)
theorem dX4_readSign_55 : decode cX4_readSign 55 = .ok (.putfield 47, 3) := fq3_181 (fl_X4_readSign_0 (j := 55) rfl rfl) (fl_X4_readSign_0 (j := 56) rfl rfl) (fl_X4_readSign_0 (j := 57) rfl rfl) rfl
theorem dX4_readSign_58 : decode cX4_readSign 58 = .ok (.return_, 1) := fq1_177 (fl_X4_readSign_0 (j := 58) rfl rfl)
def fb_X4_readWord_0 : List UInt8 := [0x2a, 0x04, 0xb5, 0x00, 0x44, 0x09, 0x40, 0x2a, 0xb4, 0x00, 0x2f, 0x2a, 0xb4, 0x00, 0x2d, 0xa2, 0x00, 0x57, 0x2a, 0xb4, 0x00, 0x09, 0x2a, 0xb4, 0x00, 0x2f, 0x33, 0x10, 0x61, 0xa1, 0x00, 0x49, 0x2a, 0xb4, 0x00, 0x09, 0x2a, 0xb4, 0x00, 0x2f, 0x33, 0x10, 0x7a, 0xa3, 0x00, 0x3b, 0x2a, 0xb4, 0x00, 0x2f, 0x2a, 0xb4, 0x00, 0x35, 0x64, 0x10, 0x08, 0xa2, 0x00, 0x1c, 0x1f, 0x14, 0x00, 0x26]
theorem fl_X4_readWord_0 {p j : Nat} {b : UInt8} (e : p = 0 + j) (h : fb_X4_readWord_0[j]? = some b) : cX4_readWord.data.toList[p]? = some b := fq_l (n := 64) (show (cX4_readWord.data.toList.drop 0).take 64 = fb_X4_readWord_0 by decide +kernel) e h
theorem dX4_readWord_0 : decode cX4_readWord 0 = .ok (.aload_n 0, 1) := fq1_42 (fl_X4_readWord_0 (j := 0) rfl rfl)
theorem dX4_readWord_1 : decode cX4_readWord 1 = .ok (.iconst 1, 1) := fq1_4 (fl_X4_readWord_0 (j := 1) rfl rfl)
theorem dX4_readWord_2 : decode cX4_readWord 2 = .ok (.putfield 68, 3) := fq3_181 (fl_X4_readWord_0 (j := 2) rfl rfl) (fl_X4_readWord_0 (j := 3) rfl rfl) (fl_X4_readWord_0 (j := 4) rfl rfl) rfl
theorem dX4_readWord_5 : decode cX4_readWord 5 = .ok (.lconst 0, 1) := fq1_9 (fl_X4_readWord_0 (j := 5) rfl rfl)
theorem dX4_readWord_6 : decode cX4_readWord 6 = .ok (.lstore_n 1, 1) := fq1_64 (fl_X4_readWord_0 (j := 6) rfl rfl)
theorem dX4_readWord_7 : decode cX4_readWord 7 = .ok (.aload_n 0, 1) := fq1_42 (fl_X4_readWord_0 (j := 7) rfl rfl)
theorem dX4_readWord_8 : decode cX4_readWord 8 = .ok (.getfield 47, 3) := fq3_180 (fl_X4_readWord_0 (j := 8) rfl rfl) (fl_X4_readWord_0 (j := 9) rfl rfl) (fl_X4_readWord_0 (j := 10) rfl rfl) rfl
theorem dX4_readWord_11 : decode cX4_readWord 11 = .ok (.aload_n 0, 1) := fq1_42 (fl_X4_readWord_0 (j := 11) rfl rfl)
theorem dX4_readWord_12 : decode cX4_readWord 12 = .ok (.getfield 45, 3) := fq3_180 (fl_X4_readWord_0 (j := 12) rfl rfl) (fl_X4_readWord_0 (j := 13) rfl rfl) (fl_X4_readWord_0 (j := 14) rfl rfl) rfl
theorem dX4_readWord_15 : decode cX4_readWord 15 = .ok (.if_icmp .ge 87, 3) := fq3_162 (fl_X4_readWord_0 (j := 15) rfl rfl) (fl_X4_readWord_0 (j := 16) rfl rfl) (fl_X4_readWord_0 (j := 17) rfl rfl) (s2p rfl (bl rfl))
theorem dX4_readWord_18 : decode cX4_readWord 18 = .ok (.aload_n 0, 1) := fq1_42 (fl_X4_readWord_0 (j := 18) rfl rfl)
theorem dX4_readWord_19 : decode cX4_readWord 19 = .ok (.getfield 9, 3) := fq3_180 (fl_X4_readWord_0 (j := 19) rfl rfl) (fl_X4_readWord_0 (j := 20) rfl rfl) (fl_X4_readWord_0 (j := 21) rfl rfl) rfl
theorem dX4_readWord_22 : decode cX4_readWord 22 = .ok (.aload_n 0, 1) := fq1_42 (fl_X4_readWord_0 (j := 22) rfl rfl)
theorem dX4_readWord_23 : decode cX4_readWord 23 = .ok (.getfield 47, 3) := fq3_180 (fl_X4_readWord_0 (j := 23) rfl rfl) (fl_X4_readWord_0 (j := 24) rfl rfl) (fl_X4_readWord_0 (j := 25) rfl rfl) rfl
theorem dX4_readWord_26 : decode cX4_readWord 26 = .ok (.baload, 1) := fq1_51 (fl_X4_readWord_0 (j := 26) rfl rfl)
theorem dX4_readWord_27 : decode cX4_readWord 27 = .ok (.bipush 97, 2) := fq2_16 (fl_X4_readWord_0 (j := 27) rfl rfl) (fl_X4_readWord_0 (j := 28) rfl rfl) (s1p rfl (bl rfl))
theorem dX4_readWord_29 : decode cX4_readWord 29 = .ok (.if_icmp .lt 73, 3) := fq3_161 (fl_X4_readWord_0 (j := 29) rfl rfl) (fl_X4_readWord_0 (j := 30) rfl rfl) (fl_X4_readWord_0 (j := 31) rfl rfl) (s2p rfl (bl rfl))
theorem dX4_readWord_32 : decode cX4_readWord 32 = .ok (.aload_n 0, 1) := fq1_42 (fl_X4_readWord_0 (j := 32) rfl rfl)
theorem dX4_readWord_33 : decode cX4_readWord 33 = .ok (.getfield 9, 3) := fq3_180 (fl_X4_readWord_0 (j := 33) rfl rfl) (fl_X4_readWord_0 (j := 34) rfl rfl) (fl_X4_readWord_0 (j := 35) rfl rfl) rfl
theorem dX4_readWord_36 : decode cX4_readWord 36 = .ok (.aload_n 0, 1) := fq1_42 (fl_X4_readWord_0 (j := 36) rfl rfl)
theorem dX4_readWord_37 : decode cX4_readWord 37 = .ok (.getfield 47, 3) := fq3_180 (fl_X4_readWord_0 (j := 37) rfl rfl) (fl_X4_readWord_0 (j := 38) rfl rfl) (fl_X4_readWord_0 (j := 39) rfl rfl) rfl
theorem dX4_readWord_40 : decode cX4_readWord 40 = .ok (.baload, 1) := fq1_51 (fl_X4_readWord_0 (j := 40) rfl rfl)
theorem dX4_readWord_41 : decode cX4_readWord 41 = .ok (.bipush 122, 2) := fq2_16 (fl_X4_readWord_0 (j := 41) rfl rfl) (fl_X4_readWord_0 (j := 42) rfl rfl) (s1p rfl (bl rfl))
theorem dX4_readWord_43 : decode cX4_readWord 43 = .ok (.if_icmp .gt 59, 3) := fq3_163 (fl_X4_readWord_0 (j := 43) rfl rfl) (fl_X4_readWord_0 (j := 44) rfl rfl) (fl_X4_readWord_0 (j := 45) rfl rfl) (s2p rfl (bl rfl))
theorem dX4_readWord_46 : decode cX4_readWord 46 = .ok (.aload_n 0, 1) := fq1_42 (fl_X4_readWord_0 (j := 46) rfl rfl)
theorem dX4_readWord_47 : decode cX4_readWord 47 = .ok (.getfield 47, 3) := fq3_180 (fl_X4_readWord_0 (j := 47) rfl rfl) (fl_X4_readWord_0 (j := 48) rfl rfl) (fl_X4_readWord_0 (j := 49) rfl rfl) rfl
theorem dX4_readWord_50 : decode cX4_readWord 50 = .ok (.aload_n 0, 1) := fq1_42 (fl_X4_readWord_0 (j := 50) rfl rfl)
theorem dX4_readWord_51 : decode cX4_readWord 51 = .ok (.getfield 53, 3) := fq3_180 (fl_X4_readWord_0 (j := 51) rfl rfl) (fl_X4_readWord_0 (j := 52) rfl rfl) (fl_X4_readWord_0 (j := 53) rfl rfl) rfl
theorem dX4_readWord_54 : decode cX4_readWord 54 = .ok (.isub, 1) := fq1_100 (fl_X4_readWord_0 (j := 54) rfl rfl)
theorem dX4_readWord_55 : decode cX4_readWord 55 = .ok (.bipush 8, 2) := fq2_16 (fl_X4_readWord_0 (j := 55) rfl rfl) (fl_X4_readWord_0 (j := 56) rfl rfl) (s1p rfl (bl rfl))
theorem dX4_readWord_57 : decode cX4_readWord 57 = .ok (.if_icmp .ge 28, 3) := fq3_162 (fl_X4_readWord_0 (j := 57) rfl rfl) (fl_X4_readWord_0 (j := 58) rfl rfl) (fl_X4_readWord_0 (j := 59) rfl rfl) (s2p rfl (bl rfl))
theorem dX4_readWord_60 : decode cX4_readWord 60 = .ok (.lload_n 1, 1) := fq1_31 (fl_X4_readWord_0 (j := 60) rfl rfl)
theorem dX4_readWord_61 : decode cX4_readWord 61 = .ok (.ldc2_w 38, 3) := fq3_20 (fl_X4_readWord_0 (j := 61) rfl rfl) (fl_X4_readWord_0 (j := 62) rfl rfl) (fl_X4_readWord_0 (j := 63) rfl rfl) rfl
def fb_X4_readWord_1 : List UInt8 := [0x69, 0x2a, 0xb4, 0x00, 0x09, 0x2a, 0xb4, 0x00, 0x2f, 0x33, 0x85, 0x61, 0x14, 0x00, 0x28, 0x65, 0x0a, 0x61, 0xa7, 0x00, 0x06, 0x14, 0x00, 0x3b, 0x40, 0x2a, 0x59, 0xb4, 0x00, 0x2f, 0x04, 0x60, 0xb5, 0x00, 0x2f, 0xa7, 0xff, 0xa4, 0x2a, 0x1f, 0xb5, 0x00, 0x3d, 0x03, 0x3e, 0x1d, 0x10, 0x19, 0xa2, 0x00, 0x19, 0x2a, 0xb4, 0x00, 0x0f, 0x1d, 0x2f, 0x1f, 0x94, 0x9a, 0x00, 0x08, 0x2a, 0x1d]
theorem fl_X4_readWord_1 {p j : Nat} {b : UInt8} (e : p = 64 + j) (h : fb_X4_readWord_1[j]? = some b) : cX4_readWord.data.toList[p]? = some b := fq_l (n := 64) (show (cX4_readWord.data.toList.drop 64).take 64 = fb_X4_readWord_1 by decide +kernel) e h
theorem dX4_readWord_64 : decode cX4_readWord 64 = .ok (.lmul, 1) := fq1_105 (fl_X4_readWord_1 (j := 0) rfl rfl)
theorem dX4_readWord_65 : decode cX4_readWord 65 = .ok (.aload_n 0, 1) := fq1_42 (fl_X4_readWord_1 (j := 1) rfl rfl)
theorem dX4_readWord_66 : decode cX4_readWord 66 = .ok (.getfield 9, 3) := fq3_180 (fl_X4_readWord_1 (j := 2) rfl rfl) (fl_X4_readWord_1 (j := 3) rfl rfl) (fl_X4_readWord_1 (j := 4) rfl rfl) rfl
theorem dX4_readWord_69 : decode cX4_readWord 69 = .ok (.aload_n 0, 1) := fq1_42 (fl_X4_readWord_1 (j := 5) rfl rfl)
theorem dX4_readWord_70 : decode cX4_readWord 70 = .ok (.getfield 47, 3) := fq3_180 (fl_X4_readWord_1 (j := 6) rfl rfl) (fl_X4_readWord_1 (j := 7) rfl rfl) (fl_X4_readWord_1 (j := 8) rfl rfl) rfl
theorem dX4_readWord_73 : decode cX4_readWord 73 = .ok (.baload, 1) := fq1_51 (fl_X4_readWord_1 (j := 9) rfl rfl)
theorem dX4_readWord_74 : decode cX4_readWord 74 = .ok (.i2l, 1) := fq1_133 (fl_X4_readWord_1 (j := 10) rfl rfl)
theorem dX4_readWord_75 : decode cX4_readWord 75 = .ok (.ladd, 1) := fq1_97 (fl_X4_readWord_1 (j := 11) rfl rfl)
theorem dX4_readWord_76 : decode cX4_readWord 76 = .ok (.ldc2_w 40, 3) := fq3_20 (fl_X4_readWord_1 (j := 12) rfl rfl) (fl_X4_readWord_1 (j := 13) rfl rfl) (fl_X4_readWord_1 (j := 14) rfl rfl) rfl
theorem dX4_readWord_79 : decode cX4_readWord 79 = .ok (.lsub, 1) := fq1_101 (fl_X4_readWord_1 (j := 15) rfl rfl)
theorem dX4_readWord_80 : decode cX4_readWord 80 = .ok (.lconst 1, 1) := fq1_10 (fl_X4_readWord_1 (j := 16) rfl rfl)
theorem dX4_readWord_81 : decode cX4_readWord 81 = .ok (.ladd, 1) := fq1_97 (fl_X4_readWord_1 (j := 17) rfl rfl)
theorem dX4_readWord_82 : decode cX4_readWord 82 = .ok (.goto 6, 3) := fq3_167 (fl_X4_readWord_1 (j := 18) rfl rfl) (fl_X4_readWord_1 (j := 19) rfl rfl) (fl_X4_readWord_1 (j := 20) rfl rfl) (s2p rfl (bl rfl))
theorem dX4_readWord_85 : decode cX4_readWord 85 = .ok (.ldc2_w 59, 3) := fq3_20 (fl_X4_readWord_1 (j := 21) rfl rfl) (fl_X4_readWord_1 (j := 22) rfl rfl) (fl_X4_readWord_1 (j := 23) rfl rfl) rfl
theorem dX4_readWord_88 : decode cX4_readWord 88 = .ok (.lstore_n 1, 1) := fq1_64 (fl_X4_readWord_1 (j := 24) rfl rfl)
theorem dX4_readWord_89 : decode cX4_readWord 89 = .ok (.aload_n 0, 1) := fq1_42 (fl_X4_readWord_1 (j := 25) rfl rfl)
theorem dX4_readWord_90 : decode cX4_readWord 90 = .ok (.dup, 1) := fq1_89 (fl_X4_readWord_1 (j := 26) rfl rfl)
theorem dX4_readWord_91 : decode cX4_readWord 91 = .ok (.getfield 47, 3) := fq3_180 (fl_X4_readWord_1 (j := 27) rfl rfl) (fl_X4_readWord_1 (j := 28) rfl rfl) (fl_X4_readWord_1 (j := 29) rfl rfl) rfl
theorem dX4_readWord_94 : decode cX4_readWord 94 = .ok (.iconst 1, 1) := fq1_4 (fl_X4_readWord_1 (j := 30) rfl rfl)
theorem dX4_readWord_95 : decode cX4_readWord 95 = .ok (.iadd, 1) := fq1_96 (fl_X4_readWord_1 (j := 31) rfl rfl)
theorem dX4_readWord_96 : decode cX4_readWord 96 = .ok (.putfield 47, 3) := fq3_181 (fl_X4_readWord_1 (j := 32) rfl rfl) (fl_X4_readWord_1 (j := 33) rfl rfl) (fl_X4_readWord_1 (j := 34) rfl rfl) rfl
theorem dX4_readWord_99 : decode cX4_readWord 99 = .ok (.goto (-92), 3) := fq3_167 (fl_X4_readWord_1 (j := 35) rfl rfl) (fl_X4_readWord_1 (j := 36) rfl rfl) (fl_X4_readWord_1 (j := 37) rfl rfl) (by decide)
theorem dX4_readWord_102 : decode cX4_readWord 102 = .ok (.aload_n 0, 1) := fq1_42 (fl_X4_readWord_1 (j := 38) rfl rfl)
theorem dX4_readWord_103 : decode cX4_readWord 103 = .ok (.lload_n 1, 1) := fq1_31 (fl_X4_readWord_1 (j := 39) rfl rfl)
theorem dX4_readWord_104 : decode cX4_readWord 104 = .ok (.putfield 61, 3) := fq3_181 (fl_X4_readWord_1 (j := 40) rfl rfl) (fl_X4_readWord_1 (j := 41) rfl rfl) (fl_X4_readWord_1 (j := 42) rfl rfl) rfl
theorem dX4_readWord_107 : decode cX4_readWord 107 = .ok (.iconst 0, 1) := fq1_3 (fl_X4_readWord_1 (j := 43) rfl rfl)
theorem dX4_readWord_108 : decode cX4_readWord 108 = .ok (.istore_n 3, 1) := fq1_62 (fl_X4_readWord_1 (j := 44) rfl rfl)
theorem dX4_readWord_109 : decode cX4_readWord 109 = .ok (.iload_n 3, 1) := fq1_29 (fl_X4_readWord_1 (j := 45) rfl rfl)
theorem dX4_readWord_110 : decode cX4_readWord 110 = .ok (.bipush 25, 2) := fq2_16 (fl_X4_readWord_1 (j := 46) rfl rfl) (fl_X4_readWord_1 (j := 47) rfl rfl) (s1p rfl (bl rfl))
theorem dX4_readWord_112 : decode cX4_readWord 112 = .ok (.if_icmp .ge 25, 3) := fq3_162 (fl_X4_readWord_1 (j := 48) rfl rfl) (fl_X4_readWord_1 (j := 49) rfl rfl) (fl_X4_readWord_1 (j := 50) rfl rfl) (s2p rfl (bl rfl))
theorem dX4_readWord_115 : decode cX4_readWord 115 = .ok (.aload_n 0, 1) := fq1_42 (fl_X4_readWord_1 (j := 51) rfl rfl)
theorem dX4_readWord_116 : decode cX4_readWord 116 = .ok (.getfield 15, 3) := fq3_180 (fl_X4_readWord_1 (j := 52) rfl rfl) (fl_X4_readWord_1 (j := 53) rfl rfl) (fl_X4_readWord_1 (j := 54) rfl rfl) rfl
theorem dX4_readWord_119 : decode cX4_readWord 119 = .ok (.iload_n 3, 1) := fq1_29 (fl_X4_readWord_1 (j := 55) rfl rfl)
theorem dX4_readWord_120 : decode cX4_readWord 120 = .ok (.laload, 1) := fq1_47 (fl_X4_readWord_1 (j := 56) rfl rfl)
theorem dX4_readWord_121 : decode cX4_readWord 121 = .ok (.lload_n 1, 1) := fq1_31 (fl_X4_readWord_1 (j := 57) rfl rfl)
theorem dX4_readWord_122 : decode cX4_readWord 122 = .ok (.lcmp, 1) := fq1_148 (fl_X4_readWord_1 (j := 58) rfl rfl)
theorem dX4_readWord_123 : decode cX4_readWord 123 = .ok (.ifCond .ne 8, 3) := fq3_154 (fl_X4_readWord_1 (j := 59) rfl rfl) (fl_X4_readWord_1 (j := 60) rfl rfl) (fl_X4_readWord_1 (j := 61) rfl rfl) (s2p rfl (bl rfl))
theorem dX4_readWord_126 : decode cX4_readWord 126 = .ok (.aload_n 0, 1) := fq1_42 (fl_X4_readWord_1 (j := 62) rfl rfl)
theorem dX4_readWord_127 : decode cX4_readWord 127 = .ok (.iload_n 3, 1) := fq1_29 (fl_X4_readWord_1 (j := 63) rfl rfl)
def fb_X4_readWord_2 : List UInt8 := [0xb5, 0x00, 0x38, 0x84, 0x03, 0x01, 0xa7, 0xff, 0xe7, 0xb1]
theorem fl_X4_readWord_2 {p j : Nat} {b : UInt8} (e : p = 128 + j) (h : fb_X4_readWord_2[j]? = some b) : cX4_readWord.data.toList[p]? = some b := fq_l (n := 64) (show (cX4_readWord.data.toList.drop 128).take 64 = fb_X4_readWord_2 by decide +kernel) e h
theorem dX4_readWord_128 : decode cX4_readWord 128 = .ok (.putfield 56, 3) := fq3_181 (fl_X4_readWord_2 (j := 0) rfl rfl) (fl_X4_readWord_2 (j := 1) rfl rfl) (fl_X4_readWord_2 (j := 2) rfl rfl) rfl
theorem dX4_readWord_131 : decode cX4_readWord 131 = .ok (.iinc 3 1, 3) := fq3_132 (fl_X4_readWord_2 (j := 3) rfl rfl) (fl_X4_readWord_2 (j := 4) rfl rfl) (fl_X4_readWord_2 (j := 5) rfl rfl) rfl (s1p rfl (bl rfl))
theorem dX4_readWord_134 : decode cX4_readWord 134 = .ok (.goto (-25), 3) := fq3_167 (fl_X4_readWord_2 (j := 6) rfl rfl) (fl_X4_readWord_2 (j := 7) rfl rfl) (fl_X4_readWord_2 (j := 8) rfl rfl) (by decide)
theorem dX4_readWord_137 : decode cX4_readWord 137 = .ok (.return_, 1) := fq1_177 (fl_X4_readWord_2 (j := 9) rfl rfl)
end

section
theorem qf_X4_42 : Cond.fieldLink RX4 42 "SlowWorlds$Reader" "taped" "I" ∈ gw := tbt (tb2 (List.mem_of_getElem? (i := 4) rfl)) rfl
theorem qf_X4_19 : Cond.fieldLink RX4 19 "SlowWorlds$Reader" "faultKind" "I" ∈ gw := tbt (tb2 (List.mem_of_getElem? (i := 16) rfl)) rfl
theorem qf_X4_23 : Cond.fieldLink RX4 23 "SlowWorlds$Reader" "faultPlace" "I" ∈ gw := tbt (tb2 (List.mem_of_getElem? (i := 18) rfl)) rfl
theorem qc_X4_next : Cond.code yX4_next cX4_next 1 none ∈ gw := tbt (tb3 (List.mem_of_getElem? (i := 96) rfl)) rfl
theorem qi_yX4_next : Cond.instanceMethod yX4_next ∈ gw := tbt (tb3 (List.mem_of_getElem? (i := 94) rfl)) rfl
theorem qs_X4_next : Cond.selects (yX4_next).cls yX4_next yX4_next ∈ gw := tbt (tb3 (List.mem_of_getElem? (i := 95) rfl)) rfl
theorem ci_X4_next : CIv yX4_next cX4_next 1 none 0 := ⟨qc_X4_next, qi_yX4_next, qs_X4_next, qz_X4, by decide +kernel⟩
theorem qm_X4_50 : Cond.methodLink RX4 50 yX4_next ∈ gw := tbt (tb3 (List.mem_of_getElem? (i := 93) rfl)) rfl
theorem qc_X4_fail : Cond.code yX4_fail cX4_fail 2 (some .boolean) ∈ gw := tbt (tb3 (List.mem_of_getElem? (i := 132) rfl)) rfl
theorem qi_yX4_fail : Cond.instanceMethod yX4_fail ∈ gw := tbt (tb3 (List.mem_of_getElem? (i := 130) rfl)) rfl
theorem qs_X4_fail : Cond.selects (yX4_fail).cls yX4_fail yX4_fail ∈ gw := tbt (tb3 (List.mem_of_getElem? (i := 131) rfl)) rfl
theorem ci_X4_fail : CIv yX4_fail cX4_fail 2 (some .boolean) 1 := ⟨qc_X4_fail, qi_yX4_fail, qs_X4_fail, qz_X4, by decide +kernel⟩
theorem qm_X4_80 : Cond.methodLink RX4 80 yX4_fail ∈ gw := tbt (tb3 (List.mem_of_getElem? (i := 154) rfl)) rfl
theorem qc_X4_isName : Cond.code yX4_isName cX4_isName 1 (some .boolean) ∈ gw := tbt (tb3 (List.mem_of_getElem? (i := 141) rfl)) rfl
theorem qi_yX4_isName : Cond.instanceMethod yX4_isName ∈ gw := tbt (tb3 (List.mem_of_getElem? (i := 139) rfl)) rfl
theorem qs_X4_isName : Cond.selects (yX4_isName).cls yX4_isName yX4_isName ∈ gw := tbt (tb3 (List.mem_of_getElem? (i := 140) rfl)) rfl
theorem ci_X4_isName : CIv yX4_isName cX4_isName 1 (some .boolean) 0 := ⟨qc_X4_isName, qi_yX4_isName, qs_X4_isName, qz_X4, by decide +kernel⟩
theorem qm_X4_84 : Cond.methodLink RX4 84 yX4_isName ∈ gw := tbt (tb3 (List.mem_of_getElem? (i := 171) rfl)) rfl
theorem qc_X5_named : Cond.code yX5_named cX5_named 4 (some .int) ∈ gw := tbt (tb3 (List.mem_of_getElem? (i := 145) rfl)) rfl
theorem qi_yX5_named : Cond.instanceMethod yX5_named ∈ gw := tbt (tb3 (List.mem_of_getElem? (i := 143) rfl)) rfl
theorem qs_X5_named : Cond.selects (yX5_named).cls yX5_named yX5_named ∈ gw := tbt (tb3 (List.mem_of_getElem? (i := 144) rfl)) rfl
theorem ci_X5_named : CIv yX5_named cX5_named 4 (some .int) 1 := ⟨qc_X5_named, qi_yX5_named, qs_X5_named, qz_X5, by decide +kernel⟩
theorem qm_X4_88 : Cond.methodLink RX4 88 yX5_named ∈ gw := tbt (tb3 (List.mem_of_getElem? (i := 172) rfl)) rfl
def fb_X4_fail_0 : List UInt8 := [0x2a, 0x2a, 0xb4, 0x00, 0x44, 0x07, 0xa0, 0x00, 0x07, 0x04, 0xa7, 0x00, 0x04, 0x1b, 0xb5, 0x00, 0x13, 0x2a, 0x2a, 0xb4, 0x00, 0x35, 0xb5, 0x00, 0x17, 0x03, 0xac]
theorem fl_X4_fail_0 {p j : Nat} {b : UInt8} (e : p = 0 + j) (h : fb_X4_fail_0[j]? = some b) : cX4_fail.data.toList[p]? = some b := fq_l (n := 64) (show (cX4_fail.data.toList.drop 0).take 64 = fb_X4_fail_0 by decide +kernel) e h
theorem dX4_fail_0 : decode cX4_fail 0 = .ok (.aload_n 0, 1) := fq1_42 (fl_X4_fail_0 (j := 0) rfl rfl)
theorem dX4_fail_1 : decode cX4_fail 1 = .ok (.aload_n 0, 1) := fq1_42 (fl_X4_fail_0 (j := 1) rfl rfl)
theorem dX4_fail_2 : decode cX4_fail 2 = .ok (.getfield 68, 3) := fq3_180 (fl_X4_fail_0 (j := 2) rfl rfl) (fl_X4_fail_0 (j := 3) rfl rfl) (fl_X4_fail_0 (j := 4) rfl rfl) rfl
theorem dX4_fail_5 : decode cX4_fail 5 = .ok (.iconst 4, 1) := fq1_7 (fl_X4_fail_0 (j := 5) rfl rfl)
theorem dX4_fail_6 : decode cX4_fail 6 = .ok (.if_icmp .ne 7, 3) := fq3_160 (fl_X4_fail_0 (j := 6) rfl rfl) (fl_X4_fail_0 (j := 7) rfl rfl) (fl_X4_fail_0 (j := 8) rfl rfl) (s2p rfl (bl rfl))
theorem dX4_fail_9 : decode cX4_fail 9 = .ok (.iconst 1, 1) := fq1_4 (fl_X4_fail_0 (j := 9) rfl rfl)
theorem dX4_fail_10 : decode cX4_fail 10 = .ok (.goto 4, 3) := fq3_167 (fl_X4_fail_0 (j := 10) rfl rfl) (fl_X4_fail_0 (j := 11) rfl rfl) (fl_X4_fail_0 (j := 12) rfl rfl) (s2p rfl (bl rfl))
theorem dX4_fail_13 : decode cX4_fail 13 = .ok (.iload_n 1, 1) := fq1_27 (fl_X4_fail_0 (j := 13) rfl rfl)
theorem dX4_fail_14 : decode cX4_fail 14 = .ok (.putfield 19, 3) := fq3_181 (fl_X4_fail_0 (j := 14) rfl rfl) (fl_X4_fail_0 (j := 15) rfl rfl) (fl_X4_fail_0 (j := 16) rfl rfl) rfl
theorem dX4_fail_17 : decode cX4_fail 17 = .ok (.aload_n 0, 1) := fq1_42 (fl_X4_fail_0 (j := 17) rfl rfl)
theorem dX4_fail_18 : decode cX4_fail 18 = .ok (.aload_n 0, 1) := fq1_42 (fl_X4_fail_0 (j := 18) rfl rfl)
theorem dX4_fail_19 : decode cX4_fail 19 = .ok (.getfield 53, 3) := fq3_180 (fl_X4_fail_0 (j := 19) rfl rfl) (fl_X4_fail_0 (j := 20) rfl rfl) (fl_X4_fail_0 (j := 21) rfl rfl) rfl
theorem dX4_fail_22 : decode cX4_fail 22 = .ok (.putfield 23, 3) := fq3_181 (fl_X4_fail_0 (j := 22) rfl rfl) (fl_X4_fail_0 (j := 23) rfl rfl) (fl_X4_fail_0 (j := 24) rfl rfl) rfl
theorem dX4_fail_25 : decode cX4_fail 25 = .ok (.iconst 0, 1) := fq1_3 (fl_X4_fail_0 (j := 25) rfl rfl)
theorem dX4_fail_26 : decode cX4_fail 26 = .ok (.ireturn, 1) := fq1_172 (fl_X4_fail_0 (j := 26) rfl rfl)
def fb_X4_isAtEnd_0 : List UInt8 := [0x2a, 0xb4, 0x00, 0x44, 0x9a, 0x00, 0x07, 0x04, 0xa7, 0x00, 0x04, 0x03, 0xac]
theorem fl_X4_isAtEnd_0 {p j : Nat} {b : UInt8} (e : p = 0 + j) (h : fb_X4_isAtEnd_0[j]? = some b) : cX4_isAtEnd.data.toList[p]? = some b := fq_l (n := 64) (show (cX4_isAtEnd.data.toList.drop 0).take 64 = fb_X4_isAtEnd_0 by decide +kernel) e h
theorem dX4_isAtEnd_0 : decode cX4_isAtEnd 0 = .ok (.aload_n 0, 1) := fq1_42 (fl_X4_isAtEnd_0 (j := 0) rfl rfl)
theorem dX4_isAtEnd_1 : decode cX4_isAtEnd 1 = .ok (.getfield 68, 3) := fq3_180 (fl_X4_isAtEnd_0 (j := 1) rfl rfl) (fl_X4_isAtEnd_0 (j := 2) rfl rfl) (fl_X4_isAtEnd_0 (j := 3) rfl rfl) rfl
theorem dX4_isAtEnd_4 : decode cX4_isAtEnd 4 = .ok (.ifCond .ne 7, 3) := fq3_154 (fl_X4_isAtEnd_0 (j := 4) rfl rfl) (fl_X4_isAtEnd_0 (j := 5) rfl rfl) (fl_X4_isAtEnd_0 (j := 6) rfl rfl) (s2p rfl (bl rfl))
theorem dX4_isAtEnd_7 : decode cX4_isAtEnd 7 = .ok (.iconst 1, 1) := fq1_4 (fl_X4_isAtEnd_0 (j := 7) rfl rfl)
theorem dX4_isAtEnd_8 : decode cX4_isAtEnd 8 = .ok (.goto 4, 3) := fq3_167 (fl_X4_isAtEnd_0 (j := 8) rfl rfl) (fl_X4_isAtEnd_0 (j := 9) rfl rfl) (fl_X4_isAtEnd_0 (j := 10) rfl rfl) (s2p rfl (bl rfl))
theorem dX4_isAtEnd_11 : decode cX4_isAtEnd 11 = .ok (.iconst 0, 1) := fq1_3 (fl_X4_isAtEnd_0 (j := 11) rfl rfl)
theorem dX4_isAtEnd_12 : decode cX4_isAtEnd 12 = .ok (.ireturn, 1) := fq1_172 (fl_X4_isAtEnd_0 (j := 12) rfl rfl)
def fb_X4_isName_0 : List UInt8 := [0x2a, 0xb4, 0x00, 0x44, 0x04, 0xa0, 0x00, 0x1a, 0x2a, 0xb4, 0x00, 0x38, 0x02, 0xa0, 0x00, 0x12, 0x2a, 0xb4, 0x00, 0x3d, 0x14, 0x00, 0x3b, 0x94, 0x99, 0x00, 0x07, 0x04, 0xa7, 0x00, 0x04, 0x03, 0xac]
theorem fl_X4_isName_0 {p j : Nat} {b : UInt8} (e : p = 0 + j) (h : fb_X4_isName_0[j]? = some b) : cX4_isName.data.toList[p]? = some b := fq_l (n := 64) (show (cX4_isName.data.toList.drop 0).take 64 = fb_X4_isName_0 by decide +kernel) e h
theorem dX4_isName_0 : decode cX4_isName 0 = .ok (.aload_n 0, 1) := fq1_42 (fl_X4_isName_0 (j := 0) rfl rfl)
theorem dX4_isName_1 : decode cX4_isName 1 = .ok (.getfield 68, 3) := fq3_180 (fl_X4_isName_0 (j := 1) rfl rfl) (fl_X4_isName_0 (j := 2) rfl rfl) (fl_X4_isName_0 (j := 3) rfl rfl) rfl
theorem dX4_isName_4 : decode cX4_isName 4 = .ok (.iconst 1, 1) := fq1_4 (fl_X4_isName_0 (j := 4) rfl rfl)
theorem dX4_isName_5 : decode cX4_isName 5 = .ok (.if_icmp .ne 26, 3) := fq3_160 (fl_X4_isName_0 (j := 5) rfl rfl) (fl_X4_isName_0 (j := 6) rfl rfl) (fl_X4_isName_0 (j := 7) rfl rfl) (s2p rfl (bl rfl))
theorem dX4_isName_8 : decode cX4_isName 8 = .ok (.aload_n 0, 1) := fq1_42 (fl_X4_isName_0 (j := 8) rfl rfl)
theorem dX4_isName_9 : decode cX4_isName 9 = .ok (.getfield 56, 3) := fq3_180 (fl_X4_isName_0 (j := 9) rfl rfl) (fl_X4_isName_0 (j := 10) rfl rfl) (fl_X4_isName_0 (j := 11) rfl rfl) rfl
theorem dX4_isName_12 : decode cX4_isName 12 = .ok (.iconst (-1), 1) := fq1_2 (fl_X4_isName_0 (j := 12) rfl rfl)
theorem dX4_isName_13 : decode cX4_isName 13 = .ok (.if_icmp .ne 18, 3) := fq3_160 (fl_X4_isName_0 (j := 13) rfl rfl) (fl_X4_isName_0 (j := 14) rfl rfl) (fl_X4_isName_0 (j := 15) rfl rfl) (s2p rfl (bl rfl))
theorem dX4_isName_16 : decode cX4_isName 16 = .ok (.aload_n 0, 1) := fq1_42 (fl_X4_isName_0 (j := 16) rfl rfl)
theorem dX4_isName_17 : decode cX4_isName 17 = .ok (.getfield 61, 3) := fq3_180 (fl_X4_isName_0 (j := 17) rfl rfl) (fl_X4_isName_0 (j := 18) rfl rfl) (fl_X4_isName_0 (j := 19) rfl rfl) rfl
theorem dX4_isName_20 : decode cX4_isName 20 = .ok (.ldc2_w 59, 3) := fq3_20 (fl_X4_isName_0 (j := 20) rfl rfl) (fl_X4_isName_0 (j := 21) rfl rfl) (fl_X4_isName_0 (j := 22) rfl rfl) rfl
theorem dX4_isName_23 : decode cX4_isName 23 = .ok (.lcmp, 1) := fq1_148 (fl_X4_isName_0 (j := 23) rfl rfl)
theorem dX4_isName_24 : decode cX4_isName 24 = .ok (.ifCond .eq 7, 3) := fq3_153 (fl_X4_isName_0 (j := 24) rfl rfl) (fl_X4_isName_0 (j := 25) rfl rfl) (fl_X4_isName_0 (j := 26) rfl rfl) (s2p rfl (bl rfl))
theorem dX4_isName_27 : decode cX4_isName 27 = .ok (.iconst 1, 1) := fq1_4 (fl_X4_isName_0 (j := 27) rfl rfl)
theorem dX4_isName_28 : decode cX4_isName 28 = .ok (.goto 4, 3) := fq3_167 (fl_X4_isName_0 (j := 28) rfl rfl) (fl_X4_isName_0 (j := 29) rfl rfl) (fl_X4_isName_0 (j := 30) rfl rfl) (s2p rfl (bl rfl))
theorem dX4_isName_31 : decode cX4_isName 31 = .ok (.iconst 0, 1) := fq1_3 (fl_X4_isName_0 (j := 31) rfl rfl)
theorem dX4_isName_32 : decode cX4_isName 32 = .ok (.ireturn, 1) := fq1_172 (fl_X4_isName_0 (j := 32) rfl rfl)
def fb_X4_open_0 : List UInt8 := [0x2a, 0x1b, 0xb5, 0x00, 0x2d, 0x2a, 0x03, 0xb5, 0x00, 0x2a, 0x2a, 0x03, 0xb5, 0x00, 0x2f, 0x2a, 0x03, 0xb5, 0x00, 0x13, 0x2a, 0x02, 0xb5, 0x00, 0x17, 0x2a, 0xb6, 0x00, 0x32, 0xb1]
theorem fl_X4_open_0 {p j : Nat} {b : UInt8} (e : p = 0 + j) (h : fb_X4_open_0[j]? = some b) : cX4_open.data.toList[p]? = some b := fq_l (n := 64) (show (cX4_open.data.toList.drop 0).take 64 = fb_X4_open_0 by decide +kernel) e h
theorem dX4_open_0 : decode cX4_open 0 = .ok (.aload_n 0, 1) := fq1_42 (fl_X4_open_0 (j := 0) rfl rfl)
theorem dX4_open_1 : decode cX4_open 1 = .ok (.iload_n 1, 1) := fq1_27 (fl_X4_open_0 (j := 1) rfl rfl)
theorem dX4_open_2 : decode cX4_open 2 = .ok (.putfield 45, 3) := fq3_181 (fl_X4_open_0 (j := 2) rfl rfl) (fl_X4_open_0 (j := 3) rfl rfl) (fl_X4_open_0 (j := 4) rfl rfl) rfl
theorem dX4_open_5 : decode cX4_open 5 = .ok (.aload_n 0, 1) := fq1_42 (fl_X4_open_0 (j := 5) rfl rfl)
theorem dX4_open_6 : decode cX4_open 6 = .ok (.iconst 0, 1) := fq1_3 (fl_X4_open_0 (j := 6) rfl rfl)
theorem dX4_open_7 : decode cX4_open 7 = .ok (.putfield 42, 3) := fq3_181 (fl_X4_open_0 (j := 7) rfl rfl) (fl_X4_open_0 (j := 8) rfl rfl) (fl_X4_open_0 (j := 9) rfl rfl) rfl
theorem dX4_open_10 : decode cX4_open 10 = .ok (.aload_n 0, 1) := fq1_42 (fl_X4_open_0 (j := 10) rfl rfl)
theorem dX4_open_11 : decode cX4_open 11 = .ok (.iconst 0, 1) := fq1_3 (fl_X4_open_0 (j := 11) rfl rfl)
theorem dX4_open_12 : decode cX4_open 12 = .ok (.putfield 47, 3) := fq3_181 (fl_X4_open_0 (j := 12) rfl rfl) (fl_X4_open_0 (j := 13) rfl rfl) (fl_X4_open_0 (j := 14) rfl rfl) rfl
theorem dX4_open_15 : decode cX4_open 15 = .ok (.aload_n 0, 1) := fq1_42 (fl_X4_open_0 (j := 15) rfl rfl)
theorem dX4_open_16 : decode cX4_open 16 = .ok (.iconst 0, 1) := fq1_3 (fl_X4_open_0 (j := 16) rfl rfl)
theorem dX4_open_17 : decode cX4_open 17 = .ok (.putfield 19, 3) := fq3_181 (fl_X4_open_0 (j := 17) rfl rfl) (fl_X4_open_0 (j := 18) rfl rfl) (fl_X4_open_0 (j := 19) rfl rfl) rfl
theorem dX4_open_20 : decode cX4_open 20 = .ok (.aload_n 0, 1) := fq1_42 (fl_X4_open_0 (j := 20) rfl rfl)
theorem dX4_open_21 : decode cX4_open 21 = .ok (.iconst (-1), 1) := fq1_2 (fl_X4_open_0 (j := 21) rfl rfl)
theorem dX4_open_22 : decode cX4_open 22 = .ok (.putfield 23, 3) := fq3_181 (fl_X4_open_0 (j := 22) rfl rfl) (fl_X4_open_0 (j := 23) rfl rfl) (fl_X4_open_0 (j := 24) rfl rfl) rfl
theorem dX4_open_25 : decode cX4_open 25 = .ok (.aload_n 0, 1) := fq1_42 (fl_X4_open_0 (j := 25) rfl rfl)
theorem dX4_open_26 : decode cX4_open 26 = .ok (.invokevirtual 50, 3) := fq3_182 (fl_X4_open_0 (j := 26) rfl rfl) (fl_X4_open_0 (j := 27) rfl rfl) (fl_X4_open_0 (j := 28) rfl rfl) rfl
theorem dX4_open_29 : decode cX4_open 29 = .ok (.return_, 1) := fq1_177 (fl_X4_open_0 (j := 29) rfl rfl)
def fb_X4_putOnTape_0 : List UInt8 := [0x10, 0x18, 0x3d, 0x1c, 0x9b, 0x00, 0x20, 0x2a, 0xb4, 0x00, 0x09, 0x2a, 0xb4, 0x00, 0x2a, 0x1b, 0x1c, 0x7a, 0x91, 0x54, 0x2a, 0x59, 0xb4, 0x00, 0x2a, 0x04, 0x60, 0xb5, 0x00, 0x2a, 0x84, 0x02, 0xf8, 0xa7, 0xff, 0xe2, 0xb1]
theorem fl_X4_putOnTape_0 {p j : Nat} {b : UInt8} (e : p = 0 + j) (h : fb_X4_putOnTape_0[j]? = some b) : cX4_putOnTape.data.toList[p]? = some b := fq_l (n := 64) (show (cX4_putOnTape.data.toList.drop 0).take 64 = fb_X4_putOnTape_0 by decide +kernel) e h
theorem dX4_putOnTape_0 : decode cX4_putOnTape 0 = .ok (.bipush 24, 2) := fq2_16 (fl_X4_putOnTape_0 (j := 0) rfl rfl) (fl_X4_putOnTape_0 (j := 1) rfl rfl) (s1p rfl (bl rfl))
theorem dX4_putOnTape_2 : decode cX4_putOnTape 2 = .ok (.istore_n 2, 1) := fq1_61 (fl_X4_putOnTape_0 (j := 2) rfl rfl)
theorem dX4_putOnTape_3 : decode cX4_putOnTape 3 = .ok (.iload_n 2, 1) := fq1_28 (fl_X4_putOnTape_0 (j := 3) rfl rfl)
theorem dX4_putOnTape_4 : decode cX4_putOnTape 4 = .ok (.ifCond .lt 32, 3) := fq3_155 (fl_X4_putOnTape_0 (j := 4) rfl rfl) (fl_X4_putOnTape_0 (j := 5) rfl rfl) (fl_X4_putOnTape_0 (j := 6) rfl rfl) (s2p rfl (bl rfl))
theorem dX4_putOnTape_7 : decode cX4_putOnTape 7 = .ok (.aload_n 0, 1) := fq1_42 (fl_X4_putOnTape_0 (j := 7) rfl rfl)
theorem dX4_putOnTape_8 : decode cX4_putOnTape 8 = .ok (.getfield 9, 3) := fq3_180 (fl_X4_putOnTape_0 (j := 8) rfl rfl) (fl_X4_putOnTape_0 (j := 9) rfl rfl) (fl_X4_putOnTape_0 (j := 10) rfl rfl) rfl
theorem dX4_putOnTape_11 : decode cX4_putOnTape 11 = .ok (.aload_n 0, 1) := fq1_42 (fl_X4_putOnTape_0 (j := 11) rfl rfl)
theorem dX4_putOnTape_12 : decode cX4_putOnTape 12 = .ok (.getfield 42, 3) := fq3_180 (fl_X4_putOnTape_0 (j := 12) rfl rfl) (fl_X4_putOnTape_0 (j := 13) rfl rfl) (fl_X4_putOnTape_0 (j := 14) rfl rfl) rfl
theorem dX4_putOnTape_15 : decode cX4_putOnTape 15 = .ok (.iload_n 1, 1) := fq1_27 (fl_X4_putOnTape_0 (j := 15) rfl rfl)
theorem dX4_putOnTape_16 : decode cX4_putOnTape 16 = .ok (.iload_n 2, 1) := fq1_28 (fl_X4_putOnTape_0 (j := 16) rfl rfl)
theorem dX4_putOnTape_17 : decode cX4_putOnTape 17 = .ok (.ishr, 1) := fq1_122 (fl_X4_putOnTape_0 (j := 17) rfl rfl)
theorem dX4_putOnTape_18 : decode cX4_putOnTape 18 = .ok (.i2b, 1) := fq1_145 (fl_X4_putOnTape_0 (j := 18) rfl rfl)
theorem dX4_putOnTape_19 : decode cX4_putOnTape 19 = .ok (.bastore, 1) := fq1_84 (fl_X4_putOnTape_0 (j := 19) rfl rfl)
theorem dX4_putOnTape_20 : decode cX4_putOnTape 20 = .ok (.aload_n 0, 1) := fq1_42 (fl_X4_putOnTape_0 (j := 20) rfl rfl)
theorem dX4_putOnTape_21 : decode cX4_putOnTape 21 = .ok (.dup, 1) := fq1_89 (fl_X4_putOnTape_0 (j := 21) rfl rfl)
theorem dX4_putOnTape_22 : decode cX4_putOnTape 22 = .ok (.getfield 42, 3) := fq3_180 (fl_X4_putOnTape_0 (j := 22) rfl rfl) (fl_X4_putOnTape_0 (j := 23) rfl rfl) (fl_X4_putOnTape_0 (j := 24) rfl rfl) rfl
theorem dX4_putOnTape_25 : decode cX4_putOnTape 25 = .ok (.iconst 1, 1) := fq1_4 (fl_X4_putOnTape_0 (j := 25) rfl rfl)
theorem dX4_putOnTape_26 : decode cX4_putOnTape 26 = .ok (.iadd, 1) := fq1_96 (fl_X4_putOnTape_0 (j := 26) rfl rfl)
theorem dX4_putOnTape_27 : decode cX4_putOnTape 27 = .ok (.putfield 42, 3) := fq3_181 (fl_X4_putOnTape_0 (j := 27) rfl rfl) (fl_X4_putOnTape_0 (j := 28) rfl rfl) (fl_X4_putOnTape_0 (j := 29) rfl rfl) rfl
theorem dX4_putOnTape_30 : decode cX4_putOnTape 30 = .ok (.iinc 2 (-8), 3) := fq3_132 (fl_X4_putOnTape_0 (j := 30) rfl rfl) (fl_X4_putOnTape_0 (j := 31) rfl rfl) (fl_X4_putOnTape_0 (j := 32) rfl rfl) rfl (by decide)
theorem dX4_putOnTape_33 : decode cX4_putOnTape 33 = .ok (.goto (-30), 3) := fq3_167 (fl_X4_putOnTape_0 (j := 33) rfl rfl) (fl_X4_putOnTape_0 (j := 34) rfl rfl) (fl_X4_putOnTape_0 (j := 35) rfl rfl) (by decide)
theorem dX4_putOnTape_36 : decode cX4_putOnTape 36 = .ok (.return_, 1) := fq1_177 (fl_X4_putOnTape_0 (j := 36) rfl rfl)
def fb_X4_takeCompares_0 : List UInt8 := [0x2a, 0xb4, 0x00, 0x41, 0x3c, 0x2a, 0xb4, 0x00, 0x44, 0x06, 0xa0, 0x00, 0x09, 0x1b, 0x10, 0x3b, 0xa0, 0x00, 0x0b, 0x2a, 0x05, 0xb6, 0x00, 0x50, 0x57, 0x02, 0xac, 0x2a, 0xb6, 0x00, 0x32, 0x1b, 0xac]
theorem fl_X4_takeCompares_0 {p j : Nat} {b : UInt8} (e : p = 0 + j) (h : fb_X4_takeCompares_0[j]? = some b) : cX4_takeCompares.data.toList[p]? = some b := fq_l (n := 64) (show (cX4_takeCompares.data.toList.drop 0).take 64 = fb_X4_takeCompares_0 by decide +kernel) e h
theorem dX4_takeCompares_0 : decode cX4_takeCompares 0 = .ok (.aload_n 0, 1) := fq1_42 (fl_X4_takeCompares_0 (j := 0) rfl rfl)
theorem dX4_takeCompares_1 : decode cX4_takeCompares 1 = .ok (.getfield 65, 3) := fq3_180 (fl_X4_takeCompares_0 (j := 1) rfl rfl) (fl_X4_takeCompares_0 (j := 2) rfl rfl) (fl_X4_takeCompares_0 (j := 3) rfl rfl) rfl
theorem dX4_takeCompares_4 : decode cX4_takeCompares 4 = .ok (.istore_n 1, 1) := fq1_60 (fl_X4_takeCompares_0 (j := 4) rfl rfl)
theorem dX4_takeCompares_5 : decode cX4_takeCompares 5 = .ok (.aload_n 0, 1) := fq1_42 (fl_X4_takeCompares_0 (j := 5) rfl rfl)
theorem dX4_takeCompares_6 : decode cX4_takeCompares 6 = .ok (.getfield 68, 3) := fq3_180 (fl_X4_takeCompares_0 (j := 6) rfl rfl) (fl_X4_takeCompares_0 (j := 7) rfl rfl) (fl_X4_takeCompares_0 (j := 8) rfl rfl) rfl
theorem dX4_takeCompares_9 : decode cX4_takeCompares 9 = .ok (.iconst 3, 1) := fq1_6 (fl_X4_takeCompares_0 (j := 9) rfl rfl)
theorem dX4_takeCompares_10 : decode cX4_takeCompares 10 = .ok (.if_icmp .ne 9, 3) := fq3_160 (fl_X4_takeCompares_0 (j := 10) rfl rfl) (fl_X4_takeCompares_0 (j := 11) rfl rfl) (fl_X4_takeCompares_0 (j := 12) rfl rfl) (s2p rfl (bl rfl))
theorem dX4_takeCompares_13 : decode cX4_takeCompares 13 = .ok (.iload_n 1, 1) := fq1_27 (fl_X4_takeCompares_0 (j := 13) rfl rfl)
theorem dX4_takeCompares_14 : decode cX4_takeCompares 14 = .ok (.bipush 59, 2) := fq2_16 (fl_X4_takeCompares_0 (j := 14) rfl rfl) (fl_X4_takeCompares_0 (j := 15) rfl rfl) (s1p rfl (bl rfl))
theorem dX4_takeCompares_16 : decode cX4_takeCompares 16 = .ok (.if_icmp .ne 11, 3) := fq3_160 (fl_X4_takeCompares_0 (j := 16) rfl rfl) (fl_X4_takeCompares_0 (j := 17) rfl rfl) (fl_X4_takeCompares_0 (j := 18) rfl rfl) (s2p rfl (bl rfl))
theorem dX4_takeCompares_19 : decode cX4_takeCompares 19 = .ok (.aload_n 0, 1) := fq1_42 (fl_X4_takeCompares_0 (j := 19) rfl rfl)
theorem dX4_takeCompares_20 : decode cX4_takeCompares 20 = .ok (.iconst 2, 1) := fq1_5 (fl_X4_takeCompares_0 (j := 20) rfl rfl)
theorem dX4_takeCompares_21 : decode cX4_takeCompares 21 = .ok (.invokevirtual 80, 3) := fq3_182 (fl_X4_takeCompares_0 (j := 21) rfl rfl) (fl_X4_takeCompares_0 (j := 22) rfl rfl) (fl_X4_takeCompares_0 (j := 23) rfl rfl) rfl
theorem dX4_takeCompares_24 : decode cX4_takeCompares 24 = .ok (.pop, 1) := fq1_87 (fl_X4_takeCompares_0 (j := 24) rfl rfl)
theorem dX4_takeCompares_25 : decode cX4_takeCompares 25 = .ok (.iconst (-1), 1) := fq1_2 (fl_X4_takeCompares_0 (j := 25) rfl rfl)
theorem dX4_takeCompares_26 : decode cX4_takeCompares 26 = .ok (.ireturn, 1) := fq1_172 (fl_X4_takeCompares_0 (j := 26) rfl rfl)
theorem dX4_takeCompares_27 : decode cX4_takeCompares 27 = .ok (.aload_n 0, 1) := fq1_42 (fl_X4_takeCompares_0 (j := 27) rfl rfl)
theorem dX4_takeCompares_28 : decode cX4_takeCompares 28 = .ok (.invokevirtual 50, 3) := fq3_182 (fl_X4_takeCompares_0 (j := 28) rfl rfl) (fl_X4_takeCompares_0 (j := 29) rfl rfl) (fl_X4_takeCompares_0 (j := 30) rfl rfl) rfl
theorem dX4_takeCompares_31 : decode cX4_takeCompares 31 = .ok (.iload_n 1, 1) := fq1_27 (fl_X4_takeCompares_0 (j := 31) rfl rfl)
theorem dX4_takeCompares_32 : decode cX4_takeCompares 32 = .ok (.ireturn, 1) := fq1_172 (fl_X4_takeCompares_0 (j := 32) rfl rfl)
def fb_X4_takeNumber_0 : List UInt8 := [0x2a, 0xb4, 0x00, 0x41, 0x3e, 0x2a, 0xb4, 0x00, 0x44, 0x05, 0xa0, 0x00, 0x0d, 0x1d, 0x1b, 0xa1, 0x00, 0x08, 0x1d, 0x1c, 0xa4, 0x00, 0x17, 0x2a, 0x2a, 0xb4, 0x00, 0x44, 0x05, 0xa0, 0x00, 0x07, 0x07, 0xa7, 0x00, 0x04, 0x05, 0xb6, 0x00, 0x50, 0x57, 0x02, 0xac, 0x2a, 0xb6, 0x00, 0x32, 0x1d, 0xac]
theorem fl_X4_takeNumber_0 {p j : Nat} {b : UInt8} (e : p = 0 + j) (h : fb_X4_takeNumber_0[j]? = some b) : cX4_takeNumber.data.toList[p]? = some b := fq_l (n := 64) (show (cX4_takeNumber.data.toList.drop 0).take 64 = fb_X4_takeNumber_0 by decide +kernel) e h
theorem dX4_takeNumber_0 : decode cX4_takeNumber 0 = .ok (.aload_n 0, 1) := fq1_42 (fl_X4_takeNumber_0 (j := 0) rfl rfl)
theorem dX4_takeNumber_1 : decode cX4_takeNumber 1 = .ok (.getfield 65, 3) := fq3_180 (fl_X4_takeNumber_0 (j := 1) rfl rfl) (fl_X4_takeNumber_0 (j := 2) rfl rfl) (fl_X4_takeNumber_0 (j := 3) rfl rfl) rfl
theorem dX4_takeNumber_4 : decode cX4_takeNumber 4 = .ok (.istore_n 3, 1) := fq1_62 (fl_X4_takeNumber_0 (j := 4) rfl rfl)
theorem dX4_takeNumber_5 : decode cX4_takeNumber 5 = .ok (.aload_n 0, 1) := fq1_42 (fl_X4_takeNumber_0 (j := 5) rfl rfl)
theorem dX4_takeNumber_6 : decode cX4_takeNumber 6 = .ok (.getfield 68, 3) := fq3_180 (fl_X4_takeNumber_0 (j := 6) rfl rfl) (fl_X4_takeNumber_0 (j := 7) rfl rfl) (fl_X4_takeNumber_0 (j := 8) rfl rfl) rfl
theorem dX4_takeNumber_9 : decode cX4_takeNumber 9 = .ok (.iconst 2, 1) := fq1_5 (fl_X4_takeNumber_0 (j := 9) rfl rfl)
theorem dX4_takeNumber_10 : decode cX4_takeNumber 10 = .ok (.if_icmp .ne 13, 3) := fq3_160 (fl_X4_takeNumber_0 (j := 10) rfl rfl) (fl_X4_takeNumber_0 (j := 11) rfl rfl) (fl_X4_takeNumber_0 (j := 12) rfl rfl) (s2p rfl (bl rfl))
theorem dX4_takeNumber_13 : decode cX4_takeNumber 13 = .ok (.iload_n 3, 1) := fq1_29 (fl_X4_takeNumber_0 (j := 13) rfl rfl)
theorem dX4_takeNumber_14 : decode cX4_takeNumber 14 = .ok (.iload_n 1, 1) := fq1_27 (fl_X4_takeNumber_0 (j := 14) rfl rfl)
theorem dX4_takeNumber_15 : decode cX4_takeNumber 15 = .ok (.if_icmp .lt 8, 3) := fq3_161 (fl_X4_takeNumber_0 (j := 15) rfl rfl) (fl_X4_takeNumber_0 (j := 16) rfl rfl) (fl_X4_takeNumber_0 (j := 17) rfl rfl) (s2p rfl (bl rfl))
theorem dX4_takeNumber_18 : decode cX4_takeNumber 18 = .ok (.iload_n 3, 1) := fq1_29 (fl_X4_takeNumber_0 (j := 18) rfl rfl)
theorem dX4_takeNumber_19 : decode cX4_takeNumber 19 = .ok (.iload_n 2, 1) := fq1_28 (fl_X4_takeNumber_0 (j := 19) rfl rfl)
theorem dX4_takeNumber_20 : decode cX4_takeNumber 20 = .ok (.if_icmp .le 23, 3) := fq3_164 (fl_X4_takeNumber_0 (j := 20) rfl rfl) (fl_X4_takeNumber_0 (j := 21) rfl rfl) (fl_X4_takeNumber_0 (j := 22) rfl rfl) (s2p rfl (bl rfl))
theorem dX4_takeNumber_23 : decode cX4_takeNumber 23 = .ok (.aload_n 0, 1) := fq1_42 (fl_X4_takeNumber_0 (j := 23) rfl rfl)
theorem dX4_takeNumber_24 : decode cX4_takeNumber 24 = .ok (.aload_n 0, 1) := fq1_42 (fl_X4_takeNumber_0 (j := 24) rfl rfl)
theorem dX4_takeNumber_25 : decode cX4_takeNumber 25 = .ok (.getfield 68, 3) := fq3_180 (fl_X4_takeNumber_0 (j := 25) rfl rfl) (fl_X4_takeNumber_0 (j := 26) rfl rfl) (fl_X4_takeNumber_0 (j := 27) rfl rfl) rfl
theorem dX4_takeNumber_28 : decode cX4_takeNumber 28 = .ok (.iconst 2, 1) := fq1_5 (fl_X4_takeNumber_0 (j := 28) rfl rfl)
theorem dX4_takeNumber_29 : decode cX4_takeNumber 29 = .ok (.if_icmp .ne 7, 3) := fq3_160 (fl_X4_takeNumber_0 (j := 29) rfl rfl) (fl_X4_takeNumber_0 (j := 30) rfl rfl) (fl_X4_takeNumber_0 (j := 31) rfl rfl) (s2p rfl (bl rfl))
theorem dX4_takeNumber_32 : decode cX4_takeNumber 32 = .ok (.iconst 4, 1) := fq1_7 (fl_X4_takeNumber_0 (j := 32) rfl rfl)
theorem dX4_takeNumber_33 : decode cX4_takeNumber 33 = .ok (.goto 4, 3) := fq3_167 (fl_X4_takeNumber_0 (j := 33) rfl rfl) (fl_X4_takeNumber_0 (j := 34) rfl rfl) (fl_X4_takeNumber_0 (j := 35) rfl rfl) (s2p rfl (bl rfl))
theorem dX4_takeNumber_36 : decode cX4_takeNumber 36 = .ok (.iconst 2, 1) := fq1_5 (fl_X4_takeNumber_0 (j := 36) rfl rfl)
theorem dX4_takeNumber_37 : decode cX4_takeNumber 37 = .ok (.invokevirtual 80, 3) := fq3_182 (fl_X4_takeNumber_0 (j := 37) rfl rfl) (fl_X4_takeNumber_0 (j := 38) rfl rfl) (fl_X4_takeNumber_0 (j := 39) rfl rfl) rfl
theorem dX4_takeNumber_40 : decode cX4_takeNumber 40 = .ok (.pop, 1) := fq1_87 (fl_X4_takeNumber_0 (j := 40) rfl rfl)
theorem dX4_takeNumber_41 : decode cX4_takeNumber 41 = .ok (.iconst (-1), 1) := fq1_2 (fl_X4_takeNumber_0 (j := 41) rfl rfl)
theorem dX4_takeNumber_42 : decode cX4_takeNumber 42 = .ok (.ireturn, 1) := fq1_172 (fl_X4_takeNumber_0 (j := 42) rfl rfl)
theorem dX4_takeNumber_43 : decode cX4_takeNumber 43 = .ok (.aload_n 0, 1) := fq1_42 (fl_X4_takeNumber_0 (j := 43) rfl rfl)
theorem dX4_takeNumber_44 : decode cX4_takeNumber 44 = .ok (.invokevirtual 50, 3) := fq3_182 (fl_X4_takeNumber_0 (j := 44) rfl rfl) (fl_X4_takeNumber_0 (j := 45) rfl rfl) (fl_X4_takeNumber_0 (j := 46) rfl rfl) rfl
theorem dX4_takeNumber_47 : decode cX4_takeNumber 47 = .ok (.iload_n 3, 1) := fq1_29 (fl_X4_takeNumber_0 (j := 47) rfl rfl)
theorem dX4_takeNumber_48 : decode cX4_takeNumber 48 = .ok (.ireturn, 1) := fq1_172 (fl_X4_takeNumber_0 (j := 48) rfl rfl)
def fb_X4_takeRock_0 : List UInt8 := [0x2a, 0xb6, 0x00, 0x54, 0x99, 0x00, 0x0e, 0x2b, 0x2a, 0xb4, 0x00, 0x3d, 0xb6, 0x00, 0x58, 0xa7, 0x00, 0x04, 0x02, 0x3e, 0x1d, 0x02, 0x9f, 0x00, 0x08, 0x1d, 0x1c, 0xa0, 0x00, 0x23, 0x1d, 0x02, 0xa0, 0x00, 0x07, 0x06, 0xa7, 0x00, 0x04, 0x08, 0x36, 0x04, 0x2a, 0x2a, 0xb6, 0x00, 0x54, 0x99, 0x00, 0x08, 0x15, 0x04, 0xa7, 0x00, 0x04, 0x05, 0xb6, 0x00, 0x50, 0x57, 0x02, 0xac, 0x2a, 0xb6]
theorem fl_X4_takeRock_0 {p j : Nat} {b : UInt8} (e : p = 0 + j) (h : fb_X4_takeRock_0[j]? = some b) : cX4_takeRock.data.toList[p]? = some b := fq_l (n := 64) (show (cX4_takeRock.data.toList.drop 0).take 64 = fb_X4_takeRock_0 by decide +kernel) e h
theorem dX4_takeRock_0 : decode cX4_takeRock 0 = .ok (.aload_n 0, 1) := fq1_42 (fl_X4_takeRock_0 (j := 0) rfl rfl)
theorem dX4_takeRock_1 : decode cX4_takeRock 1 = .ok (.invokevirtual 84, 3) := fq3_182 (fl_X4_takeRock_0 (j := 1) rfl rfl) (fl_X4_takeRock_0 (j := 2) rfl rfl) (fl_X4_takeRock_0 (j := 3) rfl rfl) rfl
theorem dX4_takeRock_4 : decode cX4_takeRock 4 = .ok (.ifCond .eq 14, 3) := fq3_153 (fl_X4_takeRock_0 (j := 4) rfl rfl) (fl_X4_takeRock_0 (j := 5) rfl rfl) (fl_X4_takeRock_0 (j := 6) rfl rfl) (s2p rfl (bl rfl))
theorem dX4_takeRock_7 : decode cX4_takeRock 7 = .ok (.aload_n 1, 1) := fq1_43 (fl_X4_takeRock_0 (j := 7) rfl rfl)
theorem dX4_takeRock_8 : decode cX4_takeRock 8 = .ok (.aload_n 0, 1) := fq1_42 (fl_X4_takeRock_0 (j := 8) rfl rfl)
theorem dX4_takeRock_9 : decode cX4_takeRock 9 = .ok (.getfield 61, 3) := fq3_180 (fl_X4_takeRock_0 (j := 9) rfl rfl) (fl_X4_takeRock_0 (j := 10) rfl rfl) (fl_X4_takeRock_0 (j := 11) rfl rfl) rfl
theorem dX4_takeRock_12 : decode cX4_takeRock 12 = .ok (.invokevirtual 88, 3) := fq3_182 (fl_X4_takeRock_0 (j := 12) rfl rfl) (fl_X4_takeRock_0 (j := 13) rfl rfl) (fl_X4_takeRock_0 (j := 14) rfl rfl) rfl
theorem dX4_takeRock_15 : decode cX4_takeRock 15 = .ok (.goto 4, 3) := fq3_167 (fl_X4_takeRock_0 (j := 15) rfl rfl) (fl_X4_takeRock_0 (j := 16) rfl rfl) (fl_X4_takeRock_0 (j := 17) rfl rfl) (s2p rfl (bl rfl))
theorem dX4_takeRock_18 : decode cX4_takeRock 18 = .ok (.iconst (-1), 1) := fq1_2 (fl_X4_takeRock_0 (j := 18) rfl rfl)
theorem dX4_takeRock_19 : decode cX4_takeRock 19 = .ok (.istore_n 3, 1) := fq1_62 (fl_X4_takeRock_0 (j := 19) rfl rfl)
theorem dX4_takeRock_20 : decode cX4_takeRock 20 = .ok (.iload_n 3, 1) := fq1_29 (fl_X4_takeRock_0 (j := 20) rfl rfl)
theorem dX4_takeRock_21 : decode cX4_takeRock 21 = .ok (.iconst (-1), 1) := fq1_2 (fl_X4_takeRock_0 (j := 21) rfl rfl)
theorem dX4_takeRock_22 : decode cX4_takeRock 22 = .ok (.if_icmp .eq 8, 3) := fq3_159 (fl_X4_takeRock_0 (j := 22) rfl rfl) (fl_X4_takeRock_0 (j := 23) rfl rfl) (fl_X4_takeRock_0 (j := 24) rfl rfl) (s2p rfl (bl rfl))
theorem dX4_takeRock_25 : decode cX4_takeRock 25 = .ok (.iload_n 3, 1) := fq1_29 (fl_X4_takeRock_0 (j := 25) rfl rfl)
theorem dX4_takeRock_26 : decode cX4_takeRock 26 = .ok (.iload_n 2, 1) := fq1_28 (fl_X4_takeRock_0 (j := 26) rfl rfl)
theorem dX4_takeRock_27 : decode cX4_takeRock 27 = .ok (.if_icmp .ne 35, 3) := fq3_160 (fl_X4_takeRock_0 (j := 27) rfl rfl) (fl_X4_takeRock_0 (j := 28) rfl rfl) (fl_X4_takeRock_0 (j := 29) rfl rfl) (s2p rfl (bl rfl))
theorem dX4_takeRock_30 : decode cX4_takeRock 30 = .ok (.iload_n 3, 1) := fq1_29 (fl_X4_takeRock_0 (j := 30) rfl rfl)
theorem dX4_takeRock_31 : decode cX4_takeRock 31 = .ok (.iconst (-1), 1) := fq1_2 (fl_X4_takeRock_0 (j := 31) rfl rfl)
theorem dX4_takeRock_32 : decode cX4_takeRock 32 = .ok (.if_icmp .ne 7, 3) := fq3_160 (fl_X4_takeRock_0 (j := 32) rfl rfl) (fl_X4_takeRock_0 (j := 33) rfl rfl) (fl_X4_takeRock_0 (j := 34) rfl rfl) (s2p rfl (bl rfl))
theorem dX4_takeRock_35 : decode cX4_takeRock 35 = .ok (.iconst 3, 1) := fq1_6 (fl_X4_takeRock_0 (j := 35) rfl rfl)
theorem dX4_takeRock_36 : decode cX4_takeRock 36 = .ok (.goto 4, 3) := fq3_167 (fl_X4_takeRock_0 (j := 36) rfl rfl) (fl_X4_takeRock_0 (j := 37) rfl rfl) (fl_X4_takeRock_0 (j := 38) rfl rfl) (s2p rfl (bl rfl))
theorem dX4_takeRock_39 : decode cX4_takeRock 39 = .ok (.iconst 5, 1) := fq1_8 (fl_X4_takeRock_0 (j := 39) rfl rfl)
theorem dX4_takeRock_40 : decode cX4_takeRock 40 = .ok (.istore 4, 2) := fq2_54 (fl_X4_takeRock_0 (j := 40) rfl rfl) (fl_X4_takeRock_0 (j := 41) rfl rfl) rfl
theorem dX4_takeRock_42 : decode cX4_takeRock 42 = .ok (.aload_n 0, 1) := fq1_42 (fl_X4_takeRock_0 (j := 42) rfl rfl)
theorem dX4_takeRock_43 : decode cX4_takeRock 43 = .ok (.aload_n 0, 1) := fq1_42 (fl_X4_takeRock_0 (j := 43) rfl rfl)
theorem dX4_takeRock_44 : decode cX4_takeRock 44 = .ok (.invokevirtual 84, 3) := fq3_182 (fl_X4_takeRock_0 (j := 44) rfl rfl) (fl_X4_takeRock_0 (j := 45) rfl rfl) (fl_X4_takeRock_0 (j := 46) rfl rfl) rfl
theorem dX4_takeRock_47 : decode cX4_takeRock 47 = .ok (.ifCond .eq 8, 3) := fq3_153 (fl_X4_takeRock_0 (j := 47) rfl rfl) (fl_X4_takeRock_0 (j := 48) rfl rfl) (fl_X4_takeRock_0 (j := 49) rfl rfl) (s2p rfl (bl rfl))
theorem dX4_takeRock_50 : decode cX4_takeRock 50 = .ok (.iload 4, 2) := fq2_21 (fl_X4_takeRock_0 (j := 50) rfl rfl) (fl_X4_takeRock_0 (j := 51) rfl rfl) rfl
theorem dX4_takeRock_52 : decode cX4_takeRock 52 = .ok (.goto 4, 3) := fq3_167 (fl_X4_takeRock_0 (j := 52) rfl rfl) (fl_X4_takeRock_0 (j := 53) rfl rfl) (fl_X4_takeRock_0 (j := 54) rfl rfl) (s2p rfl (bl rfl))
theorem dX4_takeRock_55 : decode cX4_takeRock 55 = .ok (.iconst 2, 1) := fq1_5 (fl_X4_takeRock_0 (j := 55) rfl rfl)
theorem dX4_takeRock_56 : decode cX4_takeRock 56 = .ok (.invokevirtual 80, 3) := fq3_182 (fl_X4_takeRock_0 (j := 56) rfl rfl) (fl_X4_takeRock_0 (j := 57) rfl rfl) (fl_X4_takeRock_0 (j := 58) rfl rfl) rfl
theorem dX4_takeRock_59 : decode cX4_takeRock 59 = .ok (.pop, 1) := fq1_87 (fl_X4_takeRock_0 (j := 59) rfl rfl)
theorem dX4_takeRock_60 : decode cX4_takeRock 60 = .ok (.iconst (-1), 1) := fq1_2 (fl_X4_takeRock_0 (j := 60) rfl rfl)
theorem dX4_takeRock_61 : decode cX4_takeRock 61 = .ok (.ireturn, 1) := fq1_172 (fl_X4_takeRock_0 (j := 61) rfl rfl)
theorem dX4_takeRock_62 : decode cX4_takeRock 62 = .ok (.aload_n 0, 1) := fq1_42 (fl_X4_takeRock_0 (j := 62) rfl rfl)
def fb_X4_takeRock_1 : List UInt8 := [0x00, 0x32, 0x1d, 0xac]
theorem fl_X4_takeRock_1 {p j : Nat} {b : UInt8} (e : p = 64 + j) (h : fb_X4_takeRock_1[j]? = some b) : cX4_takeRock.data.toList[p]? = some b := fq_l (n := 64) (show (cX4_takeRock.data.toList.drop 64).take 64 = fb_X4_takeRock_1 by decide +kernel) e h
theorem dX4_takeRock_63 : decode cX4_takeRock 63 = .ok (.invokevirtual 50, 3) := fq3_182 (fl_X4_takeRock_0 (j := 63) rfl rfl) (fl_X4_takeRock_1 (j := 0) rfl rfl) (fl_X4_takeRock_1 (j := 1) rfl rfl) rfl
theorem dX4_takeRock_66 : decode cX4_takeRock 66 = .ok (.iload_n 3, 1) := fq1_29 (fl_X4_takeRock_1 (j := 2) rfl rfl)
theorem dX4_takeRock_67 : decode cX4_takeRock 67 = .ok (.ireturn, 1) := fq1_172 (fl_X4_takeRock_1 (j := 3) rfl rfl)
def fb_X4_takeSign_0 : List UInt8 := [0x2a, 0xb4, 0x00, 0x44, 0x06, 0xa0, 0x00, 0x0b, 0x2a, 0xb4, 0x00, 0x41, 0x1b, 0x9f, 0x00, 0x09, 0x2a, 0x05, 0xb6, 0x00, 0x50, 0xac, 0x2a, 0xb6, 0x00, 0x32, 0x04, 0xac]
theorem fl_X4_takeSign_0 {p j : Nat} {b : UInt8} (e : p = 0 + j) (h : fb_X4_takeSign_0[j]? = some b) : cX4_takeSign.data.toList[p]? = some b := fq_l (n := 64) (show (cX4_takeSign.data.toList.drop 0).take 64 = fb_X4_takeSign_0 by decide +kernel) e h
theorem dX4_takeSign_0 : decode cX4_takeSign 0 = .ok (.aload_n 0, 1) := fq1_42 (fl_X4_takeSign_0 (j := 0) rfl rfl)
theorem dX4_takeSign_1 : decode cX4_takeSign 1 = .ok (.getfield 68, 3) := fq3_180 (fl_X4_takeSign_0 (j := 1) rfl rfl) (fl_X4_takeSign_0 (j := 2) rfl rfl) (fl_X4_takeSign_0 (j := 3) rfl rfl) rfl
theorem dX4_takeSign_4 : decode cX4_takeSign 4 = .ok (.iconst 3, 1) := fq1_6 (fl_X4_takeSign_0 (j := 4) rfl rfl)
theorem dX4_takeSign_5 : decode cX4_takeSign 5 = .ok (.if_icmp .ne 11, 3) := fq3_160 (fl_X4_takeSign_0 (j := 5) rfl rfl) (fl_X4_takeSign_0 (j := 6) rfl rfl) (fl_X4_takeSign_0 (j := 7) rfl rfl) (s2p rfl (bl rfl))
theorem dX4_takeSign_8 : decode cX4_takeSign 8 = .ok (.aload_n 0, 1) := fq1_42 (fl_X4_takeSign_0 (j := 8) rfl rfl)
theorem dX4_takeSign_9 : decode cX4_takeSign 9 = .ok (.getfield 65, 3) := fq3_180 (fl_X4_takeSign_0 (j := 9) rfl rfl) (fl_X4_takeSign_0 (j := 10) rfl rfl) (fl_X4_takeSign_0 (j := 11) rfl rfl) rfl
theorem dX4_takeSign_12 : decode cX4_takeSign 12 = .ok (.iload_n 1, 1) := fq1_27 (fl_X4_takeSign_0 (j := 12) rfl rfl)
theorem dX4_takeSign_13 : decode cX4_takeSign 13 = .ok (.if_icmp .eq 9, 3) := fq3_159 (fl_X4_takeSign_0 (j := 13) rfl rfl) (fl_X4_takeSign_0 (j := 14) rfl rfl) (fl_X4_takeSign_0 (j := 15) rfl rfl) (s2p rfl (bl rfl))
theorem dX4_takeSign_16 : decode cX4_takeSign 16 = .ok (.aload_n 0, 1) := fq1_42 (fl_X4_takeSign_0 (j := 16) rfl rfl)
theorem dX4_takeSign_17 : decode cX4_takeSign 17 = .ok (.iconst 2, 1) := fq1_5 (fl_X4_takeSign_0 (j := 17) rfl rfl)
theorem dX4_takeSign_18 : decode cX4_takeSign 18 = .ok (.invokevirtual 80, 3) := fq3_182 (fl_X4_takeSign_0 (j := 18) rfl rfl) (fl_X4_takeSign_0 (j := 19) rfl rfl) (fl_X4_takeSign_0 (j := 20) rfl rfl) rfl
theorem dX4_takeSign_21 : decode cX4_takeSign 21 = .ok (.ireturn, 1) := fq1_172 (fl_X4_takeSign_0 (j := 21) rfl rfl)
theorem dX4_takeSign_22 : decode cX4_takeSign 22 = .ok (.aload_n 0, 1) := fq1_42 (fl_X4_takeSign_0 (j := 22) rfl rfl)
theorem dX4_takeSign_23 : decode cX4_takeSign 23 = .ok (.invokevirtual 50, 3) := fq3_182 (fl_X4_takeSign_0 (j := 23) rfl rfl) (fl_X4_takeSign_0 (j := 24) rfl rfl) (fl_X4_takeSign_0 (j := 25) rfl rfl) rfl
theorem dX4_takeSign_26 : decode cX4_takeSign 26 = .ok (.iconst 1, 1) := fq1_4 (fl_X4_takeSign_0 (j := 26) rfl rfl)
theorem dX4_takeSign_27 : decode cX4_takeSign 27 = .ok (.ireturn, 1) := fq1_172 (fl_X4_takeSign_0 (j := 27) rfl rfl)
def fb_X4_takeWord_0 : List UInt8 := [0x2a, 0xb4, 0x00, 0x38, 0x1b, 0x9f, 0x00, 0x09, 0x2a, 0x05, 0xb6, 0x00, 0x50, 0xac, 0x2a, 0xb6, 0x00, 0x32, 0x04, 0xac]
theorem fl_X4_takeWord_0 {p j : Nat} {b : UInt8} (e : p = 0 + j) (h : fb_X4_takeWord_0[j]? = some b) : cX4_takeWord.data.toList[p]? = some b := fq_l (n := 64) (show (cX4_takeWord.data.toList.drop 0).take 64 = fb_X4_takeWord_0 by decide +kernel) e h
theorem dX4_takeWord_0 : decode cX4_takeWord 0 = .ok (.aload_n 0, 1) := fq1_42 (fl_X4_takeWord_0 (j := 0) rfl rfl)
theorem dX4_takeWord_1 : decode cX4_takeWord 1 = .ok (.getfield 56, 3) := fq3_180 (fl_X4_takeWord_0 (j := 1) rfl rfl) (fl_X4_takeWord_0 (j := 2) rfl rfl) (fl_X4_takeWord_0 (j := 3) rfl rfl) rfl
theorem dX4_takeWord_4 : decode cX4_takeWord 4 = .ok (.iload_n 1, 1) := fq1_27 (fl_X4_takeWord_0 (j := 4) rfl rfl)
theorem dX4_takeWord_5 : decode cX4_takeWord 5 = .ok (.if_icmp .eq 9, 3) := fq3_159 (fl_X4_takeWord_0 (j := 5) rfl rfl) (fl_X4_takeWord_0 (j := 6) rfl rfl) (fl_X4_takeWord_0 (j := 7) rfl rfl) (s2p rfl (bl rfl))
theorem dX4_takeWord_8 : decode cX4_takeWord 8 = .ok (.aload_n 0, 1) := fq1_42 (fl_X4_takeWord_0 (j := 8) rfl rfl)
theorem dX4_takeWord_9 : decode cX4_takeWord 9 = .ok (.iconst 2, 1) := fq1_5 (fl_X4_takeWord_0 (j := 9) rfl rfl)
theorem dX4_takeWord_10 : decode cX4_takeWord 10 = .ok (.invokevirtual 80, 3) := fq3_182 (fl_X4_takeWord_0 (j := 10) rfl rfl) (fl_X4_takeWord_0 (j := 11) rfl rfl) (fl_X4_takeWord_0 (j := 12) rfl rfl) rfl
theorem dX4_takeWord_13 : decode cX4_takeWord 13 = .ok (.ireturn, 1) := fq1_172 (fl_X4_takeWord_0 (j := 13) rfl rfl)
theorem dX4_takeWord_14 : decode cX4_takeWord 14 = .ok (.aload_n 0, 1) := fq1_42 (fl_X4_takeWord_0 (j := 14) rfl rfl)
theorem dX4_takeWord_15 : decode cX4_takeWord 15 = .ok (.invokevirtual 50, 3) := fq3_182 (fl_X4_takeWord_0 (j := 15) rfl rfl) (fl_X4_takeWord_0 (j := 16) rfl rfl) (fl_X4_takeWord_0 (j := 17) rfl rfl) rfl
theorem dX4_takeWord_18 : decode cX4_takeWord 18 = .ok (.iconst 1, 1) := fq1_4 (fl_X4_takeWord_0 (j := 18) rfl rfl)
theorem dX4_takeWord_19 : decode cX4_takeWord 19 = .ok (.ireturn, 1) := fq1_172 (fl_X4_takeWord_0 (j := 19) rfl rfl)
end

section
set_option maxHeartbeats 4000000 in
set_option maxRecDepth 100000 in
theorem k_isAtEnd (l : Launch) (D : va_G) (k : Nat → ClassId) (hr1 : Nat) (fs : List Value) (ki : Int) (f6 : fs[6]? = some (.int (iZ ki))) (hki : 0 ≤ ki ∧ ki ≤ 4) : RP l yX4_isAtEnd cX4_isAtEnd 1 (some .boolean) 0 D k [.ref hr1] [(hr1, .inr (4, fs))] (fun z => (z = 1 ∧ ki = 0) ∨ (z = 0 ∧ ¬ ki = 0)) := by
  refine MRP (by decide) (Nat.le_of_ble_eq_true rfl) (fun p e s m below meth c ls hx hb hml hr hlocks hts hown hKK hP hl => ?_)
  have hK := hKK.1
  have hl : lv_has ls 1 [(0, .ref hr1)] := hl
  refine lv_aload_n hx hb dX4_isAtEnd_0 rfl (lv_at hl 0 rfl) ?_
  refine va_get (D := D) (ci := 4) (v := .int (iZ ki)) (C := RX4) (T := TX4) (N := 12) hx hb hts iX4 hown hK hP 0 rfl rfl 6 (bl rfl) (hts _ qf_X4_68) (fun _ h => h) f6 dX4_isAtEnd_1 ?_
  refine lv_if_ne (tgt := 11) hx hb dX4_isAtEnd_4 rfl (fun c_1 => ?_) (fun c_1 => ?_)
  ·
    have c_1 := mt (zeq (x := iZ ki) (y := iZ 0) rfl rfl ⟨by omega, by omega⟩ wn_0).mpr c_1
    refine lv_iconst (v := iZ 0) hx hb dX4_isAtEnd_11 rfl ?_
    exact EPz hx hb hr hlocks (by omega) (by omega) dX4_isAtEnd_12
  ·
    have c_1 := (zeq (x := iZ ki) (y := iZ 0) rfl rfl ⟨by omega, by omega⟩ wn_0).mp c_1
    refine lv_iconst (v := iZ 1) hx hb dX4_isAtEnd_7 rfl ?_
    refine lv_goto (tgt := 12) hx hb dX4_isAtEnd_8 rfl ?_
    exact EPz hx hb hr hlocks (by omega) (by omega) dX4_isAtEnd_12
theorem nm_rg {g : Nat → Int64} {n : Int} {v : Int64} {z : Int} (h : isNm g n v z) : z = -1 ∨ (0 ≤ z ∧ z < n) := by
  rcases h with ⟨h, -⟩ | ⟨h1, h2, -⟩
  · exact Or.inl h
  · exact Or.inr ⟨h1, h2⟩
end
