theorem qf_X1_17 : Cond.fieldLink RX1 17 "SlowWorlds$Life" "world" "LSlowWorlds$World;" ∈ gw := tbt (tb2 (List.mem_of_getElem? (i := 138) rfl)) rfl
theorem iX1 : ∀ w ∈ u_ws RX1 TX1 11, w ∈ gw := by
  intro w hw
  obtain ⟨k, hk, rfl⟩ := List.mem_map.mp hw
  have hk := List.mem_range.mp hk
  match k, hk with
  | 0, _ => exact tbt (tb2 (List.mem_of_getElem? (i := 155) rfl)) rfl
  | 1, _ => exact tbt (tb2 (List.mem_of_getElem? (i := 157) rfl)) rfl
  | 2, _ => exact tbt (tb2 (List.mem_of_getElem? (i := 159) rfl)) rfl
  | 3, _ => exact tbt (tb2 (List.mem_of_getElem? (i := 161) rfl)) rfl
  | 4, _ => exact tbt (tb2 (List.mem_of_getElem? (i := 163) rfl)) rfl
  | 5, _ => exact tbt (tb2 (List.mem_of_getElem? (i := 165) rfl)) rfl
  | 6, _ => exact tbt (tb2 (List.mem_of_getElem? (i := 167) rfl)) rfl
  | 7, _ => exact tbt (tb2 (List.mem_of_getElem? (i := 169) rfl)) rfl
  | 8, _ => exact tbt (tb2 (List.mem_of_getElem? (i := 171) rfl)) rfl
  | 9, _ => exact tbt (tb2 (List.mem_of_getElem? (i := 173) rfl)) rfl
  | 10, _ => exact tbt (tb2 (List.mem_of_getElem? (i := 175) rfl)) rfl
  | (k + 11), hk => exact absurd hk (by omega)
theorem qf_X1_29 : Cond.fieldLink RX1 29 "SlowWorlds$World" "course" "LSlowWorlds$Course;" ∈ gw := tbt (tb1 (List.mem_of_getElem? (i := 172) rfl)) rfl
theorem qf_X1_35 : Cond.fieldLink RX1 35 "SlowWorlds$Course" "week" "I" ∈ gw := tbt (tb1 (List.mem_of_getElem? (i := 104) rfl)) rfl
theorem qf_X1_48 : Cond.fieldLink RX1 48 "SlowWorlds$World" "sky" "LSlowWorlds$Sky;" ∈ gw := tbt (tb1 (List.mem_of_getElem? (i := 170) rfl)) rfl
theorem qf_X1_52 : Cond.fieldLink RX1 52 "SlowWorlds$Sky" "rocks" "I" ∈ gw := tbt (tb1 (List.mem_of_getElem? (i := 54) rfl)) rfl
theorem qc_X0_wornIn : Cond.code yX0_wornIn cX0_wornIn 3 (some .int) ∈ gw := tbt (tb5 (List.mem_of_getElem? (i := 175) rfl)) rfl
theorem qi_yX0_wornIn : Cond.instanceMethod yX0_wornIn ∈ gw := tbt (tb5 (List.mem_of_getElem? (i := 173) rfl)) rfl
theorem qs_X0_wornIn : Cond.selects (yX0_wornIn).cls yX0_wornIn yX0_wornIn ∈ gw := tbt (tb5 (List.mem_of_getElem? (i := 174) rfl)) rfl
theorem ci_X0_wornIn : CIv yX0_wornIn cX0_wornIn 3 (some .int) 2 := ⟨qc_X0_wornIn, qi_yX0_wornIn, qs_X0_wornIn, qz_X0, by decide +kernel⟩
theorem qm_X1_63 : Cond.methodLink RX1 63 yX0_wornIn ∈ gw := tbt (tb5 (List.mem_of_getElem? (i := 172) rfl)) rfl
theorem qf_X1_21 : Cond.fieldLink RX1 21 "SlowWorlds$Life" "rays" "LSlowWorlds$Rays;" ∈ gw := tbt (tb2 (List.mem_of_getElem? (i := 139) rfl)) rfl
theorem qc_X3_seen : Cond.code yX3_seen cX3_seen 10 (some .int) ∈ gw := tbt (tb4 (List.mem_of_getElem? (i := 111) rfl)) rfl
theorem qi_yX3_seen : Cond.instanceMethod yX3_seen ∈ gw := tbt (tb4 (List.mem_of_getElem? (i := 109) rfl)) rfl
theorem qs_X3_seen : Cond.selects (yX3_seen).cls yX3_seen yX3_seen ∈ gw := tbt (tb4 (List.mem_of_getElem? (i := 110) rfl)) rfl
theorem ci_X3_seen : CIv yX3_seen cX3_seen 10 (some .int) 3 := ⟨qc_X3_seen, qi_yX3_seen, qs_X3_seen, qz_X3, by decide +kernel⟩
theorem qm_X1_57 : Cond.methodLink RX1 57 yX3_seen ∈ gw := tbt (tb5 (List.mem_of_getElem? (i := 171) rfl)) rfl
theorem qf_X1_41 : Cond.fieldLink RX1 41 "SlowWorlds$Course" "worn" "[I" ∈ gw := tbt (tb1 (List.mem_of_getElem? (i := 91) rfl)) rfl
theorem qc_X1_wornNext : Cond.code yX1_wornNext cX1_wornNext 8 (some .int) ∈ gw := tbt (tb5 (List.mem_of_getElem? (i := 170) rfl)) rfl
theorem qi_yX1_wornNext : Cond.instanceMethod yX1_wornNext ∈ gw := tbt (tb5 (List.mem_of_getElem? (i := 169) rfl)) rfl
theorem qs_X1_wornNext : Cond.selects (yX1_wornNext).cls yX1_wornNext yX1_wornNext ∈ gw := tb0 (List.mem_of_getElem? (i := 30) rfl) rfl
theorem qz_X1 : Cond.initialized RX1 ∈ gw := tbt (tb1 (List.mem_of_getElem? (i := 15) rfl)) rfl
theorem ci_X1_wornNext : CIv yX1_wornNext cX1_wornNext 8 (some .int) 0 := ⟨qc_X1_wornNext, qi_yX1_wornNext, qs_X1_wornNext, qz_X1, by decide +kernel⟩
theorem qm_X1_44 : Cond.methodLink RX1 44 yX1_wornNext ∈ gw := tbt (tb5 (List.mem_of_getElem? (i := 167) rfl)) rfl
def fb_X1_letPass_0 : List UInt8 := [0x2a, 0xb4, 0x00, 0x11, 0xb4, 0x00, 0x1d, 0x4d, 0x03, 0x3e, 0x1d, 0x1b, 0xa2, 0x00, 0x2e, 0x2c, 0xb4, 0x00, 0x23, 0x11, 0x01, 0x90, 0xa1, 0x00, 0x05, 0x1d, 0xac, 0x2c, 0xb4, 0x00, 0x29, 0x2c, 0xb4, 0x00, 0x23, 0x04, 0x60, 0x2a, 0xb6, 0x00, 0x2c, 0x4f, 0x2c, 0x59, 0xb4, 0x00, 0x23, 0x04, 0x60, 0xb5, 0x00, 0x23, 0x84, 0x03, 0x01, 0xa7, 0xff, 0xd3, 0x1b, 0xac]
theorem fl_X1_letPass_0 {p j : Nat} {b : UInt8} (e : p = 0 + j) (h : fb_X1_letPass_0[j]? = some b) : cX1_letPass.data.toList[p]? = some b := fq_l (n := 64) (show (cX1_letPass.data.toList.drop 0).take 64 = fb_X1_letPass_0 by decide +kernel) e h
theorem dX1_letPass_0 : decode cX1_letPass 0 = .ok (.aload_n 0, 1) := fq1_42 (fl_X1_letPass_0 (j := 0) rfl rfl)
theorem dX1_letPass_1 : decode cX1_letPass 1 = .ok (.getfield 17, 3) := fq3_180 (fl_X1_letPass_0 (j := 1) rfl rfl) (fl_X1_letPass_0 (j := 2) rfl rfl) (fl_X1_letPass_0 (j := 3) rfl rfl) (by decide)
theorem dX1_letPass_4 : decode cX1_letPass 4 = .ok (.getfield 29, 3) := fq3_180 (fl_X1_letPass_0 (j := 4) rfl rfl) (fl_X1_letPass_0 (j := 5) rfl rfl) (fl_X1_letPass_0 (j := 6) rfl rfl) (by decide)
theorem dX1_letPass_7 : decode cX1_letPass 7 = .ok (.astore_n 2, 1) := fq1_77 (fl_X1_letPass_0 (j := 7) rfl rfl)
theorem dX1_letPass_8 : decode cX1_letPass 8 = .ok (.iconst 0, 1) := fq1_3 (fl_X1_letPass_0 (j := 8) rfl rfl)
theorem dX1_letPass_9 : decode cX1_letPass 9 = .ok (.istore_n 3, 1) := fq1_62 (fl_X1_letPass_0 (j := 9) rfl rfl)
theorem dX1_letPass_10 : decode cX1_letPass 10 = .ok (.iload_n 3, 1) := fq1_29 (fl_X1_letPass_0 (j := 10) rfl rfl)
theorem dX1_letPass_11 : decode cX1_letPass 11 = .ok (.iload_n 1, 1) := fq1_27 (fl_X1_letPass_0 (j := 11) rfl rfl)
theorem dX1_letPass_12 : decode cX1_letPass 12 = .ok (.if_icmp .ge 46, 3) := fq3_162 (fl_X1_letPass_0 (j := 12) rfl rfl) (fl_X1_letPass_0 (j := 13) rfl rfl) (fl_X1_letPass_0 (j := 14) rfl rfl) (by decide)
theorem dX1_letPass_15 : decode cX1_letPass 15 = .ok (.aload_n 2, 1) := fq1_44 (fl_X1_letPass_0 (j := 15) rfl rfl)
theorem dX1_letPass_16 : decode cX1_letPass 16 = .ok (.getfield 35, 3) := fq3_180 (fl_X1_letPass_0 (j := 16) rfl rfl) (fl_X1_letPass_0 (j := 17) rfl rfl) (fl_X1_letPass_0 (j := 18) rfl rfl) (by decide)
theorem dX1_letPass_19 : decode cX1_letPass 19 = .ok (.sipush 400, 3) := fq3_17 (fl_X1_letPass_0 (j := 19) rfl rfl) (fl_X1_letPass_0 (j := 20) rfl rfl) (fl_X1_letPass_0 (j := 21) rfl rfl) (by decide)
theorem dX1_letPass_22 : decode cX1_letPass 22 = .ok (.if_icmp .lt 5, 3) := fq3_161 (fl_X1_letPass_0 (j := 22) rfl rfl) (fl_X1_letPass_0 (j := 23) rfl rfl) (fl_X1_letPass_0 (j := 24) rfl rfl) (by decide)
theorem dX1_letPass_25 : decode cX1_letPass 25 = .ok (.iload_n 3, 1) := fq1_29 (fl_X1_letPass_0 (j := 25) rfl rfl)
theorem dX1_letPass_26 : decode cX1_letPass 26 = .ok (.ireturn, 1) := fq1_172 (fl_X1_letPass_0 (j := 26) rfl rfl)
theorem dX1_letPass_27 : decode cX1_letPass 27 = .ok (.aload_n 2, 1) := fq1_44 (fl_X1_letPass_0 (j := 27) rfl rfl)
theorem dX1_letPass_28 : decode cX1_letPass 28 = .ok (.getfield 41, 3) := fq3_180 (fl_X1_letPass_0 (j := 28) rfl rfl) (fl_X1_letPass_0 (j := 29) rfl rfl) (fl_X1_letPass_0 (j := 30) rfl rfl) (by decide)
theorem dX1_letPass_31 : decode cX1_letPass 31 = .ok (.aload_n 2, 1) := fq1_44 (fl_X1_letPass_0 (j := 31) rfl rfl)
theorem dX1_letPass_32 : decode cX1_letPass 32 = .ok (.getfield 35, 3) := fq3_180 (fl_X1_letPass_0 (j := 32) rfl rfl) (fl_X1_letPass_0 (j := 33) rfl rfl) (fl_X1_letPass_0 (j := 34) rfl rfl) (by decide)
theorem dX1_letPass_35 : decode cX1_letPass 35 = .ok (.iconst 1, 1) := fq1_4 (fl_X1_letPass_0 (j := 35) rfl rfl)
theorem dX1_letPass_36 : decode cX1_letPass 36 = .ok (.iadd, 1) := fq1_96 (fl_X1_letPass_0 (j := 36) rfl rfl)
theorem dX1_letPass_37 : decode cX1_letPass 37 = .ok (.aload_n 0, 1) := fq1_42 (fl_X1_letPass_0 (j := 37) rfl rfl)
theorem dX1_letPass_38 : decode cX1_letPass 38 = .ok (.invokevirtual 44, 3) := fq3_182 (fl_X1_letPass_0 (j := 38) rfl rfl) (fl_X1_letPass_0 (j := 39) rfl rfl) (fl_X1_letPass_0 (j := 40) rfl rfl) (by decide)
theorem dX1_letPass_41 : decode cX1_letPass 41 = .ok (.iastore, 1) := fq1_79 (fl_X1_letPass_0 (j := 41) rfl rfl)
theorem dX1_letPass_42 : decode cX1_letPass 42 = .ok (.aload_n 2, 1) := fq1_44 (fl_X1_letPass_0 (j := 42) rfl rfl)
theorem dX1_letPass_43 : decode cX1_letPass 43 = .ok (.dup, 1) := fq1_89 (fl_X1_letPass_0 (j := 43) rfl rfl)
theorem dX1_letPass_44 : decode cX1_letPass 44 = .ok (.getfield 35, 3) := fq3_180 (fl_X1_letPass_0 (j := 44) rfl rfl) (fl_X1_letPass_0 (j := 45) rfl rfl) (fl_X1_letPass_0 (j := 46) rfl rfl) (by decide)
theorem dX1_letPass_47 : decode cX1_letPass 47 = .ok (.iconst 1, 1) := fq1_4 (fl_X1_letPass_0 (j := 47) rfl rfl)
theorem dX1_letPass_48 : decode cX1_letPass 48 = .ok (.iadd, 1) := fq1_96 (fl_X1_letPass_0 (j := 48) rfl rfl)
theorem dX1_letPass_49 : decode cX1_letPass 49 = .ok (.putfield 35, 3) := fq3_181 (fl_X1_letPass_0 (j := 49) rfl rfl) (fl_X1_letPass_0 (j := 50) rfl rfl) (fl_X1_letPass_0 (j := 51) rfl rfl) (by decide)
theorem dX1_letPass_52 : decode cX1_letPass 52 = .ok (.iinc 3 1, 3) := fq3_132 (fl_X1_letPass_0 (j := 52) rfl rfl) (fl_X1_letPass_0 (j := 53) rfl rfl) (fl_X1_letPass_0 (j := 54) rfl rfl) (by decide) (by decide)
theorem dX1_letPass_55 : decode cX1_letPass 55 = .ok (.goto (-45), 3) := fq3_167 (fl_X1_letPass_0 (j := 55) rfl rfl) (fl_X1_letPass_0 (j := 56) rfl rfl) (fl_X1_letPass_0 (j := 57) rfl rfl) (by decide)
theorem dX1_letPass_58 : decode cX1_letPass 58 = .ok (.iload_n 1, 1) := fq1_27 (fl_X1_letPass_0 (j := 58) rfl rfl)
theorem dX1_letPass_59 : decode cX1_letPass 59 = .ok (.ireturn, 1) := fq1_172 (fl_X1_letPass_0 (j := 59) rfl rfl)
def fb_X1_wornNext_0 : List UInt8 := [0x2a, 0xb4, 0x00, 0x11, 0xb4, 0x00, 0x1d, 0x4c, 0x2b, 0xb4, 0x00, 0x23, 0x04, 0x60, 0x3d, 0x03, 0x3e, 0x03, 0x36, 0x04, 0x15, 0x04, 0x2a, 0xb4, 0x00, 0x11, 0xb4, 0x00, 0x30, 0xb4, 0x00, 0x34, 0xa2, 0x00, 0x88, 0x03, 0x36, 0x05, 0x03, 0x36, 0x06, 0x15, 0x06, 0x2a, 0xb4, 0x00, 0x11, 0xb4, 0x00, 0x30, 0xb4, 0x00, 0x34, 0xa2, 0x00, 0x3e, 0x15, 0x06, 0x15, 0x04, 0xa0, 0x00, 0x07, 0x02]
theorem fl_X1_wornNext_0 {p j : Nat} {b : UInt8} (e : p = 0 + j) (h : fb_X1_wornNext_0[j]? = some b) : cX1_wornNext.data.toList[p]? = some b := fq_l (n := 64) (show (cX1_wornNext.data.toList.drop 0).take 64 = fb_X1_wornNext_0 by decide +kernel) e h
theorem dX1_wornNext_0 : decode cX1_wornNext 0 = .ok (.aload_n 0, 1) := fq1_42 (fl_X1_wornNext_0 (j := 0) rfl rfl)
theorem dX1_wornNext_1 : decode cX1_wornNext 1 = .ok (.getfield 17, 3) := fq3_180 (fl_X1_wornNext_0 (j := 1) rfl rfl) (fl_X1_wornNext_0 (j := 2) rfl rfl) (fl_X1_wornNext_0 (j := 3) rfl rfl) (by decide)
theorem dX1_wornNext_4 : decode cX1_wornNext 4 = .ok (.getfield 29, 3) := fq3_180 (fl_X1_wornNext_0 (j := 4) rfl rfl) (fl_X1_wornNext_0 (j := 5) rfl rfl) (fl_X1_wornNext_0 (j := 6) rfl rfl) (by decide)
theorem dX1_wornNext_7 : decode cX1_wornNext 7 = .ok (.astore_n 1, 1) := fq1_76 (fl_X1_wornNext_0 (j := 7) rfl rfl)
theorem dX1_wornNext_8 : decode cX1_wornNext 8 = .ok (.aload_n 1, 1) := fq1_43 (fl_X1_wornNext_0 (j := 8) rfl rfl)
theorem dX1_wornNext_9 : decode cX1_wornNext 9 = .ok (.getfield 35, 3) := fq3_180 (fl_X1_wornNext_0 (j := 9) rfl rfl) (fl_X1_wornNext_0 (j := 10) rfl rfl) (fl_X1_wornNext_0 (j := 11) rfl rfl) (by decide)
theorem dX1_wornNext_12 : decode cX1_wornNext 12 = .ok (.iconst 1, 1) := fq1_4 (fl_X1_wornNext_0 (j := 12) rfl rfl)
theorem dX1_wornNext_13 : decode cX1_wornNext 13 = .ok (.iadd, 1) := fq1_96 (fl_X1_wornNext_0 (j := 13) rfl rfl)
theorem dX1_wornNext_14 : decode cX1_wornNext 14 = .ok (.istore_n 2, 1) := fq1_61 (fl_X1_wornNext_0 (j := 14) rfl rfl)
theorem dX1_wornNext_15 : decode cX1_wornNext 15 = .ok (.iconst 0, 1) := fq1_3 (fl_X1_wornNext_0 (j := 15) rfl rfl)
theorem dX1_wornNext_16 : decode cX1_wornNext 16 = .ok (.istore_n 3, 1) := fq1_62 (fl_X1_wornNext_0 (j := 16) rfl rfl)
theorem dX1_wornNext_17 : decode cX1_wornNext 17 = .ok (.iconst 0, 1) := fq1_3 (fl_X1_wornNext_0 (j := 17) rfl rfl)
theorem dX1_wornNext_18 : decode cX1_wornNext 18 = .ok (.istore 4, 2) := fq2_54 (fl_X1_wornNext_0 (j := 18) rfl rfl) (fl_X1_wornNext_0 (j := 19) rfl rfl) (by decide)
theorem dX1_wornNext_20 : decode cX1_wornNext 20 = .ok (.iload 4, 2) := fq2_21 (fl_X1_wornNext_0 (j := 20) rfl rfl) (fl_X1_wornNext_0 (j := 21) rfl rfl) (by decide)
theorem dX1_wornNext_22 : decode cX1_wornNext 22 = .ok (.aload_n 0, 1) := fq1_42 (fl_X1_wornNext_0 (j := 22) rfl rfl)
theorem dX1_wornNext_23 : decode cX1_wornNext 23 = .ok (.getfield 17, 3) := fq3_180 (fl_X1_wornNext_0 (j := 23) rfl rfl) (fl_X1_wornNext_0 (j := 24) rfl rfl) (fl_X1_wornNext_0 (j := 25) rfl rfl) (by decide)
theorem dX1_wornNext_26 : decode cX1_wornNext 26 = .ok (.getfield 48, 3) := fq3_180 (fl_X1_wornNext_0 (j := 26) rfl rfl) (fl_X1_wornNext_0 (j := 27) rfl rfl) (fl_X1_wornNext_0 (j := 28) rfl rfl) (by decide)
theorem dX1_wornNext_29 : decode cX1_wornNext 29 = .ok (.getfield 52, 3) := fq3_180 (fl_X1_wornNext_0 (j := 29) rfl rfl) (fl_X1_wornNext_0 (j := 30) rfl rfl) (fl_X1_wornNext_0 (j := 31) rfl rfl) (by decide)
theorem dX1_wornNext_32 : decode cX1_wornNext 32 = .ok (.if_icmp .ge 136, 3) := fq3_162 (fl_X1_wornNext_0 (j := 32) rfl rfl) (fl_X1_wornNext_0 (j := 33) rfl rfl) (fl_X1_wornNext_0 (j := 34) rfl rfl) (by decide)
theorem dX1_wornNext_35 : decode cX1_wornNext 35 = .ok (.iconst 0, 1) := fq1_3 (fl_X1_wornNext_0 (j := 35) rfl rfl)
theorem dX1_wornNext_36 : decode cX1_wornNext 36 = .ok (.istore 5, 2) := fq2_54 (fl_X1_wornNext_0 (j := 36) rfl rfl) (fl_X1_wornNext_0 (j := 37) rfl rfl) (by decide)
theorem dX1_wornNext_38 : decode cX1_wornNext 38 = .ok (.iconst 0, 1) := fq1_3 (fl_X1_wornNext_0 (j := 38) rfl rfl)
theorem dX1_wornNext_39 : decode cX1_wornNext 39 = .ok (.istore 6, 2) := fq2_54 (fl_X1_wornNext_0 (j := 39) rfl rfl) (fl_X1_wornNext_0 (j := 40) rfl rfl) (by decide)
theorem dX1_wornNext_41 : decode cX1_wornNext 41 = .ok (.iload 6, 2) := fq2_21 (fl_X1_wornNext_0 (j := 41) rfl rfl) (fl_X1_wornNext_0 (j := 42) rfl rfl) (by decide)
theorem dX1_wornNext_43 : decode cX1_wornNext 43 = .ok (.aload_n 0, 1) := fq1_42 (fl_X1_wornNext_0 (j := 43) rfl rfl)
theorem dX1_wornNext_44 : decode cX1_wornNext 44 = .ok (.getfield 17, 3) := fq3_180 (fl_X1_wornNext_0 (j := 44) rfl rfl) (fl_X1_wornNext_0 (j := 45) rfl rfl) (fl_X1_wornNext_0 (j := 46) rfl rfl) (by decide)
theorem dX1_wornNext_47 : decode cX1_wornNext 47 = .ok (.getfield 48, 3) := fq3_180 (fl_X1_wornNext_0 (j := 47) rfl rfl) (fl_X1_wornNext_0 (j := 48) rfl rfl) (fl_X1_wornNext_0 (j := 49) rfl rfl) (by decide)
theorem dX1_wornNext_50 : decode cX1_wornNext 50 = .ok (.getfield 52, 3) := fq3_180 (fl_X1_wornNext_0 (j := 50) rfl rfl) (fl_X1_wornNext_0 (j := 51) rfl rfl) (fl_X1_wornNext_0 (j := 52) rfl rfl) (by decide)
theorem dX1_wornNext_53 : decode cX1_wornNext 53 = .ok (.if_icmp .ge 62, 3) := fq3_162 (fl_X1_wornNext_0 (j := 53) rfl rfl) (fl_X1_wornNext_0 (j := 54) rfl rfl) (fl_X1_wornNext_0 (j := 55) rfl rfl) (by decide)
theorem dX1_wornNext_56 : decode cX1_wornNext 56 = .ok (.iload 6, 2) := fq2_21 (fl_X1_wornNext_0 (j := 56) rfl rfl) (fl_X1_wornNext_0 (j := 57) rfl rfl) (by decide)
theorem dX1_wornNext_58 : decode cX1_wornNext 58 = .ok (.iload 4, 2) := fq2_21 (fl_X1_wornNext_0 (j := 58) rfl rfl) (fl_X1_wornNext_0 (j := 59) rfl rfl) (by decide)
theorem dX1_wornNext_60 : decode cX1_wornNext 60 = .ok (.if_icmp .ne 7, 3) := fq3_160 (fl_X1_wornNext_0 (j := 60) rfl rfl) (fl_X1_wornNext_0 (j := 61) rfl rfl) (fl_X1_wornNext_0 (j := 62) rfl rfl) (by decide)
theorem dX1_wornNext_63 : decode cX1_wornNext 63 = .ok (.iconst (-1), 1) := fq1_2 (fl_X1_wornNext_0 (j := 63) rfl rfl)
def fb_X1_wornNext_1 : List UInt8 := [0xa7, 0x00, 0x0f, 0x2a, 0xb4, 0x00, 0x15, 0x15, 0x04, 0x15, 0x06, 0x1c, 0xb6, 0x00, 0x39, 0x36, 0x07, 0x15, 0x07, 0x02, 0x9f, 0x00, 0x19, 0x15, 0x05, 0x2b, 0x15, 0x06, 0x15, 0x07, 0xb6, 0x00, 0x3f, 0x04, 0xa0, 0x00, 0x07, 0x04, 0xa7, 0x00, 0x04, 0x02, 0x60, 0x36, 0x05, 0x84, 0x06, 0x01, 0xa7, 0xff, 0xb9, 0x15, 0x05, 0x9d, 0x00, 0x16, 0x15, 0x05, 0x9a, 0x00, 0x15, 0x2b, 0x15, 0x04]
theorem fl_X1_wornNext_1 {p j : Nat} {b : UInt8} (e : p = 64 + j) (h : fb_X1_wornNext_1[j]? = some b) : cX1_wornNext.data.toList[p]? = some b := fq_l (n := 64) (show (cX1_wornNext.data.toList.drop 64).take 64 = fb_X1_wornNext_1 by decide +kernel) e h
theorem dX1_wornNext_64 : decode cX1_wornNext 64 = .ok (.goto 15, 3) := fq3_167 (fl_X1_wornNext_1 (j := 0) rfl rfl) (fl_X1_wornNext_1 (j := 1) rfl rfl) (fl_X1_wornNext_1 (j := 2) rfl rfl) (by decide)
theorem dX1_wornNext_67 : decode cX1_wornNext 67 = .ok (.aload_n 0, 1) := fq1_42 (fl_X1_wornNext_1 (j := 3) rfl rfl)
theorem dX1_wornNext_68 : decode cX1_wornNext 68 = .ok (.getfield 21, 3) := fq3_180 (fl_X1_wornNext_1 (j := 4) rfl rfl) (fl_X1_wornNext_1 (j := 5) rfl rfl) (fl_X1_wornNext_1 (j := 6) rfl rfl) (by decide)
theorem dX1_wornNext_71 : decode cX1_wornNext 71 = .ok (.iload 4, 2) := fq2_21 (fl_X1_wornNext_1 (j := 7) rfl rfl) (fl_X1_wornNext_1 (j := 8) rfl rfl) (by decide)
theorem dX1_wornNext_73 : decode cX1_wornNext 73 = .ok (.iload 6, 2) := fq2_21 (fl_X1_wornNext_1 (j := 9) rfl rfl) (fl_X1_wornNext_1 (j := 10) rfl rfl) (by decide)
theorem dX1_wornNext_75 : decode cX1_wornNext 75 = .ok (.iload_n 2, 1) := fq1_28 (fl_X1_wornNext_1 (j := 11) rfl rfl)
theorem dX1_wornNext_76 : decode cX1_wornNext 76 = .ok (.invokevirtual 57, 3) := fq3_182 (fl_X1_wornNext_1 (j := 12) rfl rfl) (fl_X1_wornNext_1 (j := 13) rfl rfl) (fl_X1_wornNext_1 (j := 14) rfl rfl) (by decide)
theorem dX1_wornNext_79 : decode cX1_wornNext 79 = .ok (.istore 7, 2) := fq2_54 (fl_X1_wornNext_1 (j := 15) rfl rfl) (fl_X1_wornNext_1 (j := 16) rfl rfl) (by decide)
theorem dX1_wornNext_81 : decode cX1_wornNext 81 = .ok (.iload 7, 2) := fq2_21 (fl_X1_wornNext_1 (j := 17) rfl rfl) (fl_X1_wornNext_1 (j := 18) rfl rfl) (by decide)
theorem dX1_wornNext_83 : decode cX1_wornNext 83 = .ok (.iconst (-1), 1) := fq1_2 (fl_X1_wornNext_1 (j := 19) rfl rfl)
theorem dX1_wornNext_84 : decode cX1_wornNext 84 = .ok (.if_icmp .eq 25, 3) := fq3_159 (fl_X1_wornNext_1 (j := 20) rfl rfl) (fl_X1_wornNext_1 (j := 21) rfl rfl) (fl_X1_wornNext_1 (j := 22) rfl rfl) (by decide)
theorem dX1_wornNext_87 : decode cX1_wornNext 87 = .ok (.iload 5, 2) := fq2_21 (fl_X1_wornNext_1 (j := 23) rfl rfl) (fl_X1_wornNext_1 (j := 24) rfl rfl) (by decide)
theorem dX1_wornNext_89 : decode cX1_wornNext 89 = .ok (.aload_n 1, 1) := fq1_43 (fl_X1_wornNext_1 (j := 25) rfl rfl)
theorem dX1_wornNext_90 : decode cX1_wornNext 90 = .ok (.iload 6, 2) := fq2_21 (fl_X1_wornNext_1 (j := 26) rfl rfl) (fl_X1_wornNext_1 (j := 27) rfl rfl) (by decide)
theorem dX1_wornNext_92 : decode cX1_wornNext 92 = .ok (.iload 7, 2) := fq2_21 (fl_X1_wornNext_1 (j := 28) rfl rfl) (fl_X1_wornNext_1 (j := 29) rfl rfl) (by decide)
theorem dX1_wornNext_94 : decode cX1_wornNext 94 = .ok (.invokevirtual 63, 3) := fq3_182 (fl_X1_wornNext_1 (j := 30) rfl rfl) (fl_X1_wornNext_1 (j := 31) rfl rfl) (fl_X1_wornNext_1 (j := 32) rfl rfl) (by decide)
theorem dX1_wornNext_97 : decode cX1_wornNext 97 = .ok (.iconst 1, 1) := fq1_4 (fl_X1_wornNext_1 (j := 33) rfl rfl)
theorem dX1_wornNext_98 : decode cX1_wornNext 98 = .ok (.if_icmp .ne 7, 3) := fq3_160 (fl_X1_wornNext_1 (j := 34) rfl rfl) (fl_X1_wornNext_1 (j := 35) rfl rfl) (fl_X1_wornNext_1 (j := 36) rfl rfl) (by decide)
theorem dX1_wornNext_101 : decode cX1_wornNext 101 = .ok (.iconst 1, 1) := fq1_4 (fl_X1_wornNext_1 (j := 37) rfl rfl)
theorem dX1_wornNext_102 : decode cX1_wornNext 102 = .ok (.goto 4, 3) := fq3_167 (fl_X1_wornNext_1 (j := 38) rfl rfl) (fl_X1_wornNext_1 (j := 39) rfl rfl) (fl_X1_wornNext_1 (j := 40) rfl rfl) (by decide)
theorem dX1_wornNext_105 : decode cX1_wornNext 105 = .ok (.iconst (-1), 1) := fq1_2 (fl_X1_wornNext_1 (j := 41) rfl rfl)
theorem dX1_wornNext_106 : decode cX1_wornNext 106 = .ok (.iadd, 1) := fq1_96 (fl_X1_wornNext_1 (j := 42) rfl rfl)
theorem dX1_wornNext_107 : decode cX1_wornNext 107 = .ok (.istore 5, 2) := fq2_54 (fl_X1_wornNext_1 (j := 43) rfl rfl) (fl_X1_wornNext_1 (j := 44) rfl rfl) (by decide)
theorem dX1_wornNext_109 : decode cX1_wornNext 109 = .ok (.iinc 6 1, 3) := fq3_132 (fl_X1_wornNext_1 (j := 45) rfl rfl) (fl_X1_wornNext_1 (j := 46) rfl rfl) (fl_X1_wornNext_1 (j := 47) rfl rfl) (by decide) (by decide)
theorem dX1_wornNext_112 : decode cX1_wornNext 112 = .ok (.goto (-71), 3) := fq3_167 (fl_X1_wornNext_1 (j := 48) rfl rfl) (fl_X1_wornNext_1 (j := 49) rfl rfl) (fl_X1_wornNext_1 (j := 50) rfl rfl) (by decide)
theorem dX1_wornNext_115 : decode cX1_wornNext 115 = .ok (.iload 5, 2) := fq2_21 (fl_X1_wornNext_1 (j := 51) rfl rfl) (fl_X1_wornNext_1 (j := 52) rfl rfl) (by decide)
theorem dX1_wornNext_117 : decode cX1_wornNext 117 = .ok (.ifCond .gt 22, 3) := fq3_157 (fl_X1_wornNext_1 (j := 53) rfl rfl) (fl_X1_wornNext_1 (j := 54) rfl rfl) (fl_X1_wornNext_1 (j := 55) rfl rfl) (by decide)
theorem dX1_wornNext_120 : decode cX1_wornNext 120 = .ok (.iload 5, 2) := fq2_21 (fl_X1_wornNext_1 (j := 56) rfl rfl) (fl_X1_wornNext_1 (j := 57) rfl rfl) (by decide)
theorem dX1_wornNext_122 : decode cX1_wornNext 122 = .ok (.ifCond .ne 21, 3) := fq3_154 (fl_X1_wornNext_1 (j := 58) rfl rfl) (fl_X1_wornNext_1 (j := 59) rfl rfl) (fl_X1_wornNext_1 (j := 60) rfl rfl) (by decide)
theorem dX1_wornNext_125 : decode cX1_wornNext 125 = .ok (.aload_n 1, 1) := fq1_43 (fl_X1_wornNext_1 (j := 61) rfl rfl)
theorem dX1_wornNext_126 : decode cX1_wornNext 126 = .ok (.iload 4, 2) := fq2_21 (fl_X1_wornNext_1 (j := 62) rfl rfl) (fl_X1_wornNext_1 (j := 63) rfl rfl) (by decide)
def fb_X1_wornNext_2 : List UInt8 := [0x2b, 0xb4, 0x00, 0x23, 0xb6, 0x00, 0x3f, 0x04, 0xa0, 0x00, 0x07, 0x04, 0xa7, 0x00, 0x04, 0x03, 0x36, 0x06, 0x1d, 0x15, 0x06, 0x99, 0x00, 0x0a, 0x04, 0x15, 0x04, 0x78, 0xa7, 0x00, 0x04, 0x03, 0x80, 0x3e, 0x84, 0x04, 0x01, 0xa7, 0xff, 0x6f, 0x1d, 0xac]
theorem fl_X1_wornNext_2 {p j : Nat} {b : UInt8} (e : p = 128 + j) (h : fb_X1_wornNext_2[j]? = some b) : cX1_wornNext.data.toList[p]? = some b := fq_l (n := 64) (show (cX1_wornNext.data.toList.drop 128).take 64 = fb_X1_wornNext_2 by decide +kernel) e h
theorem dX1_wornNext_128 : decode cX1_wornNext 128 = .ok (.aload_n 1, 1) := fq1_43 (fl_X1_wornNext_2 (j := 0) rfl rfl)
theorem dX1_wornNext_129 : decode cX1_wornNext 129 = .ok (.getfield 35, 3) := fq3_180 (fl_X1_wornNext_2 (j := 1) rfl rfl) (fl_X1_wornNext_2 (j := 2) rfl rfl) (fl_X1_wornNext_2 (j := 3) rfl rfl) (by decide)
theorem dX1_wornNext_132 : decode cX1_wornNext 132 = .ok (.invokevirtual 63, 3) := fq3_182 (fl_X1_wornNext_2 (j := 4) rfl rfl) (fl_X1_wornNext_2 (j := 5) rfl rfl) (fl_X1_wornNext_2 (j := 6) rfl rfl) (by decide)
theorem dX1_wornNext_135 : decode cX1_wornNext 135 = .ok (.iconst 1, 1) := fq1_4 (fl_X1_wornNext_2 (j := 7) rfl rfl)
theorem dX1_wornNext_136 : decode cX1_wornNext 136 = .ok (.if_icmp .ne 7, 3) := fq3_160 (fl_X1_wornNext_2 (j := 8) rfl rfl) (fl_X1_wornNext_2 (j := 9) rfl rfl) (fl_X1_wornNext_2 (j := 10) rfl rfl) (by decide)
theorem dX1_wornNext_139 : decode cX1_wornNext 139 = .ok (.iconst 1, 1) := fq1_4 (fl_X1_wornNext_2 (j := 11) rfl rfl)
theorem dX1_wornNext_140 : decode cX1_wornNext 140 = .ok (.goto 4, 3) := fq3_167 (fl_X1_wornNext_2 (j := 12) rfl rfl) (fl_X1_wornNext_2 (j := 13) rfl rfl) (fl_X1_wornNext_2 (j := 14) rfl rfl) (by decide)
theorem dX1_wornNext_143 : decode cX1_wornNext 143 = .ok (.iconst 0, 1) := fq1_3 (fl_X1_wornNext_2 (j := 15) rfl rfl)
theorem dX1_wornNext_144 : decode cX1_wornNext 144 = .ok (.istore 6, 2) := fq2_54 (fl_X1_wornNext_2 (j := 16) rfl rfl) (fl_X1_wornNext_2 (j := 17) rfl rfl) (by decide)
theorem dX1_wornNext_146 : decode cX1_wornNext 146 = .ok (.iload_n 3, 1) := fq1_29 (fl_X1_wornNext_2 (j := 18) rfl rfl)
theorem dX1_wornNext_147 : decode cX1_wornNext 147 = .ok (.iload 6, 2) := fq2_21 (fl_X1_wornNext_2 (j := 19) rfl rfl) (fl_X1_wornNext_2 (j := 20) rfl rfl) (by decide)
theorem dX1_wornNext_149 : decode cX1_wornNext 149 = .ok (.ifCond .eq 10, 3) := fq3_153 (fl_X1_wornNext_2 (j := 21) rfl rfl) (fl_X1_wornNext_2 (j := 22) rfl rfl) (fl_X1_wornNext_2 (j := 23) rfl rfl) (by decide)
theorem dX1_wornNext_152 : decode cX1_wornNext 152 = .ok (.iconst 1, 1) := fq1_4 (fl_X1_wornNext_2 (j := 24) rfl rfl)
theorem dX1_wornNext_153 : decode cX1_wornNext 153 = .ok (.iload 4, 2) := fq2_21 (fl_X1_wornNext_2 (j := 25) rfl rfl) (fl_X1_wornNext_2 (j := 26) rfl rfl) (by decide)
theorem dX1_wornNext_155 : decode cX1_wornNext 155 = .ok (.ishl, 1) := fq1_120 (fl_X1_wornNext_2 (j := 27) rfl rfl)
theorem dX1_wornNext_156 : decode cX1_wornNext 156 = .ok (.goto 4, 3) := fq3_167 (fl_X1_wornNext_2 (j := 28) rfl rfl) (fl_X1_wornNext_2 (j := 29) rfl rfl) (fl_X1_wornNext_2 (j := 30) rfl rfl) (by decide)
theorem dX1_wornNext_159 : decode cX1_wornNext 159 = .ok (.iconst 0, 1) := fq1_3 (fl_X1_wornNext_2 (j := 31) rfl rfl)
theorem dX1_wornNext_160 : decode cX1_wornNext 160 = .ok (.ior, 1) := fq1_128 (fl_X1_wornNext_2 (j := 32) rfl rfl)
theorem dX1_wornNext_161 : decode cX1_wornNext 161 = .ok (.istore_n 3, 1) := fq1_62 (fl_X1_wornNext_2 (j := 33) rfl rfl)
theorem dX1_wornNext_162 : decode cX1_wornNext 162 = .ok (.iinc 4 1, 3) := fq3_132 (fl_X1_wornNext_2 (j := 34) rfl rfl) (fl_X1_wornNext_2 (j := 35) rfl rfl) (fl_X1_wornNext_2 (j := 36) rfl rfl) (by decide) (by decide)
theorem dX1_wornNext_165 : decode cX1_wornNext 165 = .ok (.goto (-145), 3) := fq3_167 (fl_X1_wornNext_2 (j := 37) rfl rfl) (fl_X1_wornNext_2 (j := 38) rfl rfl) (fl_X1_wornNext_2 (j := 39) rfl rfl) (by decide)
theorem dX1_wornNext_168 : decode cX1_wornNext 168 = .ok (.iload_n 3, 1) := fq1_29 (fl_X1_wornNext_2 (j := 40) rfl rfl)
theorem dX1_wornNext_169 : decode cX1_wornNext 169 = .ok (.ireturn, 1) := fq1_172 (fl_X1_wornNext_2 (j := 41) rfl rfl)
