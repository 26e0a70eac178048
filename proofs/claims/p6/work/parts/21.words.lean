theorem qf_X1_17 : Cond.fieldLink RX1 17 "SlowWorlds$Life" "world" "LSlowWorlds$World;" ∈ gw := tbt (tb2 (List.mem_of_getElem? (i := 138) rfl)) rfl
theorem iX1 : ∀ w ∈ u_ws RX1 TX1 11, w ∈ gw := by
  intro w hw
  obtain ⟨k, hk, rfl⟩ := List.mem_map.mp hw
  have hk := List.mem_range.mp hk
  match k, hk with
  | 0, _ => exact tbt (tb2 (List.mem_of_getElem? (i := 155) rfl)) rfl
  | 1, _ => exact tbt (tb2 (List.mem_of_getElem? (i := 157) rfl)) rfl
  | 2, _ => exact tbt (tb2 (List.mem_of_getElem? (i := 159) rfl)) rfl
  | 3, _ => exact tbt (tb2 (List.mem_of_getElem? (i := 161) rfl)) rfl
  | 4, _ => exact tbt (tb2 (List.mem_of_getElem? (i := 163) rfl)) rfl
  | 5, _ => exact tbt (tb2 (List.mem_of_getElem? (i := 165) rfl)) rfl
  | 6, _ => exact tbt (tb2 (List.mem_of_getElem? (i := 167) rfl)) rfl
  | 7, _ => exact tbt (tb2 (List.mem_of_getElem? (i := 169) rfl)) rfl
  | 8, _ => exact tbt (tb2 (List.mem_of_getElem? (i := 171) rfl)) rfl
  | 9, _ => exact tbt (tb2 (List.mem_of_getElem? (i := 173) rfl)) rfl
  | 10, _ => exact tbt (tb2 (List.mem_of_getElem? (i := 175) rfl)) rfl
  | (k + 11), hk => exact absurd hk (by omega)
theorem qf_X1_29 : Cond.fieldLink RX1 29 "SlowWorlds$World" "course" "LSlowWorlds$Course;" ∈ gw := tbt (tb1 (List.mem_of_getElem? (i := 172) rfl)) rfl
theorem qf_X1_35 : Cond.fieldLink RX1 35 "SlowWorlds$Course" "week" "I" ∈ gw := tbt (tb1 (List.mem_of_getElem? (i := 104) rfl)) rfl
theorem qf_X1_48 : Cond.fieldLink RX1 48 "SlowWorlds$World" "sky" "LSlowWorlds$Sky;" ∈ gw := tbt (tb1 (List.mem_of_getElem? (i := 170) rfl)) rfl
theorem qf_X1_52 : Cond.fieldLink RX1 52 "SlowWorlds$Sky" "rocks" "I" ∈ gw := tbt (tb1 (List.mem_of_getElem? (i := 54) rfl)) rfl
theorem qc_X0_wornIn : Cond.code yX0_wornIn cX0_wornIn 3 (some .int) ∈ gw := tbt (tb5 (List.mem_of_getElem? (i := 175) rfl)) rfl
theorem qi_yX0_wornIn : Cond.instanceMethod yX0_wornIn ∈ gw := tbt (tb5 (List.mem_of_getElem? (i := 173) rfl)) rfl
theorem qs_X0_wornIn : Cond.selects (yX0_wornIn).cls yX0_wornIn yX0_wornIn ∈ gw := tbt (tb5 (List.mem_of_getElem? (i := 174) rfl)) rfl
theorem ci_X0_wornIn : CIv yX0_wornIn cX0_wornIn 3 (some .int) 2 := ⟨qc_X0_wornIn, qi_yX0_wornIn, qs_X0_wornIn, qz_X0, by decide +kernel⟩
theorem qm_X1_63 : Cond.methodLink RX1 63 yX0_wornIn ∈ gw := tbt (tb5 (List.mem_of_getElem? (i := 172) rfl)) rfl
theorem qf_X1_21 : Cond.fieldLink RX1 21 "SlowWorlds$Life" "rays" "LSlowWorlds$Rays;" ∈ gw := tbt (tb2 (List.mem_of_getElem? (i := 139) rfl)) rfl
theorem qc_X3_seen : Cond.code yX3_seen cX3_seen 10 (some .int) ∈ gw := tbt (tb4 (List.mem_of_getElem? (i := 111) rfl)) rfl
theorem qi_yX3_seen : Cond.instanceMethod yX3_seen ∈ gw := tbt (tb4 (List.mem_of_getElem? (i := 109) rfl)) rfl
theorem qs_X3_seen : Cond.selects (yX3_seen).cls yX3_seen yX3_seen ∈ gw := tbt (tb4 (List.mem_of_getElem? (i := 110) rfl)) rfl
theorem ci_X3_seen : CIv yX3_seen cX3_seen 10 (some .int) 3 := ⟨qc_X3_seen, qi_yX3_seen, qs_X3_seen, qz_X3, by decide +kernel⟩
theorem qm_X1_57 : Cond.methodLink RX1 57 yX3_seen ∈ gw := tbt (tb5 (List.mem_of_getElem? (i := 171) rfl)) rfl
theorem qf_X1_41 : Cond.fieldLink RX1 41 "SlowWorlds$Course" "worn" "[I" ∈ gw := tbt (tb1 (List.mem_of_getElem? (i := 91) rfl)) rfl
theorem qc_X1_wornNext : Cond.code yX1_wornNext cX1_wornNext 8 (some .int) ∈ gw := tbt (tb5 (List.mem_of_getElem? (i := 170) rfl)) rfl
theorem qi_yX1_wornNext : Cond.instanceMethod yX1_wornNext ∈ gw := tbt (tb5 (List.mem_of_getElem? (i := 169) rfl)) rfl
theorem qs_X1_wornNext : Cond.selects (yX1_wornNext).cls yX1_wornNext yX1_wornNext ∈ gw := tb0 (List.mem_of_getElem? (i := 30) rfl) rfl
theorem qz_X1 : Cond.initialized RX1 ∈ gw := tbt (tb1 (List.mem_of_getElem? (i := 15) rfl)) rfl
theorem ci_X1_wornNext : CIv yX1_wornNext cX1_wornNext 8 (some .int) 0 := ⟨qc_X1_wornNext, qi_yX1_wornNext, qs_X1_wornNext, qz_X1, by decide +kernel⟩
theorem qm_X1_44 : Cond.methodLink RX1 44 yX1_wornNext ∈ gw := tbt (tb5 (List.mem_of_getElem? (i := 167) rfl)) rfl
theorem dX1_letPass_0 : decode cX1_letPass 0 = .ok (.aload_n 0, 1) := by decide +kernel
theorem dX1_letPass_1 : decode cX1_letPass 1 = .ok (.getfield 17, 3) := by decide +kernel
theorem dX1_letPass_4 : decode cX1_letPass 4 = .ok (.getfield 29, 3) := by decide +kernel
theorem dX1_letPass_7 : decode cX1_letPass 7 = .ok (.astore_n 2, 1) := by decide +kernel
theorem dX1_letPass_8 : decode cX1_letPass 8 = .ok (.iconst 0, 1) := by decide +kernel
theorem dX1_letPass_9 : decode cX1_letPass 9 = .ok (.istore_n 3, 1) := by decide +kernel
theorem dX1_letPass_10 : decode cX1_letPass 10 = .ok (.iload_n 3, 1) := by decide +kernel
theorem dX1_letPass_11 : decode cX1_letPass 11 = .ok (.iload_n 1, 1) := by decide +kernel
theorem dX1_letPass_12 : decode cX1_letPass 12 = .ok (.if_icmp .ge 46, 3) := by decide +kernel
theorem dX1_letPass_15 : decode cX1_letPass 15 = .ok (.aload_n 2, 1) := by decide +kernel
theorem dX1_letPass_16 : decode cX1_letPass 16 = .ok (.getfield 35, 3) := by decide +kernel
theorem dX1_letPass_19 : decode cX1_letPass 19 = .ok (.sipush 400, 3) := by decide +kernel
theorem dX1_letPass_22 : decode cX1_letPass 22 = .ok (.if_icmp .lt 5, 3) := by decide +kernel
theorem dX1_letPass_25 : decode cX1_letPass 25 = .ok (.iload_n 3, 1) := by decide +kernel
theorem dX1_letPass_26 : decode cX1_letPass 26 = .ok (.ireturn, 1) := by decide +kernel
theorem dX1_letPass_27 : decode cX1_letPass 27 = .ok (.aload_n 2, 1) := by decide +kernel
theorem dX1_letPass_28 : decode cX1_letPass 28 = .ok (.getfield 41, 3) := by decide +kernel
theorem dX1_letPass_31 : decode cX1_letPass 31 = .ok (.aload_n 2, 1) := by decide +kernel
theorem dX1_letPass_32 : decode cX1_letPass 32 = .ok (.getfield 35, 3) := by decide +kernel
theorem dX1_letPass_35 : decode cX1_letPass 35 = .ok (.iconst 1, 1) := by decide +kernel
theorem dX1_letPass_36 : decode cX1_letPass 36 = .ok (.iadd, 1) := by decide +kernel
theorem dX1_letPass_37 : decode cX1_letPass 37 = .ok (.aload_n 0, 1) := by decide +kernel
theorem dX1_letPass_38 : decode cX1_letPass 38 = .ok (.invokevirtual 44, 3) := by decide +kernel
theorem dX1_letPass_41 : decode cX1_letPass 41 = .ok (.iastore, 1) := by decide +kernel
theorem dX1_letPass_42 : decode cX1_letPass 42 = .ok (.aload_n 2, 1) := by decide +kernel
theorem dX1_letPass_43 : decode cX1_letPass 43 = .ok (.dup, 1) := by decide +kernel
theorem dX1_letPass_44 : decode cX1_letPass 44 = .ok (.getfield 35, 3) := by decide +kernel
theorem dX1_letPass_47 : decode cX1_letPass 47 = .ok (.iconst 1, 1) := by decide +kernel
theorem dX1_letPass_48 : decode cX1_letPass 48 = .ok (.iadd, 1) := by decide +kernel
theorem dX1_letPass_49 : decode cX1_letPass 49 = .ok (.putfield 35, 3) := by decide +kernel
theorem dX1_letPass_52 : decode cX1_letPass 52 = .ok (.iinc 3 1, 3) := by decide +kernel
theorem dX1_letPass_55 : decode cX1_letPass 55 = .ok (.goto (-45), 3) := by decide +kernel
theorem dX1_letPass_58 : decode cX1_letPass 58 = .ok (.iload_n 1, 1) := by decide +kernel
theorem dX1_letPass_59 : decode cX1_letPass 59 = .ok (.ireturn, 1) := by decide +kernel
theorem dX1_wornNext_0 : decode cX1_wornNext 0 = .ok (.aload_n 0, 1) := by decide +kernel
theorem dX1_wornNext_1 : decode cX1_wornNext 1 = .ok (.getfield 17, 3) := by decide +kernel
theorem dX1_wornNext_4 : decode cX1_wornNext 4 = .ok (.getfield 29, 3) := by decide +kernel
theorem dX1_wornNext_7 : decode cX1_wornNext 7 = .ok (.astore_n 1, 1) := by decide +kernel
theorem dX1_wornNext_8 : decode cX1_wornNext 8 = .ok (.aload_n 1, 1) := by decide +kernel
theorem dX1_wornNext_9 : decode cX1_wornNext 9 = .ok (.getfield 35, 3) := by decide +kernel
theorem dX1_wornNext_12 : decode cX1_wornNext 12 = .ok (.iconst 1, 1) := by decide +kernel
theorem dX1_wornNext_13 : decode cX1_wornNext 13 = .ok (.iadd, 1) := by decide +kernel
theorem dX1_wornNext_14 : decode cX1_wornNext 14 = .ok (.istore_n 2, 1) := by decide +kernel
theorem dX1_wornNext_15 : decode cX1_wornNext 15 = .ok (.iconst 0, 1) := by decide +kernel
theorem dX1_wornNext_16 : decode cX1_wornNext 16 = .ok (.istore_n 3, 1) := by decide +kernel
theorem dX1_wornNext_17 : decode cX1_wornNext 17 = .ok (.iconst 0, 1) := by decide +kernel
theorem dX1_wornNext_18 : decode cX1_wornNext 18 = .ok (.istore 4, 2) := by decide +kernel
theorem dX1_wornNext_20 : decode cX1_wornNext 20 = .ok (.iload 4, 2) := by decide +kernel
theorem dX1_wornNext_22 : decode cX1_wornNext 22 = .ok (.aload_n 0, 1) := by decide +kernel
theorem dX1_wornNext_23 : decode cX1_wornNext 23 = .ok (.getfield 17, 3) := by decide +kernel
theorem dX1_wornNext_26 : decode cX1_wornNext 26 = .ok (.getfield 48, 3) := by decide +kernel
theorem dX1_wornNext_29 : decode cX1_wornNext 29 = .ok (.getfield 52, 3) := by decide +kernel
theorem dX1_wornNext_32 : decode cX1_wornNext 32 = .ok (.if_icmp .ge 136, 3) := by decide +kernel
theorem dX1_wornNext_35 : decode cX1_wornNext 35 = .ok (.iconst 0, 1) := by decide +kernel
theorem dX1_wornNext_36 : decode cX1_wornNext 36 = .ok (.istore 5, 2) := by decide +kernel
theorem dX1_wornNext_38 : decode cX1_wornNext 38 = .ok (.iconst 0, 1) := by decide +kernel
theorem dX1_wornNext_39 : decode cX1_wornNext 39 = .ok (.istore 6, 2) := by decide +kernel
theorem dX1_wornNext_41 : decode cX1_wornNext 41 = .ok (.iload 6, 2) := by decide +kernel
theorem dX1_wornNext_43 : decode cX1_wornNext 43 = .ok (.aload_n 0, 1) := by decide +kernel
theorem dX1_wornNext_44 : decode cX1_wornNext 44 = .ok (.getfield 17, 3) := by decide +kernel
theorem dX1_wornNext_47 : decode cX1_wornNext 47 = .ok (.getfield 48, 3) := by decide +kernel
theorem dX1_wornNext_50 : decode cX1_wornNext 50 = .ok (.getfield 52, 3) := by decide +kernel
theorem dX1_wornNext_53 : decode cX1_wornNext 53 = .ok (.if_icmp .ge 62, 3) := by decide +kernel
theorem dX1_wornNext_56 : decode cX1_wornNext 56 = .ok (.iload 6, 2) := by decide +kernel
theorem dX1_wornNext_58 : decode cX1_wornNext 58 = .ok (.iload 4, 2) := by decide +kernel
theorem dX1_wornNext_60 : decode cX1_wornNext 60 = .ok (.if_icmp .ne 7, 3) := by decide +kernel
theorem dX1_wornNext_63 : decode cX1_wornNext 63 = .ok (.iconst (-1), 1) := by decide +kernel
theorem dX1_wornNext_64 : decode cX1_wornNext 64 = .ok (.goto 15, 3) := by decide +kernel
theorem dX1_wornNext_67 : decode cX1_wornNext 67 = .ok (.aload_n 0, 1) := by decide +kernel
theorem dX1_wornNext_68 : decode cX1_wornNext 68 = .ok (.getfield 21, 3) := by decide +kernel
theorem dX1_wornNext_71 : decode cX1_wornNext 71 = .ok (.iload 4, 2) := by decide +kernel
theorem dX1_wornNext_73 : decode cX1_wornNext 73 = .ok (.iload 6, 2) := by decide +kernel
theorem dX1_wornNext_75 : decode cX1_wornNext 75 = .ok (.iload_n 2, 1) := by decide +kernel
theorem dX1_wornNext_76 : decode cX1_wornNext 76 = .ok (.invokevirtual 57, 3) := by decide +kernel
theorem dX1_wornNext_79 : decode cX1_wornNext 79 = .ok (.istore 7, 2) := by decide +kernel
theorem dX1_wornNext_81 : decode cX1_wornNext 81 = .ok (.iload 7, 2) := by decide +kernel
theorem dX1_wornNext_83 : decode cX1_wornNext 83 = .ok (.iconst (-1), 1) := by decide +kernel
theorem dX1_wornNext_84 : decode cX1_wornNext 84 = .ok (.if_icmp .eq 25, 3) := by decide +kernel
theorem dX1_wornNext_87 : decode cX1_wornNext 87 = .ok (.iload 5, 2) := by decide +kernel
theorem dX1_wornNext_89 : decode cX1_wornNext 89 = .ok (.aload_n 1, 1) := by decide +kernel
theorem dX1_wornNext_90 : decode cX1_wornNext 90 = .ok (.iload 6, 2) := by decide +kernel
theorem dX1_wornNext_92 : decode cX1_wornNext 92 = .ok (.iload 7, 2) := by decide +kernel
theorem dX1_wornNext_94 : decode cX1_wornNext 94 = .ok (.invokevirtual 63, 3) := by decide +kernel
theorem dX1_wornNext_97 : decode cX1_wornNext 97 = .ok (.iconst 1, 1) := by decide +kernel
theorem dX1_wornNext_98 : decode cX1_wornNext 98 = .ok (.if_icmp .ne 7, 3) := by decide +kernel
theorem dX1_wornNext_101 : decode cX1_wornNext 101 = .ok (.iconst 1, 1) := by decide +kernel
theorem dX1_wornNext_102 : decode cX1_wornNext 102 = .ok (.goto 4, 3) := by decide +kernel
theorem dX1_wornNext_105 : decode cX1_wornNext 105 = .ok (.iconst (-1), 1) := by decide +kernel
theorem dX1_wornNext_106 : decode cX1_wornNext 106 = .ok (.iadd, 1) := by decide +kernel
theorem dX1_wornNext_107 : decode cX1_wornNext 107 = .ok (.istore 5, 2) := by decide +kernel
theorem dX1_wornNext_109 : decode cX1_wornNext 109 = .ok (.iinc 6 1, 3) := by decide +kernel
theorem dX1_wornNext_112 : decode cX1_wornNext 112 = .ok (.goto (-71), 3) := by decide +kernel
theorem dX1_wornNext_115 : decode cX1_wornNext 115 = .ok (.iload 5, 2) := by decide +kernel
theorem dX1_wornNext_117 : decode cX1_wornNext 117 = .ok (.ifCond .gt 22, 3) := by decide +kernel
theorem dX1_wornNext_120 : decode cX1_wornNext 120 = .ok (.iload 5, 2) := by decide +kernel
theorem dX1_wornNext_122 : decode cX1_wornNext 122 = .ok (.ifCond .ne 21, 3) := by decide +kernel
theorem dX1_wornNext_125 : decode cX1_wornNext 125 = .ok (.aload_n 1, 1) := by decide +kernel
theorem dX1_wornNext_126 : decode cX1_wornNext 126 = .ok (.iload 4, 2) := by decide +kernel
theorem dX1_wornNext_128 : decode cX1_wornNext 128 = .ok (.aload_n 1, 1) := by decide +kernel
theorem dX1_wornNext_129 : decode cX1_wornNext 129 = .ok (.getfield 35, 3) := by decide +kernel
theorem dX1_wornNext_132 : decode cX1_wornNext 132 = .ok (.invokevirtual 63, 3) := by decide +kernel
theorem dX1_wornNext_135 : decode cX1_wornNext 135 = .ok (.iconst 1, 1) := by decide +kernel
theorem dX1_wornNext_136 : decode cX1_wornNext 136 = .ok (.if_icmp .ne 7, 3) := by decide +kernel
theorem dX1_wornNext_139 : decode cX1_wornNext 139 = .ok (.iconst 1, 1) := by decide +kernel
theorem dX1_wornNext_140 : decode cX1_wornNext 140 = .ok (.goto 4, 3) := by decide +kernel
theorem dX1_wornNext_143 : decode cX1_wornNext 143 = .ok (.iconst 0, 1) := by decide +kernel
theorem dX1_wornNext_144 : decode cX1_wornNext 144 = .ok (.istore 6, 2) := by decide +kernel
theorem dX1_wornNext_146 : decode cX1_wornNext 146 = .ok (.iload_n 3, 1) := by decide +kernel
theorem dX1_wornNext_147 : decode cX1_wornNext 147 = .ok (.iload 6, 2) := by decide +kernel
theorem dX1_wornNext_149 : decode cX1_wornNext 149 = .ok (.ifCond .eq 10, 3) := by decide +kernel
theorem dX1_wornNext_152 : decode cX1_wornNext 152 = .ok (.iconst 1, 1) := by decide +kernel
theorem dX1_wornNext_153 : decode cX1_wornNext 153 = .ok (.iload 4, 2) := by decide +kernel
theorem dX1_wornNext_155 : decode cX1_wornNext 155 = .ok (.ishl, 1) := by decide +kernel
theorem dX1_wornNext_156 : decode cX1_wornNext 156 = .ok (.goto 4, 3) := by decide +kernel
theorem dX1_wornNext_159 : decode cX1_wornNext 159 = .ok (.iconst 0, 1) := by decide +kernel
theorem dX1_wornNext_160 : decode cX1_wornNext 160 = .ok (.ior, 1) := by decide +kernel
theorem dX1_wornNext_161 : decode cX1_wornNext 161 = .ok (.istore_n 3, 1) := by decide +kernel
theorem dX1_wornNext_162 : decode cX1_wornNext 162 = .ok (.iinc 4 1, 3) := by decide +kernel
theorem dX1_wornNext_165 : decode cX1_wornNext 165 = .ok (.goto (-145), 3) := by decide +kernel
theorem dX1_wornNext_168 : decode cX1_wornNext 168 = .ok (.iload_n 3, 1) := by decide +kernel
theorem dX1_wornNext_169 : decode cX1_wornNext 169 = .ok (.ireturn, 1) := by decide +kernel
