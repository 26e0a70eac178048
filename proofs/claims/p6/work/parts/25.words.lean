theorem qf_X4_9 : Cond.fieldLink RX4 9 "SlowWorlds$Reader" "text" "[B" ∈ gw := tbt (tb2 (List.mem_of_getElem? (i := 2) rfl)) rfl
theorem iX4 : ∀ w ∈ u_ws RX4 TX4 12, w ∈ gw := by
  intro w hw
  obtain ⟨k, hk, rfl⟩ := List.mem_map.mp hw
  have hk := List.mem_range.mp hk
  match k, hk with
  | 0, _ => exact tbt (tb2 (List.mem_of_getElem? (i := 20) rfl)) rfl
  | 1, _ => exact tbt (tb2 (List.mem_of_getElem? (i := 22) rfl)) rfl
  | 2, _ => exact tbt (tb2 (List.mem_of_getElem? (i := 24) rfl)) rfl
  | 3, _ => exact tbt (tb2 (List.mem_of_getElem? (i := 26) rfl)) rfl
  | 4, _ => exact tbt (tb2 (List.mem_of_getElem? (i := 28) rfl)) rfl
  | 5, _ => exact tbt (tb2 (List.mem_of_getElem? (i := 30) rfl)) rfl
  | 6, _ => exact tbt (tb2 (List.mem_of_getElem? (i := 32) rfl)) rfl
  | 7, _ => exact tbt (tb2 (List.mem_of_getElem? (i := 34) rfl)) rfl
  | 8, _ => exact tbt (tb2 (List.mem_of_getElem? (i := 36) rfl)) rfl
  | 9, _ => exact tbt (tb2 (List.mem_of_getElem? (i := 38) rfl)) rfl
  | 10, _ => exact tbt (tb2 (List.mem_of_getElem? (i := 40) rfl)) rfl
  | 11, _ => exact tbt (tb2 (List.mem_of_getElem? (i := 42) rfl)) rfl
  | (k + 12), hk => exact absurd hk (by omega)
theorem qf_X4_47 : Cond.fieldLink RX4 47 "SlowWorlds$Reader" "end" "I" ∈ gw := tbt (tb2 (List.mem_of_getElem? (i := 8) rfl)) rfl
theorem qf_X4_68 : Cond.fieldLink RX4 68 "SlowWorlds$Reader" "kind" "I" ∈ gw := tbt (tb2 (List.mem_of_getElem? (i := 9) rfl)) rfl
theorem qf_X4_65 : Cond.fieldLink RX4 65 "SlowWorlds$Reader" "value" "I" ∈ gw := tbt (tb2 (List.mem_of_getElem? (i := 10) rfl)) rfl
theorem qf_X4_45 : Cond.fieldLink RX4 45 "SlowWorlds$Reader" "length" "I" ∈ gw := tbt (tb2 (List.mem_of_getElem? (i := 6) rfl)) rfl
theorem qf_X4_53 : Cond.fieldLink RX4 53 "SlowWorlds$Reader" "place" "I" ∈ gw := tbt (tb2 (List.mem_of_getElem? (i := 7) rfl)) rfl
theorem qf_X4_61 : Cond.fieldLink RX4 61 "SlowWorlds$Reader" "name" "J" ∈ gw := tbt (tb2 (List.mem_of_getElem? (i := 15) rfl)) rfl
theorem qf_X4_15 : Cond.fieldLink RX4 15 "SlowWorlds$Reader" "keywords" "[J" ∈ gw := tbt (tb2 (List.mem_of_getElem? (i := 3) rfl)) rfl
theorem qf_X4_56 : Cond.fieldLink RX4 56 "SlowWorlds$Reader" "keyword" "I" ∈ gw := tbt (tb2 (List.mem_of_getElem? (i := 13) rfl)) rfl
theorem qk_X4_59 : Cond.constantLong RX4 59 (-1) ∈ gw := tbt (tb3 (List.mem_of_getElem? (i := 97) rfl)) rfl
theorem qk_X4_38 : Cond.constantLong RX4 38 (32) ∈ gw := tbt (tb2 (List.mem_of_getElem? (i := 0) rfl)) rfl
theorem qk_X4_40 : Cond.constantLong RX4 40 (97) ∈ gw := tbt (tb2 (List.mem_of_getElem? (i := 1) rfl)) rfl
theorem qc_X4_readSign : Cond.code yX4_readSign cX4_readSign 2 none ∈ gw := tbt (tb3 (List.mem_of_getElem? (i := 109) rfl)) rfl
theorem qi_yX4_readSign : Cond.instanceMethod yX4_readSign ∈ gw := tbt (tb3 (List.mem_of_getElem? (i := 108) rfl)) rfl
theorem qs_X4_readSign : Cond.selects (yX4_readSign).cls yX4_readSign yX4_readSign ∈ gw := tb0 (List.mem_of_getElem? (i := 6) rfl) rfl
theorem qz_X4 : Cond.initialized RX4 ∈ gw := tbt (tb1 (List.mem_of_getElem? (i := 6) rfl)) rfl
theorem ci_X4_readSign : CIv yX4_readSign cX4_readSign 2 none 0 := ⟨qc_X4_readSign, qi_yX4_readSign, qs_X4_readSign, qz_X4, by decide +kernel⟩
theorem qm_X4_77 : Cond.methodLink RX4 77 yX4_readSign ∈ gw := tbt (tb3 (List.mem_of_getElem? (i := 106) rfl)) rfl
theorem qc_X4_readNumber : Cond.code yX4_readNumber cX4_readNumber 2 none ∈ gw := tbt (tb3 (List.mem_of_getElem? (i := 105) rfl)) rfl
theorem qi_yX4_readNumber : Cond.instanceMethod yX4_readNumber ∈ gw := tbt (tb3 (List.mem_of_getElem? (i := 104) rfl)) rfl
theorem qs_X4_readNumber : Cond.selects (yX4_readNumber).cls yX4_readNumber yX4_readNumber ∈ gw := tb0 (List.mem_of_getElem? (i := 5) rfl) rfl
theorem ci_X4_readNumber : CIv yX4_readNumber cX4_readNumber 2 none 0 := ⟨qc_X4_readNumber, qi_yX4_readNumber, qs_X4_readNumber, qz_X4, by decide +kernel⟩
theorem qm_X4_74 : Cond.methodLink RX4 74 yX4_readNumber ∈ gw := tbt (tb3 (List.mem_of_getElem? (i := 102) rfl)) rfl
theorem qc_X4_readWord : Cond.code yX4_readWord cX4_readWord 4 none ∈ gw := tbt (tb3 (List.mem_of_getElem? (i := 101) rfl)) rfl
theorem qi_yX4_readWord : Cond.instanceMethod yX4_readWord ∈ gw := tbt (tb3 (List.mem_of_getElem? (i := 100) rfl)) rfl
theorem qs_X4_readWord : Cond.selects (yX4_readWord).cls yX4_readWord yX4_readWord ∈ gw := tb0 (List.mem_of_getElem? (i := 4) rfl) rfl
theorem ci_X4_readWord : CIv yX4_readWord cX4_readWord 4 none 0 := ⟨qc_X4_readWord, qi_yX4_readWord, qs_X4_readWord, qz_X4, by decide +kernel⟩
theorem qm_X4_71 : Cond.methodLink RX4 71 yX4_readWord ∈ gw := tbt (tb3 (List.mem_of_getElem? (i := 98) rfl)) rfl
theorem dX4_next_0 : decode cX4_next 0 = .ok (.aload_n 0, 1) := by decide +kernel
theorem dX4_next_1 : decode cX4_next 1 = .ok (.getfield 47, 3) := by decide +kernel
theorem dX4_next_4 : decode cX4_next 4 = .ok (.aload_n 0, 1) := by decide +kernel
theorem dX4_next_5 : decode cX4_next 5 = .ok (.getfield 45, 3) := by decide +kernel
theorem dX4_next_8 : decode cX4_next 8 = .ok (.if_icmp .ge 44, 3) := by decide +kernel
theorem dX4_next_11 : decode cX4_next 11 = .ok (.aload_n 0, 1) := by decide +kernel
theorem dX4_next_12 : decode cX4_next 12 = .ok (.getfield 9, 3) := by decide +kernel
theorem dX4_next_15 : decode cX4_next 15 = .ok (.aload_n 0, 1) := by decide +kernel
theorem dX4_next_16 : decode cX4_next 16 = .ok (.getfield 47, 3) := by decide +kernel
theorem dX4_next_19 : decode cX4_next 19 = .ok (.baload, 1) := by decide +kernel
theorem dX4_next_20 : decode cX4_next 20 = .ok (.bipush 10, 2) := by decide +kernel
theorem dX4_next_22 : decode cX4_next 22 = .ok (.if_icmp .eq 17, 3) := by decide +kernel
theorem dX4_next_25 : decode cX4_next 25 = .ok (.aload_n 0, 1) := by decide +kernel
theorem dX4_next_26 : decode cX4_next 26 = .ok (.getfield 9, 3) := by decide +kernel
theorem dX4_next_29 : decode cX4_next 29 = .ok (.aload_n 0, 1) := by decide +kernel
theorem dX4_next_30 : decode cX4_next 30 = .ok (.getfield 47, 3) := by decide +kernel
theorem dX4_next_33 : decode cX4_next 33 = .ok (.baload, 1) := by decide +kernel
theorem dX4_next_34 : decode cX4_next 34 = .ok (.bipush 32, 2) := by decide +kernel
theorem dX4_next_36 : decode cX4_next 36 = .ok (.if_icmp .ne 16, 3) := by decide +kernel
theorem dX4_next_39 : decode cX4_next 39 = .ok (.aload_n 0, 1) := by decide +kernel
theorem dX4_next_40 : decode cX4_next 40 = .ok (.dup, 1) := by decide +kernel
theorem dX4_next_41 : decode cX4_next 41 = .ok (.getfield 47, 3) := by decide +kernel
theorem dX4_next_44 : decode cX4_next 44 = .ok (.iconst 1, 1) := by decide +kernel
theorem dX4_next_45 : decode cX4_next 45 = .ok (.iadd, 1) := by decide +kernel
theorem dX4_next_46 : decode cX4_next 46 = .ok (.putfield 47, 3) := by decide +kernel
theorem dX4_next_49 : decode cX4_next 49 = .ok (.goto (-49), 3) := by decide +kernel
theorem dX4_next_52 : decode cX4_next 52 = .ok (.aload_n 0, 1) := by decide +kernel
theorem dX4_next_53 : decode cX4_next 53 = .ok (.aload_n 0, 1) := by decide +kernel
theorem dX4_next_54 : decode cX4_next 54 = .ok (.getfield 47, 3) := by decide +kernel
theorem dX4_next_57 : decode cX4_next 57 = .ok (.putfield 53, 3) := by decide +kernel
theorem dX4_next_60 : decode cX4_next 60 = .ok (.aload_n 0, 1) := by decide +kernel
theorem dX4_next_61 : decode cX4_next 61 = .ok (.iconst (-1), 1) := by decide +kernel
theorem dX4_next_62 : decode cX4_next 62 = .ok (.putfield 56, 3) := by decide +kernel
theorem dX4_next_65 : decode cX4_next 65 = .ok (.aload_n 0, 1) := by decide +kernel
theorem dX4_next_66 : decode cX4_next 66 = .ok (.ldc2_w 59, 3) := by decide +kernel
theorem dX4_next_69 : decode cX4_next 69 = .ok (.putfield 61, 3) := by decide +kernel
theorem dX4_next_72 : decode cX4_next 72 = .ok (.aload_n 0, 1) := by decide +kernel
theorem dX4_next_73 : decode cX4_next 73 = .ok (.iconst (-1), 1) := by decide +kernel
theorem dX4_next_74 : decode cX4_next 74 = .ok (.putfield 65, 3) := by decide +kernel
theorem dX4_next_77 : decode cX4_next 77 = .ok (.aload_n 0, 1) := by decide +kernel
theorem dX4_next_78 : decode cX4_next 78 = .ok (.getfield 47, 3) := by decide +kernel
theorem dX4_next_81 : decode cX4_next 81 = .ok (.aload_n 0, 1) := by decide +kernel
theorem dX4_next_82 : decode cX4_next 82 = .ok (.getfield 45, 3) := by decide +kernel
theorem dX4_next_85 : decode cX4_next 85 = .ok (.if_icmp .lt 11, 3) := by decide +kernel
theorem dX4_next_88 : decode cX4_next 88 = .ok (.aload_n 0, 1) := by decide +kernel
theorem dX4_next_89 : decode cX4_next 89 = .ok (.iconst 0, 1) := by decide +kernel
theorem dX4_next_90 : decode cX4_next 90 = .ok (.putfield 68, 3) := by decide +kernel
theorem dX4_next_93 : decode cX4_next 93 = .ok (.goto 77, 3) := by decide +kernel
theorem dX4_next_96 : decode cX4_next 96 = .ok (.aload_n 0, 1) := by decide +kernel
theorem dX4_next_97 : decode cX4_next 97 = .ok (.getfield 9, 3) := by decide +kernel
theorem dX4_next_100 : decode cX4_next 100 = .ok (.aload_n 0, 1) := by decide +kernel
theorem dX4_next_101 : decode cX4_next 101 = .ok (.getfield 47, 3) := by decide +kernel
theorem dX4_next_104 : decode cX4_next 104 = .ok (.baload, 1) := by decide +kernel
theorem dX4_next_105 : decode cX4_next 105 = .ok (.bipush 97, 2) := by decide +kernel
theorem dX4_next_107 : decode cX4_next 107 = .ok (.if_icmp .lt 24, 3) := by decide +kernel
theorem dX4_next_110 : decode cX4_next 110 = .ok (.aload_n 0, 1) := by decide +kernel
theorem dX4_next_111 : decode cX4_next 111 = .ok (.getfield 9, 3) := by decide +kernel
theorem dX4_next_114 : decode cX4_next 114 = .ok (.aload_n 0, 1) := by decide +kernel
theorem dX4_next_115 : decode cX4_next 115 = .ok (.getfield 47, 3) := by decide +kernel
theorem dX4_next_118 : decode cX4_next 118 = .ok (.baload, 1) := by decide +kernel
theorem dX4_next_119 : decode cX4_next 119 = .ok (.bipush 122, 2) := by decide +kernel
theorem dX4_next_121 : decode cX4_next 121 = .ok (.if_icmp .gt 10, 3) := by decide +kernel
theorem dX4_next_124 : decode cX4_next 124 = .ok (.aload_n 0, 1) := by decide +kernel
theorem dX4_next_125 : decode cX4_next 125 = .ok (.invokevirtual 71, 3) := by decide +kernel
theorem dX4_next_128 : decode cX4_next 128 = .ok (.goto 42, 3) := by decide +kernel
theorem dX4_next_131 : decode cX4_next 131 = .ok (.aload_n 0, 1) := by decide +kernel
theorem dX4_next_132 : decode cX4_next 132 = .ok (.getfield 9, 3) := by decide +kernel
theorem dX4_next_135 : decode cX4_next 135 = .ok (.aload_n 0, 1) := by decide +kernel
theorem dX4_next_136 : decode cX4_next 136 = .ok (.getfield 47, 3) := by decide +kernel
theorem dX4_next_139 : decode cX4_next 139 = .ok (.baload, 1) := by decide +kernel
theorem dX4_next_140 : decode cX4_next 140 = .ok (.bipush 48, 2) := by decide +kernel
theorem dX4_next_142 : decode cX4_next 142 = .ok (.if_icmp .lt 24, 3) := by decide +kernel
theorem dX4_next_145 : decode cX4_next 145 = .ok (.aload_n 0, 1) := by decide +kernel
theorem dX4_next_146 : decode cX4_next 146 = .ok (.getfield 9, 3) := by decide +kernel
theorem dX4_next_149 : decode cX4_next 149 = .ok (.aload_n 0, 1) := by decide +kernel
theorem dX4_next_150 : decode cX4_next 150 = .ok (.getfield 47, 3) := by decide +kernel
theorem dX4_next_153 : decode cX4_next 153 = .ok (.baload, 1) := by decide +kernel
theorem dX4_next_154 : decode cX4_next 154 = .ok (.bipush 57, 2) := by decide +kernel
theorem dX4_next_156 : decode cX4_next 156 = .ok (.if_icmp .gt 10, 3) := by decide +kernel
theorem dX4_next_159 : decode cX4_next 159 = .ok (.aload_n 0, 1) := by decide +kernel
theorem dX4_next_160 : decode cX4_next 160 = .ok (.invokevirtual 74, 3) := by decide +kernel
theorem dX4_next_163 : decode cX4_next 163 = .ok (.goto 7, 3) := by decide +kernel
theorem dX4_next_166 : decode cX4_next 166 = .ok (.aload_n 0, 1) := by decide +kernel
theorem dX4_next_167 : decode cX4_next 167 = .ok (.invokevirtual 77, 3) := by decide +kernel
theorem dX4_next_170 : decode cX4_next 170 = .ok (.return_, 1) := by decide +kernel
theorem dX4_readNumber_0 : decode cX4_readNumber 0 = .ok (.iconst 0, 1) := by decide +kernel
theorem dX4_readNumber_1 : decode cX4_readNumber 1 = .ok (.istore_n 1, 1) := by decide +kernel
theorem dX4_readNumber_2 : decode cX4_readNumber 2 = .ok (.aload_n 0, 1) := by decide +kernel
theorem dX4_readNumber_3 : decode cX4_readNumber 3 = .ok (.getfield 47, 3) := by decide +kernel
theorem dX4_readNumber_6 : decode cX4_readNumber 6 = .ok (.aload_n 0, 1) := by decide +kernel
theorem dX4_readNumber_7 : decode cX4_readNumber 7 = .ok (.getfield 45, 3) := by decide +kernel
theorem dX4_readNumber_10 : decode cX4_readNumber 10 = .ok (.if_icmp .ge 79, 3) := by decide +kernel
theorem dX4_readNumber_13 : decode cX4_readNumber 13 = .ok (.aload_n 0, 1) := by decide +kernel
theorem dX4_readNumber_14 : decode cX4_readNumber 14 = .ok (.getfield 9, 3) := by decide +kernel
theorem dX4_readNumber_17 : decode cX4_readNumber 17 = .ok (.aload_n 0, 1) := by decide +kernel
theorem dX4_readNumber_18 : decode cX4_readNumber 18 = .ok (.getfield 47, 3) := by decide +kernel
theorem dX4_readNumber_21 : decode cX4_readNumber 21 = .ok (.baload, 1) := by decide +kernel
theorem dX4_readNumber_22 : decode cX4_readNumber 22 = .ok (.bipush 48, 2) := by decide +kernel
theorem dX4_readNumber_24 : decode cX4_readNumber 24 = .ok (.if_icmp .lt 65, 3) := by decide +kernel
theorem dX4_readNumber_27 : decode cX4_readNumber 27 = .ok (.aload_n 0, 1) := by decide +kernel
theorem dX4_readNumber_28 : decode cX4_readNumber 28 = .ok (.getfield 9, 3) := by decide +kernel
theorem dX4_readNumber_31 : decode cX4_readNumber 31 = .ok (.aload_n 0, 1) := by decide +kernel
theorem dX4_readNumber_32 : decode cX4_readNumber 32 = .ok (.getfield 47, 3) := by decide +kernel
theorem dX4_readNumber_35 : decode cX4_readNumber 35 = .ok (.baload, 1) := by decide +kernel
theorem dX4_readNumber_36 : decode cX4_readNumber 36 = .ok (.bipush 57, 2) := by decide +kernel
theorem dX4_readNumber_38 : decode cX4_readNumber 38 = .ok (.if_icmp .gt 51, 3) := by decide +kernel
theorem dX4_readNumber_41 : decode cX4_readNumber 41 = .ok (.aload_n 0, 1) := by decide +kernel
theorem dX4_readNumber_42 : decode cX4_readNumber 42 = .ok (.getfield 47, 3) := by decide +kernel
theorem dX4_readNumber_45 : decode cX4_readNumber 45 = .ok (.aload_n 0, 1) := by decide +kernel
theorem dX4_readNumber_46 : decode cX4_readNumber 46 = .ok (.getfield 53, 3) := by decide +kernel
theorem dX4_readNumber_49 : decode cX4_readNumber 49 = .ok (.isub, 1) := by decide +kernel
theorem dX4_readNumber_50 : decode cX4_readNumber 50 = .ok (.iconst 4, 1) := by decide +kernel
theorem dX4_readNumber_51 : decode cX4_readNumber 51 = .ok (.if_icmp .ge 23, 3) := by decide +kernel
theorem dX4_readNumber_54 : decode cX4_readNumber 54 = .ok (.iload_n 1, 1) := by decide +kernel
theorem dX4_readNumber_55 : decode cX4_readNumber 55 = .ok (.bipush 10, 2) := by decide +kernel
theorem dX4_readNumber_57 : decode cX4_readNumber 57 = .ok (.imul, 1) := by decide +kernel
theorem dX4_readNumber_58 : decode cX4_readNumber 58 = .ok (.aload_n 0, 1) := by decide +kernel
theorem dX4_readNumber_59 : decode cX4_readNumber 59 = .ok (.getfield 9, 3) := by decide +kernel
theorem dX4_readNumber_62 : decode cX4_readNumber 62 = .ok (.aload_n 0, 1) := by decide +kernel
theorem dX4_readNumber_63 : decode cX4_readNumber 63 = .ok (.getfield 47, 3) := by decide +kernel
theorem dX4_readNumber_66 : decode cX4_readNumber 66 = .ok (.baload, 1) := by decide +kernel
theorem dX4_readNumber_67 : decode cX4_readNumber 67 = .ok (.iadd, 1) := by decide +kernel
theorem dX4_readNumber_68 : decode cX4_readNumber 68 = .ok (.bipush 48, 2) := by decide +kernel
theorem dX4_readNumber_70 : decode cX4_readNumber 70 = .ok (.isub, 1) := by decide +kernel
theorem dX4_readNumber_71 : decode cX4_readNumber 71 = .ok (.goto 4, 3) := by decide +kernel
theorem dX4_readNumber_74 : decode cX4_readNumber 74 = .ok (.iload_n 1, 1) := by decide +kernel
theorem dX4_readNumber_75 : decode cX4_readNumber 75 = .ok (.istore_n 1, 1) := by decide +kernel
theorem dX4_readNumber_76 : decode cX4_readNumber 76 = .ok (.aload_n 0, 1) := by decide +kernel
theorem dX4_readNumber_77 : decode cX4_readNumber 77 = .ok (.dup, 1) := by decide +kernel
theorem dX4_readNumber_78 : decode cX4_readNumber 78 = .ok (.getfield 47, 3) := by decide +kernel
theorem dX4_readNumber_81 : decode cX4_readNumber 81 = .ok (.iconst 1, 1) := by decide +kernel
theorem dX4_readNumber_82 : decode cX4_readNumber 82 = .ok (.iadd, 1) := by decide +kernel
theorem dX4_readNumber_83 : decode cX4_readNumber 83 = .ok (.putfield 47, 3) := by decide +kernel
theorem dX4_readNumber_86 : decode cX4_readNumber 86 = .ok (.goto (-84), 3) := by decide +kernel
theorem dX4_readNumber_89 : decode cX4_readNumber 89 = .ok (.aload_n 0, 1) := by decide +kernel
theorem dX4_readNumber_90 : decode cX4_readNumber 90 = .ok (.aload_n 0, 1) := by decide +kernel
theorem dX4_readNumber_91 : decode cX4_readNumber 91 = .ok (.getfield 47, 3) := by decide +kernel
theorem dX4_readNumber_94 : decode cX4_readNumber 94 = .ok (.aload_n 0, 1) := by decide +kernel
theorem dX4_readNumber_95 : decode cX4_readNumber 95 = .ok (.getfield 53, 3) := by decide +kernel
theorem dX4_readNumber_98 : decode cX4_readNumber 98 = .ok (.isub, 1) := by decide +kernel
theorem dX4_readNumber_99 : decode cX4_readNumber 99 = .ok (.iconst 4, 1) := by decide +kernel
theorem dX4_readNumber_100 : decode cX4_readNumber 100 = .ok (.if_icmp .le 7, 3) := by decide +kernel
theorem dX4_readNumber_103 : decode cX4_readNumber 103 = .ok (.iconst 4, 1) := by decide +kernel
theorem dX4_readNumber_104 : decode cX4_readNumber 104 = .ok (.goto 4, 3) := by decide +kernel
theorem dX4_readNumber_107 : decode cX4_readNumber 107 = .ok (.iconst 2, 1) := by decide +kernel
theorem dX4_readNumber_108 : decode cX4_readNumber 108 = .ok (.putfield 68, 3) := by decide +kernel
theorem dX4_readNumber_111 : decode cX4_readNumber 111 = .ok (.aload_n 0, 1) := by decide +kernel
theorem dX4_readNumber_112 : decode cX4_readNumber 112 = .ok (.iload_n 1, 1) := by decide +kernel
theorem dX4_readNumber_113 : decode cX4_readNumber 113 = .ok (.putfield 65, 3) := by decide +kernel
theorem dX4_readNumber_116 : decode cX4_readNumber 116 = .ok (.return_, 1) := by decide +kernel
theorem dX4_readSign_0 : decode cX4_readSign 0 = .ok (.aload_n 0, 1) := by decide +kernel
theorem dX4_readSign_1 : decode cX4_readSign 1 = .ok (.getfield 9, 3) := by decide +kernel
theorem dX4_readSign_4 : decode cX4_readSign 4 = .ok (.aload_n 0, 1) := by decide +kernel
theorem dX4_readSign_5 : decode cX4_readSign 5 = .ok (.getfield 47, 3) := by decide +kernel
theorem dX4_readSign_8 : decode cX4_readSign 8 = .ok (.baload, 1) := by decide +kernel
theorem dX4_readSign_9 : decode cX4_readSign 9 = .ok (.istore_n 1, 1) := by decide +kernel
theorem dX4_readSign_10 : decode cX4_readSign 10 = .ok (.aload_n 0, 1) := by decide +kernel
theorem dX4_readSign_11 : decode cX4_readSign 11 = .ok (.iload_n 1, 1) := by decide +kernel
theorem dX4_readSign_12 : decode cX4_readSign 12 = .ok (.bipush 59, 2) := by decide +kernel
theorem dX4_readSign_14 : decode cX4_readSign 14 = .ok (.if_icmp .eq 21, 3) := by decide +kernel
theorem dX4_readSign_17 : decode cX4_readSign 17 = .ok (.iload_n 1, 1) := by decide +kernel
theorem dX4_readSign_18 : decode cX4_readSign 18 = .ok (.bipush 60, 2) := by decide +kernel
theorem dX4_readSign_20 : decode cX4_readSign 20 = .ok (.if_icmp .eq 15, 3) := by decide +kernel
theorem dX4_readSign_23 : decode cX4_readSign 23 = .ok (.iload_n 1, 1) := by decide +kernel
theorem dX4_readSign_24 : decode cX4_readSign 24 = .ok (.bipush 62, 2) := by decide +kernel
theorem dX4_readSign_26 : decode cX4_readSign 26 = .ok (.if_icmp .eq 9, 3) := by decide +kernel
theorem dX4_readSign_29 : decode cX4_readSign 29 = .ok (.iload_n 1, 1) := by decide +kernel
theorem dX4_readSign_30 : decode cX4_readSign 30 = .ok (.bipush 61, 2) := by decide +kernel
theorem dX4_readSign_32 : decode cX4_readSign 32 = .ok (.if_icmp .ne 7, 3) := by decide +kernel
theorem dX4_readSign_35 : decode cX4_readSign 35 = .ok (.iconst 3, 1) := by decide +kernel
theorem dX4_readSign_36 : decode cX4_readSign 36 = .ok (.goto 4, 3) := by decide +kernel
theorem dX4_readSign_39 : decode cX4_readSign 39 = .ok (.iconst 4, 1) := by decide +kernel
theorem dX4_readSign_40 : decode cX4_readSign 40 = .ok (.putfield 68, 3) := by decide +kernel
theorem dX4_readSign_43 : decode cX4_readSign 43 = .ok (.aload_n 0, 1) := by decide +kernel
theorem dX4_readSign_44 : decode cX4_readSign 44 = .ok (.iload_n 1, 1) := by decide +kernel
theorem dX4_readSign_45 : decode cX4_readSign 45 = .ok (.putfield 65, 3) := by decide +kernel
theorem dX4_readSign_48 : decode cX4_readSign 48 = .ok (.aload_n 0, 1) := by decide +kernel
theorem dX4_readSign_49 : decode cX4_readSign 49 = .ok (.dup, 1) := by decide +kernel
theorem dX4_readSign_50 : decode cX4_readSign 50 = .ok (.getfield 47, 3) := by decide +kernel
theorem dX4_readSign_53 : decode cX4_readSign 53 = .ok (.iconst 1, 1) := by decide +kernel
theorem dX4_readSign_54 : decode cX4_readSign 54 = .ok (.iadd, 1) := by decide +kernel
theorem dX4_readSign_55 : decode cX4_readSign 55 = .ok (.putfield 47, 3) := by decide +kernel
theorem dX4_readSign_58 : decode cX4_readSign 58 = .ok (.return_, 1) := by decide +kernel
theorem dX4_readWord_0 : decode cX4_readWord 0 = .ok (.aload_n 0, 1) := by decide +kernel
theorem dX4_readWord_1 : decode cX4_readWord 1 = .ok (.iconst 1, 1) := by decide +kernel
theorem dX4_readWord_2 : decode cX4_readWord 2 = .ok (.putfield 68, 3) := by decide +kernel
theorem dX4_readWord_5 : decode cX4_readWord 5 = .ok (.lconst 0, 1) := by decide +kernel
theorem dX4_readWord_6 : decode cX4_readWord 6 = .ok (.lstore_n 1, 1) := by decide +kernel
theorem dX4_readWord_7 : decode cX4_readWord 7 = .ok (.aload_n 0, 1) := by decide +kernel
theorem dX4_readWord_8 : decode cX4_readWord 8 = .ok (.getfield 47, 3) := by decide +kernel
theorem dX4_readWord_11 : decode cX4_readWord 11 = .ok (.aload_n 0, 1) := by decide +kernel
theorem dX4_readWord_12 : decode cX4_readWord 12 = .ok (.getfield 45, 3) := by decide +kernel
theorem dX4_readWord_15 : decode cX4_readWord 15 = .ok (.if_icmp .ge 87, 3) := by decide +kernel
theorem dX4_readWord_18 : decode cX4_readWord 18 = .ok (.aload_n 0, 1) := by decide +kernel
theorem dX4_readWord_19 : decode cX4_readWord 19 = .ok (.getfield 9, 3) := by decide +kernel
theorem dX4_readWord_22 : decode cX4_readWord 22 = .ok (.aload_n 0, 1) := by decide +kernel
theorem dX4_readWord_23 : decode cX4_readWord 23 = .ok (.getfield 47, 3) := by decide +kernel
theorem dX4_readWord_26 : decode cX4_readWord 26 = .ok (.baload, 1) := by decide +kernel
theorem dX4_readWord_27 : decode cX4_readWord 27 = .ok (.bipush 97, 2) := by decide +kernel
theorem dX4_readWord_29 : decode cX4_readWord 29 = .ok (.if_icmp .lt 73, 3) := by decide +kernel
theorem dX4_readWord_32 : decode cX4_readWord 32 = .ok (.aload_n 0, 1) := by decide +kernel
theorem dX4_readWord_33 : decode cX4_readWord 33 = .ok (.getfield 9, 3) := by decide +kernel
theorem dX4_readWord_36 : decode cX4_readWord 36 = .ok (.aload_n 0, 1) := by decide +kernel
theorem dX4_readWord_37 : decode cX4_readWord 37 = .ok (.getfield 47, 3) := by decide +kernel
theorem dX4_readWord_40 : decode cX4_readWord 40 = .ok (.baload, 1) := by decide +kernel
theorem dX4_readWord_41 : decode cX4_readWord 41 = .ok (.bipush 122, 2) := by decide +kernel
theorem dX4_readWord_43 : decode cX4_readWord 43 = .ok (.if_icmp .gt 59, 3) := by decide +kernel
theorem dX4_readWord_46 : decode cX4_readWord 46 = .ok (.aload_n 0, 1) := by decide +kernel
theorem dX4_readWord_47 : decode cX4_readWord 47 = .ok (.getfield 47, 3) := by decide +kernel
theorem dX4_readWord_50 : decode cX4_readWord 50 = .ok (.aload_n 0, 1) := by decide +kernel
theorem dX4_readWord_51 : decode cX4_readWord 51 = .ok (.getfield 53, 3) := by decide +kernel
theorem dX4_readWord_54 : decode cX4_readWord 54 = .ok (.isub, 1) := by decide +kernel
theorem dX4_readWord_55 : decode cX4_readWord 55 = .ok (.bipush 8, 2) := by decide +kernel
theorem dX4_readWord_57 : decode cX4_readWord 57 = .ok (.if_icmp .ge 28, 3) := by decide +kernel
theorem dX4_readWord_60 : decode cX4_readWord 60 = .ok (.lload_n 1, 1) := by decide +kernel
theorem dX4_readWord_61 : decode cX4_readWord 61 = .ok (.ldc2_w 38, 3) := by decide +kernel
theorem dX4_readWord_64 : decode cX4_readWord 64 = .ok (.lmul, 1) := by decide +kernel
theorem dX4_readWord_65 : decode cX4_readWord 65 = .ok (.aload_n 0, 1) := by decide +kernel
theorem dX4_readWord_66 : decode cX4_readWord 66 = .ok (.getfield 9, 3) := by decide +kernel
theorem dX4_readWord_69 : decode cX4_readWord 69 = .ok (.aload_n 0, 1) := by decide +kernel
theorem dX4_readWord_70 : decode cX4_readWord 70 = .ok (.getfield 47, 3) := by decide +kernel
theorem dX4_readWord_73 : decode cX4_readWord 73 = .ok (.baload, 1) := by decide +kernel
theorem dX4_readWord_74 : decode cX4_readWord 74 = .ok (.i2l, 1) := by decide +kernel
theorem dX4_readWord_75 : decode cX4_readWord 75 = .ok (.ladd, 1) := by decide +kernel
theorem dX4_readWord_76 : decode cX4_readWord 76 = .ok (.ldc2_w 40, 3) := by decide +kernel
theorem dX4_readWord_79 : decode cX4_readWord 79 = .ok (.lsub, 1) := by decide +kernel
theorem dX4_readWord_80 : decode cX4_readWord 80 = .ok (.lconst 1, 1) := by decide +kernel
theorem dX4_readWord_81 : decode cX4_readWord 81 = .ok (.ladd, 1) := by decide +kernel
theorem dX4_readWord_82 : decode cX4_readWord 82 = .ok (.goto 6, 3) := by decide +kernel
theorem dX4_readWord_85 : decode cX4_readWord 85 = .ok (.ldc2_w 59, 3) := by decide +kernel
theorem dX4_readWord_88 : decode cX4_readWord 88 = .ok (.lstore_n 1, 1) := by decide +kernel
theorem dX4_readWord_89 : decode cX4_readWord 89 = .ok (.aload_n 0, 1) := by decide +kernel
theorem dX4_readWord_90 : decode cX4_readWord 90 = .ok (.dup, 1) := by decide +kernel
theorem dX4_readWord_91 : decode cX4_readWord 91 = .ok (.getfield 47, 3) := by decide +kernel
theorem dX4_readWord_94 : decode cX4_readWord 94 = .ok (.iconst 1, 1) := by decide +kernel
theorem dX4_readWord_95 : decode cX4_readWord 95 = .ok (.iadd, 1) := by decide +kernel
theorem dX4_readWord_96 : decode cX4_readWord 96 = .ok (.putfield 47, 3) := by decide +kernel
theorem dX4_readWord_99 : decode cX4_readWord 99 = .ok (.goto (-92), 3) := by decide +kernel
theorem dX4_readWord_102 : decode cX4_readWord 102 = .ok (.aload_n 0, 1) := by decide +kernel
theorem dX4_readWord_103 : decode cX4_readWord 103 = .ok (.lload_n 1, 1) := by decide +kernel
theorem dX4_readWord_104 : decode cX4_readWord 104 = .ok (.putfield 61, 3) := by decide +kernel
theorem dX4_readWord_107 : decode cX4_readWord 107 = .ok (.iconst 0, 1) := by decide +kernel
theorem dX4_readWord_108 : decode cX4_readWord 108 = .ok (.istore_n 3, 1) := by decide +kernel
theorem dX4_readWord_109 : decode cX4_readWord 109 = .ok (.iload_n 3, 1) := by decide +kernel
theorem dX4_readWord_110 : decode cX4_readWord 110 = .ok (.bipush 25, 2) := by decide +kernel
theorem dX4_readWord_112 : decode cX4_readWord 112 = .ok (.if_icmp .ge 25, 3) := by decide +kernel
theorem dX4_readWord_115 : decode cX4_readWord 115 = .ok (.aload_n 0, 1) := by decide +kernel
theorem dX4_readWord_116 : decode cX4_readWord 116 = .ok (.getfield 15, 3) := by decide +kernel
theorem dX4_readWord_119 : decode cX4_readWord 119 = .ok (.iload_n 3, 1) := by decide +kernel
theorem dX4_readWord_120 : decode cX4_readWord 120 = .ok (.laload, 1) := by decide +kernel
theorem dX4_readWord_121 : decode cX4_readWord 121 = .ok (.lload_n 1, 1) := by decide +kernel
theorem dX4_readWord_122 : decode cX4_readWord 122 = .ok (.lcmp, 1) := by decide +kernel
theorem dX4_readWord_123 : decode cX4_readWord 123 = .ok (.ifCond .ne 8, 3) := by decide +kernel
theorem dX4_readWord_126 : decode cX4_readWord 126 = .ok (.aload_n 0, 1) := by decide +kernel
theorem dX4_readWord_127 : decode cX4_readWord 127 = .ok (.iload_n 3, 1) := by decide +kernel
theorem dX4_readWord_128 : decode cX4_readWord 128 = .ok (.putfield 56, 3) := by decide +kernel
theorem dX4_readWord_131 : decode cX4_readWord 131 = .ok (.iinc 3 1, 3) := by decide +kernel
theorem dX4_readWord_134 : decode cX4_readWord 134 = .ok (.goto (-25), 3) := by decide +kernel
theorem dX4_readWord_137 : decode cX4_readWord 137 = .ok (.return_, 1) := by decide +kernel
