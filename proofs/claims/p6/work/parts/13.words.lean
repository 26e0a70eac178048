theorem qm_X3_43 : Cond.methodLink RX3 43 yJ9_max_7cf53 ∈ gw := tbt (tb4 (List.mem_of_getElem? (i := 112) rfl)) rfl
theorem qt_yJ9_max_7cf53 : Cond.static yJ9_max_7cf53 ∈ gw := tbt (tb4 (List.mem_of_getElem? (i := 113) rfl)) rfl
theorem qz_J9 : Cond.initialized RJ9 ∈ gw := tbt (tb1 (List.mem_of_getElem? (i := 20) rfl)) rfl
theorem qc_J9_max_7cf53 : Cond.code yJ9_max_7cf53 cJ9_max_7cf53 2 (some .int) ∈ gw := tbt (tb4 (List.mem_of_getElem? (i := 114) rfl)) rfl
theorem qc_X3_arrival : Cond.code yX3_arrival cX3_arrival 7 (some .int) ∈ gw := tbt (tb4 (List.mem_of_getElem? (i := 84) rfl)) rfl
theorem qi_yX3_arrival : Cond.instanceMethod yX3_arrival ∈ gw := tbt (tb4 (List.mem_of_getElem? (i := 82) rfl)) rfl
theorem qs_X3_arrival : Cond.selects (yX3_arrival).cls yX3_arrival yX3_arrival ∈ gw := tbt (tb4 (List.mem_of_getElem? (i := 83) rfl)) rfl
theorem ci_X3_arrival : CIv yX3_arrival cX3_arrival 7 (some .int) 3 := ⟨qc_X3_arrival, qi_yX3_arrival, qs_X3_arrival, qz_X3, by decide +kernel⟩
theorem qm_X3_48 : Cond.methodLink RX3 48 yX3_arrival ∈ gw := tbt (tb4 (List.mem_of_getElem? (i := 115) rfl)) rfl
theorem dX3_echoOf_0 : decode cX3_echoOf 0 = .ok (.aload_n 0, 1) := by decide +kernel
theorem dX3_echoOf_1 : decode cX3_echoOf 1 = .ok (.iload_n 3, 1) := by decide +kernel
theorem dX3_echoOf_2 : decode cX3_echoOf 2 = .ok (.aload_n 0, 1) := by decide +kernel
theorem dX3_echoOf_3 : decode cX3_echoOf 3 = .ok (.iload_n 1, 1) := by decide +kernel
theorem dX3_echoOf_4 : decode cX3_echoOf 4 = .ok (.iload_n 2, 1) := by decide +kernel
theorem dX3_echoOf_5 : decode cX3_echoOf 5 = .ok (.iload_n 3, 1) := by decide +kernel
theorem dX3_echoOf_6 : decode cX3_echoOf 6 = .ok (.invokevirtual 48, 3) := by decide +kernel
theorem dX3_echoOf_9 : decode cX3_echoOf 9 = .ok (.iload_n 1, 1) := by decide +kernel
theorem dX3_echoOf_10 : decode cX3_echoOf 10 = .ok (.invokevirtual 48, 3) := by decide +kernel
theorem dX3_echoOf_13 : decode cX3_echoOf 13 = .ok (.ireturn, 1) := by decide +kernel
theorem dX3_seen_0 : decode cX3_seen 0 = .ok (.iload_n 3, 1) := by decide +kernel
theorem dX3_seen_1 : decode cX3_seen 1 = .ok (.ifCond .lt 10, 3) := by decide +kernel
theorem dX3_seen_4 : decode cX3_seen 4 = .ok (.iload_n 3, 1) := by decide +kernel
theorem dX3_seen_5 : decode cX3_seen 5 = .ok (.sipush 400, 3) := by decide +kernel
theorem dX3_seen_8 : decode cX3_seen 8 = .ok (.if_icmp .le 5, 3) := by decide +kernel
theorem dX3_seen_11 : decode cX3_seen 11 = .ok (.iconst (-1), 1) := by decide +kernel
theorem dX3_seen_12 : decode cX3_seen 12 = .ok (.ireturn, 1) := by decide +kernel
theorem dX3_seen_13 : decode cX3_seen 13 = .ok (.iload_n 1, 1) := by decide +kernel
theorem dX3_seen_14 : decode cX3_seen 14 = .ok (.iload_n 2, 1) := by decide +kernel
theorem dX3_seen_15 : decode cX3_seen 15 = .ok (.if_icmp .ne 5, 3) := by decide +kernel
theorem dX3_seen_18 : decode cX3_seen 18 = .ok (.iload_n 3, 1) := by decide +kernel
theorem dX3_seen_19 : decode cX3_seen 19 = .ok (.ireturn, 1) := by decide +kernel
theorem dX3_seen_20 : decode cX3_seen 20 = .ok (.aload_n 0, 1) := by decide +kernel
theorem dX3_seen_21 : decode cX3_seen 21 = .ok (.iload_n 2, 1) := by decide +kernel
theorem dX3_seen_22 : decode cX3_seen 22 = .ok (.iload_n 1, 1) := by decide +kernel
theorem dX3_seen_23 : decode cX3_seen 23 = .ok (.invokevirtual 26, 3) := by decide +kernel
theorem dX3_seen_26 : decode cX3_seen 26 = .ok (.istore 4, 2) := by decide +kernel
theorem dX3_seen_28 : decode cX3_seen 28 = .ok (.aload_n 0, 1) := by decide +kernel
theorem dX3_seen_29 : decode cX3_seen 29 = .ok (.getfield 23, 3) := by decide +kernel
theorem dX3_seen_32 : decode cX3_seen 32 = .ok (.iload 4, 2) := by decide +kernel
theorem dX3_seen_34 : decode cX3_seen 34 = .ok (.iload_n 3, 1) := by decide +kernel
theorem dX3_seen_35 : decode cX3_seen 35 = .ok (.iadd, 1) := by decide +kernel
theorem dX3_seen_36 : decode cX3_seen 36 = .ok (.iaload, 1) := by decide +kernel
theorem dX3_seen_37 : decode cX3_seen 37 = .ok (.bipush (-2), 2) := by decide +kernel
theorem dX3_seen_39 : decode cX3_seen 39 = .ok (.if_icmp .eq 13, 3) := by decide +kernel
theorem dX3_seen_42 : decode cX3_seen 42 = .ok (.aload_n 0, 1) := by decide +kernel
theorem dX3_seen_43 : decode cX3_seen 43 = .ok (.getfield 23, 3) := by decide +kernel
theorem dX3_seen_46 : decode cX3_seen 46 = .ok (.iload 4, 2) := by decide +kernel
theorem dX3_seen_48 : decode cX3_seen 48 = .ok (.iload_n 3, 1) := by decide +kernel
theorem dX3_seen_49 : decode cX3_seen 49 = .ok (.iadd, 1) := by decide +kernel
theorem dX3_seen_50 : decode cX3_seen 50 = .ok (.iaload, 1) := by decide +kernel
theorem dX3_seen_51 : decode cX3_seen 51 = .ok (.ireturn, 1) := by decide +kernel
theorem dX3_seen_52 : decode cX3_seen 52 = .ok (.iload_n 3, 1) := by decide +kernel
theorem dX3_seen_53 : decode cX3_seen 53 = .ok (.ifCond .ne 7, 3) := by decide +kernel
theorem dX3_seen_56 : decode cX3_seen 56 = .ok (.iconst (-1), 1) := by decide +kernel
theorem dX3_seen_57 : decode cX3_seen 57 = .ok (.goto 14, 3) := by decide +kernel
theorem dX3_seen_60 : decode cX3_seen 60 = .ok (.aload_n 0, 1) := by decide +kernel
theorem dX3_seen_61 : decode cX3_seen 61 = .ok (.getfield 23, 3) := by decide +kernel
theorem dX3_seen_64 : decode cX3_seen 64 = .ok (.iload 4, 2) := by decide +kernel
theorem dX3_seen_66 : decode cX3_seen 66 = .ok (.iload_n 3, 1) := by decide +kernel
theorem dX3_seen_67 : decode cX3_seen 67 = .ok (.iadd, 1) := by decide +kernel
theorem dX3_seen_68 : decode cX3_seen 68 = .ok (.iconst 1, 1) := by decide +kernel
theorem dX3_seen_69 : decode cX3_seen 69 = .ok (.isub, 1) := by decide +kernel
theorem dX3_seen_70 : decode cX3_seen 70 = .ok (.iaload, 1) := by decide +kernel
theorem dX3_seen_71 : decode cX3_seen 71 = .ok (.istore 5, 2) := by decide +kernel
theorem dX3_seen_73 : decode cX3_seen 73 = .ok (.iload 5, 2) := by decide +kernel
theorem dX3_seen_75 : decode cX3_seen 75 = .ok (.bipush (-2), 2) := by decide +kernel
theorem dX3_seen_77 : decode cX3_seen 77 = .ok (.if_icmp .ne 7, 3) := by decide +kernel
theorem dX3_seen_80 : decode cX3_seen 80 = .ok (.iconst (-1), 1) := by decide +kernel
theorem dX3_seen_81 : decode cX3_seen 81 = .ok (.goto 5, 3) := by decide +kernel
theorem dX3_seen_84 : decode cX3_seen 84 = .ok (.iload 5, 2) := by decide +kernel
theorem dX3_seen_86 : decode cX3_seen 86 = .ok (.istore 6, 2) := by decide +kernel
theorem dX3_seen_88 : decode cX3_seen 88 = .ok (.iload 5, 2) := by decide +kernel
theorem dX3_seen_90 : decode cX3_seen 90 = .ok (.bipush (-2), 2) := by decide +kernel
theorem dX3_seen_92 : decode cX3_seen 92 = .ok (.if_icmp .ne 7, 3) := by decide +kernel
theorem dX3_seen_95 : decode cX3_seen 95 = .ok (.iconst 0, 1) := by decide +kernel
theorem dX3_seen_96 : decode cX3_seen 96 = .ok (.goto 14, 3) := by decide +kernel
theorem dX3_seen_99 : decode cX3_seen 99 = .ok (.iload 5, 2) := by decide +kernel
theorem dX3_seen_101 : decode cX3_seen 101 = .ok (.iconst 1, 1) := by decide +kernel
theorem dX3_seen_102 : decode cX3_seen 102 = .ok (.iadd, 1) := by decide +kernel
theorem dX3_seen_103 : decode cX3_seen 103 = .ok (.iload_n 3, 1) := by decide +kernel
theorem dX3_seen_104 : decode cX3_seen 104 = .ok (.bipush 20, 2) := by decide +kernel
theorem dX3_seen_106 : decode cX3_seen 106 = .ok (.isub, 1) := by decide +kernel
theorem dX3_seen_107 : decode cX3_seen 107 = .ok (.invokestatic 43, 3) := by decide +kernel
theorem dX3_seen_110 : decode cX3_seen 110 = .ok (.istore 7, 2) := by decide +kernel
theorem dX3_seen_112 : decode cX3_seen 112 = .ok (.iload_n 3, 1) := by decide +kernel
theorem dX3_seen_113 : decode cX3_seen 113 = .ok (.iconst 1, 1) := by decide +kernel
theorem dX3_seen_114 : decode cX3_seen 114 = .ok (.isub, 1) := by decide +kernel
theorem dX3_seen_115 : decode cX3_seen 115 = .ok (.istore 8, 2) := by decide +kernel
theorem dX3_seen_117 : decode cX3_seen 117 = .ok (.iload 8, 2) := by decide +kernel
theorem dX3_seen_119 : decode cX3_seen 119 = .ok (.iload 7, 2) := by decide +kernel
theorem dX3_seen_121 : decode cX3_seen 121 = .ok (.if_icmp .lt 38, 3) := by decide +kernel
theorem dX3_seen_124 : decode cX3_seen 124 = .ok (.aload_n 0, 1) := by decide +kernel
theorem dX3_seen_125 : decode cX3_seen 125 = .ok (.iload_n 2, 1) := by decide +kernel
theorem dX3_seen_126 : decode cX3_seen 126 = .ok (.iload 8, 2) := by decide +kernel
theorem dX3_seen_128 : decode cX3_seen 128 = .ok (.iload_n 1, 1) := by decide +kernel
theorem dX3_seen_129 : decode cX3_seen 129 = .ok (.invokevirtual 48, 3) := by decide +kernel
theorem dX3_seen_132 : decode cX3_seen 132 = .ok (.istore 9, 2) := by decide +kernel
theorem dX3_seen_134 : decode cX3_seen 134 = .ok (.iload 9, 2) := by decide +kernel
theorem dX3_seen_136 : decode cX3_seen 136 = .ok (.iconst (-1), 1) := by decide +kernel
theorem dX3_seen_137 : decode cX3_seen 137 = .ok (.if_icmp .eq 16, 3) := by decide +kernel
theorem dX3_seen_140 : decode cX3_seen 140 = .ok (.iload 9, 2) := by decide +kernel
theorem dX3_seen_142 : decode cX3_seen 142 = .ok (.iload_n 3, 1) := by decide +kernel
theorem dX3_seen_143 : decode cX3_seen 143 = .ok (.if_icmp .gt 10, 3) := by decide +kernel
theorem dX3_seen_146 : decode cX3_seen 146 = .ok (.iload 8, 2) := by decide +kernel
theorem dX3_seen_148 : decode cX3_seen 148 = .ok (.istore 6, 2) := by decide +kernel
theorem dX3_seen_150 : decode cX3_seen 150 = .ok (.goto 9, 3) := by decide +kernel
theorem dX3_seen_153 : decode cX3_seen 153 = .ok (.iinc 8 (-1), 3) := by decide +kernel
theorem dX3_seen_156 : decode cX3_seen 156 = .ok (.goto (-39), 3) := by decide +kernel
theorem dX3_seen_159 : decode cX3_seen 159 = .ok (.aload_n 0, 1) := by decide +kernel
theorem dX3_seen_160 : decode cX3_seen 160 = .ok (.getfield 23, 3) := by decide +kernel
theorem dX3_seen_163 : decode cX3_seen 163 = .ok (.iload 4, 2) := by decide +kernel
theorem dX3_seen_165 : decode cX3_seen 165 = .ok (.iload_n 3, 1) := by decide +kernel
theorem dX3_seen_166 : decode cX3_seen 166 = .ok (.iadd, 1) := by decide +kernel
theorem dX3_seen_167 : decode cX3_seen 167 = .ok (.iload 6, 2) := by decide +kernel
theorem dX3_seen_169 : decode cX3_seen 169 = .ok (.iastore, 1) := by decide +kernel
theorem dX3_seen_170 : decode cX3_seen 170 = .ok (.iload 6, 2) := by decide +kernel
theorem dX3_seen_172 : decode cX3_seen 172 = .ok (.ireturn, 1) := by decide +kernel
