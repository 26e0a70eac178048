theorem qf_X12_65 : Cond.fieldLink RX12 65 "SlowWorldsModel" "ran" "[I" ∈ gw := tbt (tb6 (List.mem_of_getElem? (i := 76) rfl)) rfl
theorem qc_X12_draw : Cond.code yX12_draw cX12_draw 1 (some .int) ∈ gw := tbt (tb9 (List.mem_of_getElem? (i := 16) rfl)) rfl
theorem qi_yX12_draw : Cond.instanceMethod yX12_draw ∈ gw := tbt (tb9 (List.mem_of_getElem? (i := 15) rfl)) rfl
theorem qs_X12_draw : Cond.selects (yX12_draw).cls yX12_draw yX12_draw ∈ gw := tb0 (List.mem_of_getElem? (i := 101) rfl) rfl
theorem ci_X12_draw : CIv yX12_draw cX12_draw 1 (some .int) 0 := ⟨qc_X12_draw, qi_yX12_draw, qs_X12_draw, qz_X12, by decide +kernel⟩
theorem qm_X12_384 : Cond.methodLink RX12 384 yX12_draw ∈ gw := tbt (tb9 (List.mem_of_getElem? (i := 13) rfl)) rfl
theorem qf_X12_62 : Cond.fieldLink RX12 62 "SlowWorldsModel" "loops" "[I" ∈ gw := tbt (tb6 (List.mem_of_getElem? (i := 75) rfl)) rfl
theorem dX12_behindEnds_0 : decode cX12_behindEnds 0 = .ok (.iload_n 1, 1) := by decide +kernel
theorem dX12_behindEnds_1 : decode cX12_behindEnds 1 = .ok (.istore_n 2, 1) := by decide +kernel
theorem dX12_behindEnds_2 : decode cX12_behindEnds 2 = .ok (.iload_n 2, 1) := by decide +kernel
theorem dX12_behindEnds_3 : decode cX12_behindEnds 3 = .ok (.aload_n 0, 1) := by decide +kernel
theorem dX12_behindEnds_4 : decode cX12_behindEnds 4 = .ok (.getfield 7, 3) := by decide +kernel
theorem dX12_behindEnds_7 : decode cX12_behindEnds 7 = .ok (.iconst 5, 1) := by decide +kernel
theorem dX12_behindEnds_8 : decode cX12_behindEnds 8 = .ok (.iaload, 1) := by decide +kernel
theorem dX12_behindEnds_9 : decode cX12_behindEnds 9 = .ok (.if_icmp .ge 108, 3) := by decide +kernel
theorem dX12_behindEnds_12 : decode cX12_behindEnds 12 = .ok (.aload_n 0, 1) := by decide +kernel
theorem dX12_behindEnds_13 : decode cX12_behindEnds 13 = .ok (.getfield 7, 3) := by decide +kernel
theorem dX12_behindEnds_16 : decode cX12_behindEnds 16 = .ok (.sipush 520, 3) := by decide +kernel
theorem dX12_behindEnds_19 : decode cX12_behindEnds 19 = .ok (.bipush 6, 2) := by decide +kernel
theorem dX12_behindEnds_21 : decode cX12_behindEnds 21 = .ok (.iload_n 2, 1) := by decide +kernel
theorem dX12_behindEnds_22 : decode cX12_behindEnds 22 = .ok (.imul, 1) := by decide +kernel
theorem dX12_behindEnds_23 : decode cX12_behindEnds 23 = .ok (.iadd, 1) := by decide +kernel
theorem dX12_behindEnds_24 : decode cX12_behindEnds 24 = .ok (.iaload, 1) := by decide +kernel
theorem dX12_behindEnds_25 : decode cX12_behindEnds 25 = .ok (.bipush 21, 2) := by decide +kernel
theorem dX12_behindEnds_27 : decode cX12_behindEnds 27 = .ok (.if_icmp .ne 90, 3) := by decide +kernel
theorem dX12_behindEnds_30 : decode cX12_behindEnds 30 = .ok (.aload_n 0, 1) := by decide +kernel
theorem dX12_behindEnds_31 : decode cX12_behindEnds 31 = .ok (.getfield 7, 3) := by decide +kernel
theorem dX12_behindEnds_34 : decode cX12_behindEnds 34 = .ok (.sipush 520, 3) := by decide +kernel
theorem dX12_behindEnds_37 : decode cX12_behindEnds 37 = .ok (.bipush 6, 2) := by decide +kernel
theorem dX12_behindEnds_39 : decode cX12_behindEnds 39 = .ok (.iload_n 2, 1) := by decide +kernel
theorem dX12_behindEnds_40 : decode cX12_behindEnds 40 = .ok (.imul, 1) := by decide +kernel
theorem dX12_behindEnds_41 : decode cX12_behindEnds 41 = .ok (.iadd, 1) := by decide +kernel
theorem dX12_behindEnds_42 : decode cX12_behindEnds 42 = .ok (.iconst 4, 1) := by decide +kernel
theorem dX12_behindEnds_43 : decode cX12_behindEnds 43 = .ok (.iadd, 1) := by decide +kernel
theorem dX12_behindEnds_44 : decode cX12_behindEnds 44 = .ok (.iaload, 1) := by decide +kernel
theorem dX12_behindEnds_45 : decode cX12_behindEnds 45 = .ok (.istore_n 3, 1) := by decide +kernel
theorem dX12_behindEnds_46 : decode cX12_behindEnds 46 = .ok (.aload_n 0, 1) := by decide +kernel
theorem dX12_behindEnds_47 : decode cX12_behindEnds 47 = .ok (.getfield 7, 3) := by decide +kernel
theorem dX12_behindEnds_50 : decode cX12_behindEnds 50 = .ok (.sipush 520, 3) := by decide +kernel
theorem dX12_behindEnds_53 : decode cX12_behindEnds 53 = .ok (.bipush 6, 2) := by decide +kernel
theorem dX12_behindEnds_55 : decode cX12_behindEnds 55 = .ok (.iload_n 3, 1) := by decide +kernel
theorem dX12_behindEnds_56 : decode cX12_behindEnds 56 = .ok (.imul, 1) := by decide +kernel
theorem dX12_behindEnds_57 : decode cX12_behindEnds 57 = .ok (.iadd, 1) := by decide +kernel
theorem dX12_behindEnds_58 : decode cX12_behindEnds 58 = .ok (.iaload, 1) := by decide +kernel
theorem dX12_behindEnds_59 : decode cX12_behindEnds 59 = .ok (.bipush 20, 2) := by decide +kernel
theorem dX12_behindEnds_61 : decode cX12_behindEnds 61 = .ok (.if_icmp .ne 16, 3) := by decide +kernel
theorem dX12_behindEnds_64 : decode cX12_behindEnds 64 = .ok (.aload_n 0, 1) := by decide +kernel
theorem dX12_behindEnds_65 : decode cX12_behindEnds 65 = .ok (.getfield 62, 3) := by decide +kernel
theorem dX12_behindEnds_68 : decode cX12_behindEnds 68 = .ok (.iload_n 3, 1) := by decide +kernel
theorem dX12_behindEnds_69 : decode cX12_behindEnds 69 = .ok (.iaload, 1) := by decide +kernel
theorem dX12_behindEnds_70 : decode cX12_behindEnds 70 = .ok (.ifCond .le 7, 3) := by decide +kernel
theorem dX12_behindEnds_73 : decode cX12_behindEnds 73 = .ok (.iconst 1, 1) := by decide +kernel
theorem dX12_behindEnds_74 : decode cX12_behindEnds 74 = .ok (.goto 4, 3) := by decide +kernel
theorem dX12_behindEnds_77 : decode cX12_behindEnds 77 = .ok (.iconst 0, 1) := by decide +kernel
theorem dX12_behindEnds_78 : decode cX12_behindEnds 78 = .ok (.istore 4, 2) := by decide +kernel
theorem dX12_behindEnds_80 : decode cX12_behindEnds 80 = .ok (.aload_n 0, 1) := by decide +kernel
theorem dX12_behindEnds_81 : decode cX12_behindEnds 81 = .ok (.getfield 62, 3) := by decide +kernel
theorem dX12_behindEnds_84 : decode cX12_behindEnds 84 = .ok (.iload_n 3, 1) := by decide +kernel
theorem dX12_behindEnds_85 : decode cX12_behindEnds 85 = .ok (.dup2, 1) := by decide +kernel
theorem dX12_behindEnds_86 : decode cX12_behindEnds 86 = .ok (.iaload, 1) := by decide +kernel
theorem dX12_behindEnds_87 : decode cX12_behindEnds 87 = .ok (.iload 4, 2) := by decide +kernel
theorem dX12_behindEnds_89 : decode cX12_behindEnds 89 = .ok (.ifCond .eq 7, 3) := by decide +kernel
theorem dX12_behindEnds_92 : decode cX12_behindEnds 92 = .ok (.iconst 1, 1) := by decide +kernel
theorem dX12_behindEnds_93 : decode cX12_behindEnds 93 = .ok (.goto 4, 3) := by decide +kernel
theorem dX12_behindEnds_96 : decode cX12_behindEnds 96 = .ok (.iconst 0, 1) := by decide +kernel
theorem dX12_behindEnds_97 : decode cX12_behindEnds 97 = .ok (.isub, 1) := by decide +kernel
theorem dX12_behindEnds_98 : decode cX12_behindEnds 98 = .ok (.iastore, 1) := by decide +kernel
theorem dX12_behindEnds_99 : decode cX12_behindEnds 99 = .ok (.iload 4, 2) := by decide +kernel
theorem dX12_behindEnds_101 : decode cX12_behindEnds 101 = .ok (.ifCond .eq 9, 3) := by decide +kernel
theorem dX12_behindEnds_104 : decode cX12_behindEnds 104 = .ok (.iload_n 3, 1) := by decide +kernel
theorem dX12_behindEnds_105 : decode cX12_behindEnds 105 = .ok (.iconst 1, 1) := by decide +kernel
theorem dX12_behindEnds_106 : decode cX12_behindEnds 106 = .ok (.iadd, 1) := by decide +kernel
theorem dX12_behindEnds_107 : decode cX12_behindEnds 107 = .ok (.goto 6, 3) := by decide +kernel
theorem dX12_behindEnds_110 : decode cX12_behindEnds 110 = .ok (.iload_n 2, 1) := by decide +kernel
theorem dX12_behindEnds_111 : decode cX12_behindEnds 111 = .ok (.iconst 1, 1) := by decide +kernel
theorem dX12_behindEnds_112 : decode cX12_behindEnds 112 = .ok (.iadd, 1) := by decide +kernel
theorem dX12_behindEnds_113 : decode cX12_behindEnds 113 = .ok (.istore_n 2, 1) := by decide +kernel
theorem dX12_behindEnds_114 : decode cX12_behindEnds 114 = .ok (.goto (-112), 3) := by decide +kernel
theorem dX12_behindEnds_117 : decode cX12_behindEnds 117 = .ok (.iload_n 2, 1) := by decide +kernel
theorem dX12_behindEnds_118 : decode cX12_behindEnds 118 = .ok (.ireturn, 1) := by decide +kernel
theorem dX12_does_0 : decode cX12_does 0 = .ok (.aload_n 0, 1) := by decide +kernel
theorem dX12_does_1 : decode cX12_does 1 = .ok (.getfield 7, 3) := by decide +kernel
theorem dX12_does_4 : decode cX12_does 4 = .ok (.iload_n 1, 1) := by decide +kernel
theorem dX12_does_5 : decode cX12_does 5 = .ok (.iconst 1, 1) := by decide +kernel
theorem dX12_does_6 : decode cX12_does 6 = .ok (.iadd, 1) := by decide +kernel
theorem dX12_does_7 : decode cX12_does 7 = .ok (.iaload, 1) := by decide +kernel
theorem dX12_does_8 : decode cX12_does 8 = .ok (.istore_n 2, 1) := by decide +kernel
theorem dX12_does_9 : decode cX12_does 9 = .ok (.aload_n 0, 1) := by decide +kernel
theorem dX12_does_10 : decode cX12_does 10 = .ok (.getfield 7, 3) := by decide +kernel
theorem dX12_does_13 : decode cX12_does 13 = .ok (.iload_n 1, 1) := by decide +kernel
theorem dX12_does_14 : decode cX12_does 14 = .ok (.iaload, 1) := by decide +kernel
theorem dX12_does_15 : decode cX12_does 15 = .ok (.tableswitch 161 15 18 #[29, 63, 78, 100], 29) := by decide +kernel
theorem dX12_does_44 : decode cX12_does 44 = .ok (.iconst 0, 1) := by decide +kernel
theorem dX12_does_45 : decode cX12_does 45 = .ok (.istore_n 3, 1) := by decide +kernel
theorem dX12_does_46 : decode cX12_does 46 = .ok (.iload_n 3, 1) := by decide +kernel
theorem dX12_does_47 : decode cX12_does 47 = .ok (.iload_n 2, 1) := by decide +kernel
theorem dX12_does_48 : decode cX12_does 48 = .ok (.if_icmp .ge 28, 3) := by decide +kernel
theorem dX12_does_51 : decode cX12_does 51 = .ok (.aload_n 0, 1) := by decide +kernel
theorem dX12_does_52 : decode cX12_does 52 = .ok (.invokevirtual 371, 3) := by decide +kernel
theorem dX12_does_55 : decode cX12_does 55 = .ok (.ifCond .ne 5, 3) := by decide +kernel
theorem dX12_does_58 : decode cX12_does 58 = .ok (.iconst 0, 1) := by decide +kernel
theorem dX12_does_59 : decode cX12_does 59 = .ok (.ireturn, 1) := by decide +kernel
theorem dX12_does_60 : decode cX12_does 60 = .ok (.aload_n 0, 1) := by decide +kernel
theorem dX12_does_61 : decode cX12_does 61 = .ok (.getfield 65, 3) := by decide +kernel
theorem dX12_does_64 : decode cX12_does 64 = .ok (.iconst 1, 1) := by decide +kernel
theorem dX12_does_65 : decode cX12_does 65 = .ok (.dup2, 1) := by decide +kernel
theorem dX12_does_66 : decode cX12_does 66 = .ok (.iaload, 1) := by decide +kernel
theorem dX12_does_67 : decode cX12_does 67 = .ok (.iconst 1, 1) := by decide +kernel
theorem dX12_does_68 : decode cX12_does 68 = .ok (.iadd, 1) := by decide +kernel
theorem dX12_does_69 : decode cX12_does 69 = .ok (.iastore, 1) := by decide +kernel
theorem dX12_does_70 : decode cX12_does 70 = .ok (.iinc 3 1, 3) := by decide +kernel
theorem dX12_does_73 : decode cX12_does 73 = .ok (.goto (-27), 3) := by decide +kernel
theorem dX12_does_76 : decode cX12_does 76 = .ok (.iconst 1, 1) := by decide +kernel
theorem dX12_does_77 : decode cX12_does 77 = .ok (.ireturn, 1) := by decide +kernel
theorem dX12_does_78 : decode cX12_does 78 = .ok (.aload_n 0, 1) := by decide +kernel
theorem dX12_does_79 : decode cX12_does 79 = .ok (.iload_n 2, 1) := by decide +kernel
theorem dX12_does_80 : decode cX12_does 80 = .ok (.aload_n 0, 1) := by decide +kernel
theorem dX12_does_81 : decode cX12_does 81 = .ok (.getfield 7, 3) := by decide +kernel
theorem dX12_does_84 : decode cX12_does 84 = .ok (.iload_n 1, 1) := by decide +kernel
theorem dX12_does_85 : decode cX12_does 85 = .ok (.iconst 2, 1) := by decide +kernel
theorem dX12_does_86 : decode cX12_does 86 = .ok (.iadd, 1) := by decide +kernel
theorem dX12_does_87 : decode cX12_does 87 = .ok (.iaload, 1) := by decide +kernel
theorem dX12_does_88 : decode cX12_does 88 = .ok (.invokevirtual 374, 3) := by decide +kernel
theorem dX12_does_91 : decode cX12_does 91 = .ok (.iconst 1, 1) := by decide +kernel
theorem dX12_does_92 : decode cX12_does 92 = .ok (.ireturn, 1) := by decide +kernel
theorem dX12_does_93 : decode cX12_does 93 = .ok (.aload_n 0, 1) := by decide +kernel
theorem dX12_does_94 : decode cX12_does 94 = .ok (.iload_n 2, 1) := by decide +kernel
theorem dX12_does_95 : decode cX12_does 95 = .ok (.invokevirtual 321, 3) := by decide +kernel
theorem dX12_does_98 : decode cX12_does 98 = .ok (.ifCond .ne 5, 3) := by decide +kernel
theorem dX12_does_101 : decode cX12_does 101 = .ok (.iconst 0, 1) := by decide +kernel
theorem dX12_does_102 : decode cX12_does 102 = .ok (.ireturn, 1) := by decide +kernel
theorem dX12_does_103 : decode cX12_does 103 = .ok (.aload_n 0, 1) := by decide +kernel
theorem dX12_does_104 : decode cX12_does 104 = .ok (.getfield 65, 3) := by decide +kernel
theorem dX12_does_107 : decode cX12_does 107 = .ok (.iconst 3, 1) := by decide +kernel
theorem dX12_does_108 : decode cX12_does 108 = .ok (.dup2, 1) := by decide +kernel
theorem dX12_does_109 : decode cX12_does 109 = .ok (.iaload, 1) := by decide +kernel
theorem dX12_does_110 : decode cX12_does 110 = .ok (.iconst 1, 1) := by decide +kernel
theorem dX12_does_111 : decode cX12_does 111 = .ok (.iadd, 1) := by decide +kernel
theorem dX12_does_112 : decode cX12_does 112 = .ok (.iastore, 1) := by decide +kernel
theorem dX12_does_113 : decode cX12_does 113 = .ok (.iconst 1, 1) := by decide +kernel
theorem dX12_does_114 : decode cX12_does 114 = .ok (.ireturn, 1) := by decide +kernel
theorem dX12_does_115 : decode cX12_does 115 = .ok (.iconst 0, 1) := by decide +kernel
theorem dX12_does_116 : decode cX12_does 116 = .ok (.istore_n 3, 1) := by decide +kernel
theorem dX12_does_117 : decode cX12_does 117 = .ok (.iload_n 3, 1) := by decide +kernel
theorem dX12_does_118 : decode cX12_does 118 = .ok (.aload_n 0, 1) := by decide +kernel
theorem dX12_does_119 : decode cX12_does 119 = .ok (.getfield 7, 3) := by decide +kernel
theorem dX12_does_122 : decode cX12_does 122 = .ok (.iconst 0, 1) := by decide +kernel
theorem dX12_does_123 : decode cX12_does 123 = .ok (.iaload, 1) := by decide +kernel
theorem dX12_does_124 : decode cX12_does 124 = .ok (.if_icmp .ge 50, 3) := by decide +kernel
theorem dX12_does_127 : decode cX12_does 127 = .ok (.aload_n 0, 1) := by decide +kernel
theorem dX12_does_128 : decode cX12_does 128 = .ok (.invokevirtual 384, 3) := by decide +kernel
theorem dX12_does_131 : decode cX12_does 131 = .ok (.iload_n 2, 1) := by decide +kernel
theorem dX12_does_132 : decode cX12_does 132 = .ok (.if_icmp .lt 6, 3) := by decide +kernel
theorem dX12_does_135 : decode cX12_does 135 = .ok (.goto 33, 3) := by decide +kernel
theorem dX12_does_138 : decode cX12_does 138 = .ok (.aload_n 0, 1) := by decide +kernel
theorem dX12_does_139 : decode cX12_does 139 = .ok (.getfield 7, 3) := by decide +kernel
theorem dX12_does_142 : decode cX12_does 142 = .ok (.bipush 118, 2) := by decide +kernel
theorem dX12_does_144 : decode cX12_does 144 = .ok (.aload_n 0, 1) := by decide +kernel
theorem dX12_does_145 : decode cX12_does 145 = .ok (.getfield 7, 3) := by decide +kernel
theorem dX12_does_148 : decode cX12_does 148 = .ok (.iconst 3, 1) := by decide +kernel
theorem dX12_does_149 : decode cX12_does 149 = .ok (.iaload, 1) := by decide +kernel
theorem dX12_does_150 : decode cX12_does 150 = .ok (.iadd, 1) := by decide +kernel
theorem dX12_does_151 : decode cX12_does 151 = .ok (.dup2, 1) := by decide +kernel
theorem dX12_does_152 : decode cX12_does 152 = .ok (.iaload, 1) := by decide +kernel
theorem dX12_does_153 : decode cX12_does 153 = .ok (.iconst 1, 1) := by decide +kernel
theorem dX12_does_154 : decode cX12_does 154 = .ok (.iload_n 3, 1) := by decide +kernel
theorem dX12_does_155 : decode cX12_does 155 = .ok (.ishl, 1) := by decide +kernel
theorem dX12_does_156 : decode cX12_does 156 = .ok (.ixor, 1) := by decide +kernel
theorem dX12_does_157 : decode cX12_does 157 = .ok (.iastore, 1) := by decide +kernel
theorem dX12_does_158 : decode cX12_does 158 = .ok (.aload_n 0, 1) := by decide +kernel
theorem dX12_does_159 : decode cX12_does 159 = .ok (.getfield 65, 3) := by decide +kernel
theorem dX12_does_162 : decode cX12_does 162 = .ok (.iconst 2, 1) := by decide +kernel
theorem dX12_does_163 : decode cX12_does 163 = .ok (.dup2, 1) := by decide +kernel
theorem dX12_does_164 : decode cX12_does 164 = .ok (.iaload, 1) := by decide +kernel
theorem dX12_does_165 : decode cX12_does 165 = .ok (.iconst 1, 1) := by decide +kernel
theorem dX12_does_166 : decode cX12_does 166 = .ok (.iadd, 1) := by decide +kernel
theorem dX12_does_167 : decode cX12_does 167 = .ok (.iastore, 1) := by decide +kernel
theorem dX12_does_168 : decode cX12_does 168 = .ok (.iinc 3 1, 3) := by decide +kernel
theorem dX12_does_171 : decode cX12_does 171 = .ok (.goto (-54), 3) := by decide +kernel
theorem dX12_does_174 : decode cX12_does 174 = .ok (.iconst 1, 1) := by decide +kernel
theorem dX12_does_175 : decode cX12_does 175 = .ok (.ireturn, 1) := by decide +kernel
theorem dX12_does_176 : decode cX12_does 176 = .ok (.iconst 1, 1) := by decide +kernel
theorem dX12_does_177 : decode cX12_does 177 = .ok (.ireturn, 1) := by decide +kernel
theorem dX12_holds_0 : decode cX12_holds 0 = .ok (.aload_n 0, 1) := by decide +kernel
theorem dX12_holds_1 : decode cX12_holds 1 = .ok (.getfield 7, 3) := by decide +kernel
theorem dX12_holds_4 : decode cX12_holds 4 = .ok (.iload_n 1, 1) := by decide +kernel
theorem dX12_holds_5 : decode cX12_holds 5 = .ok (.iaload, 1) := by decide +kernel
theorem dX12_holds_6 : decode cX12_holds 6 = .ok (.sipush 1900, 3) := by decide +kernel
theorem dX12_holds_9 : decode cX12_holds 9 = .ok (.isub, 1) := by decide +kernel
theorem dX12_holds_10 : decode cX12_holds 10 = .ok (.istore_n 2, 1) := by decide +kernel
theorem dX12_holds_11 : decode cX12_holds 11 = .ok (.aload_n 0, 1) := by decide +kernel
theorem dX12_holds_12 : decode cX12_holds 12 = .ok (.getfield 7, 3) := by decide +kernel
theorem dX12_holds_15 : decode cX12_holds 15 = .ok (.iload_n 1, 1) := by decide +kernel
theorem dX12_holds_16 : decode cX12_holds 16 = .ok (.iconst 1, 1) := by decide +kernel
theorem dX12_holds_17 : decode cX12_holds 17 = .ok (.iadd, 1) := by decide +kernel
theorem dX12_holds_18 : decode cX12_holds 18 = .ok (.iaload, 1) := by decide +kernel
theorem dX12_holds_19 : decode cX12_holds 19 = .ok (.istore_n 3, 1) := by decide +kernel
theorem dX12_holds_20 : decode cX12_holds 20 = .ok (.iload_n 2, 1) := by decide +kernel
theorem dX12_holds_21 : decode cX12_holds 21 = .ok (.bipush 9, 2) := by decide +kernel
theorem dX12_holds_23 : decode cX12_holds 23 = .ok (.if_icmp .ne 24, 3) := by decide +kernel
theorem dX12_holds_26 : decode cX12_holds 26 = .ok (.aload_n 0, 1) := by decide +kernel
theorem dX12_holds_27 : decode cX12_holds 27 = .ok (.iload_n 3, 1) := by decide +kernel
theorem dX12_holds_28 : decode cX12_holds 28 = .ok (.aload_n 0, 1) := by decide +kernel
theorem dX12_holds_29 : decode cX12_holds 29 = .ok (.getfield 7, 3) := by decide +kernel
theorem dX12_holds_32 : decode cX12_holds 32 = .ok (.iconst 3, 1) := by decide +kernel
theorem dX12_holds_33 : decode cX12_holds 33 = .ok (.iaload, 1) := by decide +kernel
theorem dX12_holds_34 : decode cX12_holds 34 = .ok (.invokevirtual 363, 3) := by decide +kernel
theorem dX12_holds_37 : decode cX12_holds 37 = .ok (.iconst 1, 1) := by decide +kernel
theorem dX12_holds_38 : decode cX12_holds 38 = .ok (.if_icmp .ne 7, 3) := by decide +kernel
theorem dX12_holds_41 : decode cX12_holds 41 = .ok (.iconst 1, 1) := by decide +kernel
theorem dX12_holds_42 : decode cX12_holds 42 = .ok (.goto 4, 3) := by decide +kernel
theorem dX12_holds_45 : decode cX12_holds 45 = .ok (.iconst 0, 1) := by decide +kernel
theorem dX12_holds_46 : decode cX12_holds 46 = .ok (.ireturn, 1) := by decide +kernel
theorem dX12_holds_47 : decode cX12_holds 47 = .ok (.iload_n 2, 1) := by decide +kernel
theorem dX12_holds_48 : decode cX12_holds 48 = .ok (.bipush 23, 2) := by decide +kernel
theorem dX12_holds_50 : decode cX12_holds 50 = .ok (.if_icmp .ne 53, 3) := by decide +kernel
theorem dX12_holds_53 : decode cX12_holds 53 = .ok (.aload_n 0, 1) := by decide +kernel
theorem dX12_holds_54 : decode cX12_holds 54 = .ok (.invokevirtual 330, 3) := by decide +kernel
theorem dX12_holds_57 : decode cX12_holds 57 = .ok (.aload_n 0, 1) := by decide +kernel
theorem dX12_holds_58 : decode cX12_holds 58 = .ok (.aload_n 0, 1) := by decide +kernel
theorem dX12_holds_59 : decode cX12_holds 59 = .ok (.getfield 7, 3) := by decide +kernel
theorem dX12_holds_62 : decode cX12_holds 62 = .ok (.iload_n 1, 1) := by decide +kernel
theorem dX12_holds_63 : decode cX12_holds 63 = .ok (.iconst 2, 1) := by decide +kernel
theorem dX12_holds_64 : decode cX12_holds 64 = .ok (.iadd, 1) := by decide +kernel
theorem dX12_holds_65 : decode cX12_holds 65 = .ok (.iaload, 1) := by decide +kernel
theorem dX12_holds_66 : decode cX12_holds 66 = .ok (.aload_n 0, 1) := by decide +kernel
theorem dX12_holds_67 : decode cX12_holds 67 = .ok (.getfield 7, 3) := by decide +kernel
theorem dX12_holds_70 : decode cX12_holds 70 = .ok (.iconst 3, 1) := by decide +kernel
theorem dX12_holds_71 : decode cX12_holds 71 = .ok (.iaload, 1) := by decide +kernel
theorem dX12_holds_72 : decode cX12_holds 72 = .ok (.invokevirtual 333, 3) := by decide +kernel
theorem dX12_holds_75 : decode cX12_holds 75 = .ok (.istore 4, 2) := by decide +kernel
theorem dX12_holds_77 : decode cX12_holds 77 = .ok (.iload 4, 2) := by decide +kernel
theorem dX12_holds_79 : decode cX12_holds 79 = .ok (.iconst (-1), 1) := by decide +kernel
theorem dX12_holds_80 : decode cX12_holds 80 = .ok (.if_icmp .eq 21, 3) := by decide +kernel
theorem dX12_holds_83 : decode cX12_holds 83 = .ok (.aload_n 0, 1) := by decide +kernel
theorem dX12_holds_84 : decode cX12_holds 84 = .ok (.getfield 7, 3) := by decide +kernel
theorem dX12_holds_87 : decode cX12_holds 87 = .ok (.iload 4, 2) := by decide +kernel
theorem dX12_holds_89 : decode cX12_holds 89 = .ok (.invokestatic 315, 3) := by decide +kernel
theorem dX12_holds_92 : decode cX12_holds 92 = .ok (.iaload, 1) := by decide +kernel
theorem dX12_holds_93 : decode cX12_holds 93 = .ok (.iload_n 3, 1) := by decide +kernel
theorem dX12_holds_94 : decode cX12_holds 94 = .ok (.if_icmp .ne 7, 3) := by decide +kernel
theorem dX12_holds_97 : decode cX12_holds 97 = .ok (.iconst 1, 1) := by decide +kernel
theorem dX12_holds_98 : decode cX12_holds 98 = .ok (.goto 4, 3) := by decide +kernel
theorem dX12_holds_101 : decode cX12_holds 101 = .ok (.iconst 0, 1) := by decide +kernel
theorem dX12_holds_102 : decode cX12_holds 102 = .ok (.ireturn, 1) := by decide +kernel
theorem dX12_holds_103 : decode cX12_holds 103 = .ok (.aload_n 0, 1) := by decide +kernel
theorem dX12_holds_104 : decode cX12_holds 104 = .ok (.getfield 7, 3) := by decide +kernel
theorem dX12_holds_107 : decode cX12_holds 107 = .ok (.iload_n 1, 1) := by decide +kernel
theorem dX12_holds_108 : decode cX12_holds 108 = .ok (.iconst 5, 1) := by decide +kernel
theorem dX12_holds_109 : decode cX12_holds 109 = .ok (.iadd, 1) := by decide +kernel
theorem dX12_holds_110 : decode cX12_holds 110 = .ok (.iaload, 1) := by decide +kernel
theorem dX12_holds_111 : decode cX12_holds 111 = .ok (.bipush 60, 2) := by decide +kernel
theorem dX12_holds_113 : decode cX12_holds 113 = .ok (.if_icmp .ne 21, 3) := by decide +kernel
theorem dX12_holds_116 : decode cX12_holds 116 = .ok (.aload_n 0, 1) := by decide +kernel
theorem dX12_holds_117 : decode cX12_holds 117 = .ok (.getfield 7, 3) := by decide +kernel
theorem dX12_holds_120 : decode cX12_holds 120 = .ok (.iconst 3, 1) := by decide +kernel
theorem dX12_holds_121 : decode cX12_holds 121 = .ok (.iaload, 1) := by decide +kernel
theorem dX12_holds_122 : decode cX12_holds 122 = .ok (.iload_n 3, 1) := by decide +kernel
theorem dX12_holds_123 : decode cX12_holds 123 = .ok (.if_icmp .ge 7, 3) := by decide +kernel
theorem dX12_holds_126 : decode cX12_holds 126 = .ok (.iconst 1, 1) := by decide +kernel
theorem dX12_holds_127 : decode cX12_holds 127 = .ok (.goto 53, 3) := by decide +kernel
theorem dX12_holds_130 : decode cX12_holds 130 = .ok (.iconst 0, 1) := by decide +kernel
theorem dX12_holds_131 : decode cX12_holds 131 = .ok (.goto 49, 3) := by decide +kernel
theorem dX12_holds_134 : decode cX12_holds 134 = .ok (.aload_n 0, 1) := by decide +kernel
theorem dX12_holds_135 : decode cX12_holds 135 = .ok (.getfield 7, 3) := by decide +kernel
theorem dX12_holds_138 : decode cX12_holds 138 = .ok (.iload_n 1, 1) := by decide +kernel
theorem dX12_holds_139 : decode cX12_holds 139 = .ok (.iconst 5, 1) := by decide +kernel
theorem dX12_holds_140 : decode cX12_holds 140 = .ok (.iadd, 1) := by decide +kernel
theorem dX12_holds_141 : decode cX12_holds 141 = .ok (.iaload, 1) := by decide +kernel
theorem dX12_holds_142 : decode cX12_holds 142 = .ok (.bipush 62, 2) := by decide +kernel
theorem dX12_holds_144 : decode cX12_holds 144 = .ok (.if_icmp .ne 21, 3) := by decide +kernel
theorem dX12_holds_147 : decode cX12_holds 147 = .ok (.aload_n 0, 1) := by decide +kernel
theorem dX12_holds_148 : decode cX12_holds 148 = .ok (.getfield 7, 3) := by decide +kernel
theorem dX12_holds_151 : decode cX12_holds 151 = .ok (.iconst 3, 1) := by decide +kernel
theorem dX12_holds_152 : decode cX12_holds 152 = .ok (.iaload, 1) := by decide +kernel
theorem dX12_holds_153 : decode cX12_holds 153 = .ok (.iload_n 3, 1) := by decide +kernel
theorem dX12_holds_154 : decode cX12_holds 154 = .ok (.if_icmp .le 7, 3) := by decide +kernel
theorem dX12_holds_157 : decode cX12_holds 157 = .ok (.iconst 1, 1) := by decide +kernel
theorem dX12_holds_158 : decode cX12_holds 158 = .ok (.goto 22, 3) := by decide +kernel
theorem dX12_holds_161 : decode cX12_holds 161 = .ok (.iconst 0, 1) := by decide +kernel
theorem dX12_holds_162 : decode cX12_holds 162 = .ok (.goto 18, 3) := by decide +kernel
theorem dX12_holds_165 : decode cX12_holds 165 = .ok (.aload_n 0, 1) := by decide +kernel
theorem dX12_holds_166 : decode cX12_holds 166 = .ok (.getfield 7, 3) := by decide +kernel
theorem dX12_holds_169 : decode cX12_holds 169 = .ok (.iconst 3, 1) := by decide +kernel
theorem dX12_holds_170 : decode cX12_holds 170 = .ok (.iaload, 1) := by decide +kernel
theorem dX12_holds_171 : decode cX12_holds 171 = .ok (.iload_n 3, 1) := by decide +kernel
theorem dX12_holds_172 : decode cX12_holds 172 = .ok (.if_icmp .ne 7, 3) := by decide +kernel
theorem dX12_holds_175 : decode cX12_holds 175 = .ok (.iconst 1, 1) := by decide +kernel
theorem dX12_holds_176 : decode cX12_holds 176 = .ok (.goto 4, 3) := by decide +kernel
theorem dX12_holds_179 : decode cX12_holds 179 = .ok (.iconst 0, 1) := by decide +kernel
theorem dX12_holds_180 : decode cX12_holds 180 = .ok (.ireturn, 1) := by decide +kernel
