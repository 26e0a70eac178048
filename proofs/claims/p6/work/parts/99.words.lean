theorem qc_X12_oldOne : Cond.code yX12_oldOne cX12_oldOne 4 (some .boolean) ∈ gw := tbt (tb7 (List.mem_of_getElem? (i := 46) rfl)) rfl
theorem qi_yX12_oldOne : Cond.instanceMethod yX12_oldOne ∈ gw := tbt (tb7 (List.mem_of_getElem? (i := 45) rfl)) rfl
theorem qs_X12_oldOne : Cond.selects (yX12_oldOne).cls yX12_oldOne yX12_oldOne ∈ gw := tb0 (List.mem_of_getElem? (i := 55) rfl) rfl
theorem ci_X12_oldOne : CIv yX12_oldOne cX12_oldOne 4 (some .boolean) 3 := ⟨qc_X12_oldOne, qi_yX12_oldOne, qs_X12_oldOne, qz_X12, by decide +kernel⟩
theorem qm_X12_195 : Cond.methodLink RX12 195 yX12_oldOne ∈ gw := tbt (tb7 (List.mem_of_getElem? (i := 43) rfl)) rfl
theorem qf_X12_198 : Cond.fieldLink RX12 198 "SlowWorldsModel" "lawTold" "Z" ∈ gw := tbt (tb6 (List.mem_of_getElem? (i := 64) rfl)) rfl
theorem qc_X12_aRock : Cond.code yX12_aRock cX12_aRock 3 (some .boolean) ∈ gw := tbt (tb7 (List.mem_of_getElem? (i := 10) rfl)) rfl
theorem qi_yX12_aRock : Cond.instanceMethod yX12_aRock ∈ gw := tbt (tb7 (List.mem_of_getElem? (i := 9) rfl)) rfl
theorem qs_X12_aRock : Cond.selects (yX12_aRock).cls yX12_aRock yX12_aRock ∈ gw := tb0 (List.mem_of_getElem? (i := 46) rfl) rfl
theorem ci_X12_aRock : CIv yX12_aRock cX12_aRock 3 (some .boolean) 0 := ⟨qc_X12_aRock, qi_yX12_aRock, qs_X12_aRock, qz_X12, by decide +kernel⟩
theorem qm_X12_202 : Cond.methodLink RX12 202 yX12_aRock ∈ gw := tbt (tb7 (List.mem_of_getElem? (i := 7) rfl)) rfl
theorem qc_X12_wantSign : Cond.code yX12_wantSign cX12_wantSign 2 (some .boolean) ∈ gw := tbt (tb7 (List.mem_of_getElem? (i := 54) rfl)) rfl
theorem qi_yX12_wantSign : Cond.instanceMethod yX12_wantSign ∈ gw := tbt (tb7 (List.mem_of_getElem? (i := 53) rfl)) rfl
theorem qs_X12_wantSign : Cond.selects (yX12_wantSign).cls yX12_wantSign yX12_wantSign ∈ gw := tb0 (List.mem_of_getElem? (i := 57) rfl) rfl
theorem ci_X12_wantSign : CIv yX12_wantSign cX12_wantSign 2 (some .boolean) 1 := ⟨qc_X12_wantSign, qi_yX12_wantSign, qs_X12_wantSign, qz_X12, by decide +kernel⟩
theorem qm_X12_212 : Cond.methodLink RX12 212 yX12_wantSign ∈ gw := tbt (tb7 (List.mem_of_getElem? (i := 51) rfl)) rfl
theorem qc_X12_anIce : Cond.code yX12_anIce cX12_anIce 3 (some .boolean) ∈ gw := tbt (tb7 (List.mem_of_getElem? (i := 42) rfl)) rfl
theorem qi_yX12_anIce : Cond.instanceMethod yX12_anIce ∈ gw := tbt (tb7 (List.mem_of_getElem? (i := 41) rfl)) rfl
theorem qs_X12_anIce : Cond.selects (yX12_anIce).cls yX12_anIce yX12_anIce ∈ gw := tb0 (List.mem_of_getElem? (i := 54) rfl) rfl
theorem ci_X12_anIce : CIv yX12_anIce cX12_anIce 3 (some .boolean) 0 := ⟨qc_X12_anIce, qi_yX12_anIce, qs_X12_anIce, qz_X12, by decide +kernel⟩
theorem qm_X12_206 : Cond.methodLink RX12 206 yX12_anIce ∈ gw := tbt (tb7 (List.mem_of_getElem? (i := 39) rfl)) rfl
theorem qc_X12_aLaw : Cond.code yX12_aLaw cX12_aLaw 2 (some .boolean) ∈ gw := tbt (tb7 (List.mem_of_getElem? (i := 50) rfl)) rfl
theorem qi_yX12_aLaw : Cond.instanceMethod yX12_aLaw ∈ gw := tbt (tb7 (List.mem_of_getElem? (i := 49) rfl)) rfl
theorem qs_X12_aLaw : Cond.selects (yX12_aLaw).cls yX12_aLaw yX12_aLaw ∈ gw := tb0 (List.mem_of_getElem? (i := 56) rfl) rfl
theorem ci_X12_aLaw : CIv yX12_aLaw cX12_aLaw 2 (some .boolean) 0 := ⟨qc_X12_aLaw, qi_yX12_aLaw, qs_X12_aLaw, qz_X12, by decide +kernel⟩
theorem qm_X12_209 : Cond.methodLink RX12 209 yX12_aLaw ∈ gw := tbt (tb7 (List.mem_of_getElem? (i := 47) rfl)) rfl
theorem dX12_aLaw_0 : decode cX12_aLaw 0 = .ok (.aload_n 0, 1) := by decide +kernel
theorem dX12_aLaw_1 : decode cX12_aLaw 1 = .ok (.getfield 198, 3) := by decide +kernel
theorem dX12_aLaw_4 : decode cX12_aLaw 4 = .ok (.ifCond .eq 9, 3) := by decide +kernel
theorem dX12_aLaw_7 : decode cX12_aLaw 7 = .ok (.aload_n 0, 1) := by decide +kernel
theorem dX12_aLaw_8 : decode cX12_aLaw 8 = .ok (.iconst 5, 1) := by decide +kernel
theorem dX12_aLaw_9 : decode cX12_aLaw 9 = .ok (.invokevirtual 164, 3) := by decide +kernel
theorem dX12_aLaw_12 : decode cX12_aLaw 12 = .ok (.ireturn, 1) := by decide +kernel
theorem dX12_aLaw_13 : decode cX12_aLaw 13 = .ok (.aload_n 0, 1) := by decide +kernel
theorem dX12_aLaw_14 : decode cX12_aLaw 14 = .ok (.iconst 1, 1) := by decide +kernel
theorem dX12_aLaw_15 : decode cX12_aLaw 15 = .ok (.putfield 198, 3) := by decide +kernel
theorem dX12_aLaw_18 : decode cX12_aLaw 18 = .ok (.aload_n 0, 1) := by decide +kernel
theorem dX12_aLaw_19 : decode cX12_aLaw 19 = .ok (.invokevirtual 158, 3) := by decide +kernel
theorem dX12_aLaw_22 : decode cX12_aLaw 22 = .ok (.aload_n 0, 1) := by decide +kernel
theorem dX12_aLaw_23 : decode cX12_aLaw 23 = .ok (.ldc 175, 2) := by decide +kernel
theorem dX12_aLaw_25 : decode cX12_aLaw 25 = .ok (.invokevirtual 167, 3) := by decide +kernel
theorem dX12_aLaw_28 : decode cX12_aLaw 28 = .ok (.istore_n 1, 1) := by decide +kernel
theorem dX12_aLaw_29 : decode cX12_aLaw 29 = .ok (.iload_n 1, 1) := by decide +kernel
theorem dX12_aLaw_30 : decode cX12_aLaw 30 = .ok (.bipush 12, 2) := by decide +kernel
theorem dX12_aLaw_32 : decode cX12_aLaw 32 = .ok (.if_icmp .eq 27, 3) := by decide +kernel
theorem dX12_aLaw_35 : decode cX12_aLaw 35 = .ok (.iload_n 1, 1) := by decide +kernel
theorem dX12_aLaw_36 : decode cX12_aLaw 36 = .ok (.bipush 13, 2) := by decide +kernel
theorem dX12_aLaw_38 : decode cX12_aLaw 38 = .ok (.if_icmp .eq 21, 3) := by decide +kernel
theorem dX12_aLaw_41 : decode cX12_aLaw 41 = .ok (.iload_n 1, 1) := by decide +kernel
theorem dX12_aLaw_42 : decode cX12_aLaw 42 = .ok (.bipush 6, 2) := by decide +kernel
theorem dX12_aLaw_44 : decode cX12_aLaw 44 = .ok (.if_icmp .eq 15, 3) := by decide +kernel
theorem dX12_aLaw_47 : decode cX12_aLaw 47 = .ok (.iload_n 1, 1) := by decide +kernel
theorem dX12_aLaw_48 : decode cX12_aLaw 48 = .ok (.bipush 14, 2) := by decide +kernel
theorem dX12_aLaw_50 : decode cX12_aLaw 50 = .ok (.if_icmp .eq 9, 3) := by decide +kernel
theorem dX12_aLaw_53 : decode cX12_aLaw 53 = .ok (.aload_n 0, 1) := by decide +kernel
theorem dX12_aLaw_54 : decode cX12_aLaw 54 = .ok (.iconst 2, 1) := by decide +kernel
theorem dX12_aLaw_55 : decode cX12_aLaw 55 = .ok (.invokevirtual 164, 3) := by decide +kernel
theorem dX12_aLaw_58 : decode cX12_aLaw 58 = .ok (.ireturn, 1) := by decide +kernel
theorem dX12_aLaw_59 : decode cX12_aLaw 59 = .ok (.aload_n 0, 1) := by decide +kernel
theorem dX12_aLaw_60 : decode cX12_aLaw 60 = .ok (.getfield 7, 3) := by decide +kernel
theorem dX12_aLaw_63 : decode cX12_aLaw 63 = .ok (.sipush 3562, 3) := by decide +kernel
theorem dX12_aLaw_66 : decode cX12_aLaw 66 = .ok (.iload_n 1, 1) := by decide +kernel
theorem dX12_aLaw_67 : decode cX12_aLaw 67 = .ok (.bipush 12, 2) := by decide +kernel
theorem dX12_aLaw_69 : decode cX12_aLaw 69 = .ok (.if_icmp .ne 7, 3) := by decide +kernel
theorem dX12_aLaw_72 : decode cX12_aLaw 72 = .ok (.iconst 0, 1) := by decide +kernel
theorem dX12_aLaw_73 : decode cX12_aLaw 73 = .ok (.goto 24, 3) := by decide +kernel
theorem dX12_aLaw_76 : decode cX12_aLaw 76 = .ok (.iload_n 1, 1) := by decide +kernel
theorem dX12_aLaw_77 : decode cX12_aLaw 77 = .ok (.bipush 13, 2) := by decide +kernel
theorem dX12_aLaw_79 : decode cX12_aLaw 79 = .ok (.if_icmp .ne 7, 3) := by decide +kernel
theorem dX12_aLaw_82 : decode cX12_aLaw 82 = .ok (.iconst 1, 1) := by decide +kernel
theorem dX12_aLaw_83 : decode cX12_aLaw 83 = .ok (.goto 14, 3) := by decide +kernel
theorem dX12_aLaw_86 : decode cX12_aLaw 86 = .ok (.iload_n 1, 1) := by decide +kernel
theorem dX12_aLaw_87 : decode cX12_aLaw 87 = .ok (.bipush 6, 2) := by decide +kernel
theorem dX12_aLaw_89 : decode cX12_aLaw 89 = .ok (.if_icmp .ne 7, 3) := by decide +kernel
theorem dX12_aLaw_92 : decode cX12_aLaw 92 = .ok (.iconst 2, 1) := by decide +kernel
theorem dX12_aLaw_93 : decode cX12_aLaw 93 = .ok (.goto 4, 3) := by decide +kernel
theorem dX12_aLaw_96 : decode cX12_aLaw 96 = .ok (.iconst 3, 1) := by decide +kernel
theorem dX12_aLaw_97 : decode cX12_aLaw 97 = .ok (.iastore, 1) := by decide +kernel
theorem dX12_aLaw_98 : decode cX12_aLaw 98 = .ok (.aload_n 0, 1) := by decide +kernel
theorem dX12_aLaw_99 : decode cX12_aLaw 99 = .ok (.invokevirtual 158, 3) := by decide +kernel
theorem dX12_aLaw_102 : decode cX12_aLaw 102 = .ok (.iconst 1, 1) := by decide +kernel
theorem dX12_aLaw_103 : decode cX12_aLaw 103 = .ok (.ireturn, 1) := by decide +kernel
theorem dX12_anIce_0 : decode cX12_anIce 0 = .ok (.sipush 3606, 3) := by decide +kernel
theorem dX12_anIce_3 : decode cX12_anIce 3 = .ok (.iconst 4, 1) := by decide +kernel
theorem dX12_anIce_4 : decode cX12_anIce 4 = .ok (.aload_n 0, 1) := by decide +kernel
theorem dX12_anIce_5 : decode cX12_anIce 5 = .ok (.getfield 7, 3) := by decide +kernel
theorem dX12_anIce_8 : decode cX12_anIce 8 = .ok (.sipush 3561, 3) := by decide +kernel
theorem dX12_anIce_11 : decode cX12_anIce 11 = .ok (.iaload, 1) := by decide +kernel
theorem dX12_anIce_12 : decode cX12_anIce 12 = .ok (.imul, 1) := by decide +kernel
theorem dX12_anIce_13 : decode cX12_anIce 13 = .ok (.iadd, 1) := by decide +kernel
theorem dX12_anIce_14 : decode cX12_anIce 14 = .ok (.istore_n 1, 1) := by decide +kernel
theorem dX12_anIce_15 : decode cX12_anIce 15 = .ok (.aload_n 0, 1) := by decide +kernel
theorem dX12_anIce_16 : decode cX12_anIce 16 = .ok (.getfield 7, 3) := by decide +kernel
theorem dX12_anIce_19 : decode cX12_anIce 19 = .ok (.sipush 3560, 3) := by decide +kernel
theorem dX12_anIce_22 : decode cX12_anIce 22 = .ok (.iaload, 1) := by decide +kernel
theorem dX12_anIce_23 : decode cX12_anIce 23 = .ok (.istore_n 2, 1) := by decide +kernel
theorem dX12_anIce_24 : decode cX12_anIce 24 = .ok (.aload_n 0, 1) := by decide +kernel
theorem dX12_anIce_25 : decode cX12_anIce 25 = .ok (.getfield 7, 3) := by decide +kernel
theorem dX12_anIce_28 : decode cX12_anIce 28 = .ok (.sipush 3561, 3) := by decide +kernel
theorem dX12_anIce_31 : decode cX12_anIce 31 = .ok (.iaload, 1) := by decide +kernel
theorem dX12_anIce_32 : decode cX12_anIce 32 = .ok (.bipush 8, 2) := by decide +kernel
theorem dX12_anIce_34 : decode cX12_anIce 34 = .ok (.if_icmp .ne 10, 3) := by decide +kernel
theorem dX12_anIce_37 : decode cX12_anIce 37 = .ok (.aload_n 0, 1) := by decide +kernel
theorem dX12_anIce_38 : decode cX12_anIce 38 = .ok (.bipush 6, 2) := by decide +kernel
theorem dX12_anIce_40 : decode cX12_anIce 40 = .ok (.invokevirtual 164, 3) := by decide +kernel
theorem dX12_anIce_43 : decode cX12_anIce 43 = .ok (.ireturn, 1) := by decide +kernel
theorem dX12_anIce_44 : decode cX12_anIce 44 = .ok (.aload_n 0, 1) := by decide +kernel
theorem dX12_anIce_45 : decode cX12_anIce 45 = .ok (.invokevirtual 158, 3) := by decide +kernel
theorem dX12_anIce_48 : decode cX12_anIce 48 = .ok (.aload_n 0, 1) := by decide +kernel
theorem dX12_anIce_49 : decode cX12_anIce 49 = .ok (.bipush 24, 2) := by decide +kernel
theorem dX12_anIce_51 : decode cX12_anIce 51 = .ok (.iload_n 2, 1) := by decide +kernel
theorem dX12_anIce_52 : decode cX12_anIce 52 = .ok (.iload_n 1, 1) := by decide +kernel
theorem dX12_anIce_53 : decode cX12_anIce 53 = .ok (.invokevirtual 195, 3) := by decide +kernel
theorem dX12_anIce_56 : decode cX12_anIce 56 = .ok (.ifCond .ne 5, 3) := by decide +kernel
theorem dX12_anIce_59 : decode cX12_anIce 59 = .ok (.iconst 0, 1) := by decide +kernel
theorem dX12_anIce_60 : decode cX12_anIce 60 = .ok (.ireturn, 1) := by decide +kernel
theorem dX12_anIce_61 : decode cX12_anIce 61 = .ok (.aload_n 0, 1) := by decide +kernel
theorem dX12_anIce_62 : decode cX12_anIce 62 = .ok (.ldc 175, 2) := by decide +kernel
theorem dX12_anIce_64 : decode cX12_anIce 64 = .ok (.invokevirtual 177, 3) := by decide +kernel
theorem dX12_anIce_67 : decode cX12_anIce 67 = .ok (.ifCond .eq 25, 3) := by decide +kernel
theorem dX12_anIce_70 : decode cX12_anIce 70 = .ok (.aload_n 0, 1) := by decide +kernel
theorem dX12_anIce_71 : decode cX12_anIce 71 = .ok (.bipush 24, 2) := by decide +kernel
theorem dX12_anIce_73 : decode cX12_anIce 73 = .ok (.iload_n 2, 1) := by decide +kernel
theorem dX12_anIce_74 : decode cX12_anIce 74 = .ok (.invokevirtual 181, 3) := by decide +kernel
theorem dX12_anIce_77 : decode cX12_anIce 77 = .ok (.aload_n 0, 1) := by decide +kernel
theorem dX12_anIce_78 : decode cX12_anIce 78 = .ok (.getfield 7, 3) := by decide +kernel
theorem dX12_anIce_81 : decode cX12_anIce 81 = .ok (.iload_n 1, 1) := by decide +kernel
theorem dX12_anIce_82 : decode cX12_anIce 82 = .ok (.iaload, 1) := by decide +kernel
theorem dX12_anIce_83 : decode cX12_anIce 83 = .ok (.if_icmp .ne 9, 3) := by decide +kernel
theorem dX12_anIce_86 : decode cX12_anIce 86 = .ok (.aload_n 0, 1) := by decide +kernel
theorem dX12_anIce_87 : decode cX12_anIce 87 = .ok (.iconst 5, 1) := by decide +kernel
theorem dX12_anIce_88 : decode cX12_anIce 88 = .ok (.invokevirtual 164, 3) := by decide +kernel
theorem dX12_anIce_91 : decode cX12_anIce 91 = .ok (.ireturn, 1) := by decide +kernel
theorem dX12_anIce_92 : decode cX12_anIce 92 = .ok (.aload_n 0, 1) := by decide +kernel
theorem dX12_anIce_93 : decode cX12_anIce 93 = .ok (.bipush 24, 2) := by decide +kernel
theorem dX12_anIce_95 : decode cX12_anIce 95 = .ok (.iload_n 2, 1) := by decide +kernel
theorem dX12_anIce_96 : decode cX12_anIce 96 = .ok (.iload_n 1, 1) := by decide +kernel
theorem dX12_anIce_97 : decode cX12_anIce 97 = .ok (.iconst 1, 1) := by decide +kernel
theorem dX12_anIce_98 : decode cX12_anIce 98 = .ok (.iadd, 1) := by decide +kernel
theorem dX12_anIce_99 : decode cX12_anIce 99 = .ok (.invokevirtual 195, 3) := by decide +kernel
theorem dX12_anIce_102 : decode cX12_anIce 102 = .ok (.ifCond .ne 5, 3) := by decide +kernel
theorem dX12_anIce_105 : decode cX12_anIce 105 = .ok (.iconst 0, 1) := by decide +kernel
theorem dX12_anIce_106 : decode cX12_anIce 106 = .ok (.ireturn, 1) := by decide +kernel
theorem dX12_anIce_107 : decode cX12_anIce 107 = .ok (.aload_n 0, 1) := by decide +kernel
theorem dX12_anIce_108 : decode cX12_anIce 108 = .ok (.ldc 175, 2) := by decide +kernel
theorem dX12_anIce_110 : decode cX12_anIce 110 = .ok (.bipush 10, 2) := by decide +kernel
theorem dX12_anIce_112 : decode cX12_anIce 112 = .ok (.invokevirtual 184, 3) := by decide +kernel
theorem dX12_anIce_115 : decode cX12_anIce 115 = .ok (.ifCond .eq 49, 3) := by decide +kernel
theorem dX12_anIce_118 : decode cX12_anIce 118 = .ok (.aload_n 0, 1) := by decide +kernel
theorem dX12_anIce_119 : decode cX12_anIce 119 = .ok (.iload_n 1, 1) := by decide +kernel
theorem dX12_anIce_120 : decode cX12_anIce 120 = .ok (.iconst 2, 1) := by decide +kernel
theorem dX12_anIce_121 : decode cX12_anIce 121 = .ok (.iadd, 1) := by decide +kernel
theorem dX12_anIce_122 : decode cX12_anIce 122 = .ok (.iconst 0, 1) := by decide +kernel
theorem dX12_anIce_123 : decode cX12_anIce 123 = .ok (.sipush 400, 3) := by decide +kernel
theorem dX12_anIce_126 : decode cX12_anIce 126 = .ok (.invokevirtual 188, 3) := by decide +kernel
theorem dX12_anIce_129 : decode cX12_anIce 129 = .ok (.ifCond .eq 35, 3) := by decide +kernel
theorem dX12_anIce_132 : decode cX12_anIce 132 = .ok (.aload_n 0, 1) := by decide +kernel
theorem dX12_anIce_133 : decode cX12_anIce 133 = .ok (.ldc 175, 2) := by decide +kernel
theorem dX12_anIce_135 : decode cX12_anIce 135 = .ok (.bipush 11, 2) := by decide +kernel
theorem dX12_anIce_137 : decode cX12_anIce 137 = .ok (.invokevirtual 184, 3) := by decide +kernel
theorem dX12_anIce_140 : decode cX12_anIce 140 = .ok (.ifCond .eq 24, 3) := by decide +kernel
theorem dX12_anIce_143 : decode cX12_anIce 143 = .ok (.aload_n 0, 1) := by decide +kernel
theorem dX12_anIce_144 : decode cX12_anIce 144 = .ok (.iload_n 1, 1) := by decide +kernel
theorem dX12_anIce_145 : decode cX12_anIce 145 = .ok (.iconst 3, 1) := by decide +kernel
theorem dX12_anIce_146 : decode cX12_anIce 146 = .ok (.iadd, 1) := by decide +kernel
theorem dX12_anIce_147 : decode cX12_anIce 147 = .ok (.aload_n 0, 1) := by decide +kernel
theorem dX12_anIce_148 : decode cX12_anIce 148 = .ok (.getfield 7, 3) := by decide +kernel
theorem dX12_anIce_151 : decode cX12_anIce 151 = .ok (.iload_n 1, 1) := by decide +kernel
theorem dX12_anIce_152 : decode cX12_anIce 152 = .ok (.iconst 2, 1) := by decide +kernel
theorem dX12_anIce_153 : decode cX12_anIce 153 = .ok (.iadd, 1) := by decide +kernel
theorem dX12_anIce_154 : decode cX12_anIce 154 = .ok (.iaload, 1) := by decide +kernel
theorem dX12_anIce_155 : decode cX12_anIce 155 = .ok (.sipush 400, 3) := by decide +kernel
theorem dX12_anIce_158 : decode cX12_anIce 158 = .ok (.invokevirtual 188, 3) := by decide +kernel
theorem dX12_anIce_161 : decode cX12_anIce 161 = .ok (.ifCond .ne 5, 3) := by decide +kernel
theorem dX12_anIce_164 : decode cX12_anIce 164 = .ok (.iconst 0, 1) := by decide +kernel
theorem dX12_anIce_165 : decode cX12_anIce 165 = .ok (.ireturn, 1) := by decide +kernel
theorem dX12_anIce_166 : decode cX12_anIce 166 = .ok (.aload_n 0, 1) := by decide +kernel
theorem dX12_anIce_167 : decode cX12_anIce 167 = .ok (.getfield 7, 3) := by decide +kernel
theorem dX12_anIce_170 : decode cX12_anIce 170 = .ok (.sipush 3561, 3) := by decide +kernel
theorem dX12_anIce_173 : decode cX12_anIce 173 = .ok (.dup2, 1) := by decide +kernel
theorem dX12_anIce_174 : decode cX12_anIce 174 = .ok (.iaload, 1) := by decide +kernel
theorem dX12_anIce_175 : decode cX12_anIce 175 = .ok (.iconst 1, 1) := by decide +kernel
theorem dX12_anIce_176 : decode cX12_anIce 176 = .ok (.iadd, 1) := by decide +kernel
theorem dX12_anIce_177 : decode cX12_anIce 177 = .ok (.iastore, 1) := by decide +kernel
theorem dX12_anIce_178 : decode cX12_anIce 178 = .ok (.iconst 1, 1) := by decide +kernel
theorem dX12_anIce_179 : decode cX12_anIce 179 = .ok (.ireturn, 1) := by decide +kernel
theorem dX12_skyPart_0 : decode cX12_skyPart 0 = .ok (.aload_n 0, 1) := by decide +kernel
theorem dX12_skyPart_1 : decode cX12_skyPart 1 = .ok (.ldc 175, 2) := by decide +kernel
theorem dX12_skyPart_3 : decode cX12_skyPart 3 = .ok (.invokevirtual 167, 3) := by decide +kernel
theorem dX12_skyPart_6 : decode cX12_skyPart 6 = .ok (.tableswitch 50 0 2 #[26, 34, 42], 26) := by decide +kernel
theorem dX12_skyPart_32 : decode cX12_skyPart 32 = .ok (.aload_n 0, 1) := by decide +kernel
theorem dX12_skyPart_33 : decode cX12_skyPart 33 = .ok (.invokevirtual 202, 3) := by decide +kernel
theorem dX12_skyPart_36 : decode cX12_skyPart 36 = .ok (.istore_n 1, 1) := by decide +kernel
theorem dX12_skyPart_37 : decode cX12_skyPart 37 = .ok (.goto 25, 3) := by decide +kernel
theorem dX12_skyPart_40 : decode cX12_skyPart 40 = .ok (.aload_n 0, 1) := by decide +kernel
theorem dX12_skyPart_41 : decode cX12_skyPart 41 = .ok (.invokevirtual 206, 3) := by decide +kernel
theorem dX12_skyPart_44 : decode cX12_skyPart 44 = .ok (.istore_n 1, 1) := by decide +kernel
theorem dX12_skyPart_45 : decode cX12_skyPart 45 = .ok (.goto 17, 3) := by decide +kernel
theorem dX12_skyPart_48 : decode cX12_skyPart 48 = .ok (.aload_n 0, 1) := by decide +kernel
theorem dX12_skyPart_49 : decode cX12_skyPart 49 = .ok (.invokevirtual 209, 3) := by decide +kernel
theorem dX12_skyPart_52 : decode cX12_skyPart 52 = .ok (.istore_n 1, 1) := by decide +kernel
theorem dX12_skyPart_53 : decode cX12_skyPart 53 = .ok (.goto 9, 3) := by decide +kernel
theorem dX12_skyPart_56 : decode cX12_skyPart 56 = .ok (.aload_n 0, 1) := by decide +kernel
theorem dX12_skyPart_57 : decode cX12_skyPart 57 = .ok (.iconst 2, 1) := by decide +kernel
theorem dX12_skyPart_58 : decode cX12_skyPart 58 = .ok (.invokevirtual 164, 3) := by decide +kernel
theorem dX12_skyPart_61 : decode cX12_skyPart 61 = .ok (.ireturn, 1) := by decide +kernel
theorem dX12_skyPart_62 : decode cX12_skyPart 62 = .ok (.iload_n 1, 1) := by decide +kernel
theorem dX12_skyPart_63 : decode cX12_skyPart 63 = .ok (.ifCond .eq 16, 3) := by decide +kernel
theorem dX12_skyPart_66 : decode cX12_skyPart 66 = .ok (.aload_n 0, 1) := by decide +kernel
theorem dX12_skyPart_67 : decode cX12_skyPart 67 = .ok (.bipush 59, 2) := by decide +kernel
theorem dX12_skyPart_69 : decode cX12_skyPart 69 = .ok (.invokevirtual 212, 3) := by decide +kernel
theorem dX12_skyPart_72 : decode cX12_skyPart 72 = .ok (.ifCond .eq 7, 3) := by decide +kernel
theorem dX12_skyPart_75 : decode cX12_skyPart 75 = .ok (.iconst 1, 1) := by decide +kernel
theorem dX12_skyPart_76 : decode cX12_skyPart 76 = .ok (.goto 4, 3) := by decide +kernel
theorem dX12_skyPart_79 : decode cX12_skyPart 79 = .ok (.iconst 0, 1) := by decide +kernel
theorem dX12_skyPart_80 : decode cX12_skyPart 80 = .ok (.ireturn, 1) := by decide +kernel
