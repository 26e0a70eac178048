theorem qc_X12_rockTo : Cond.code yX12_rockTo cX12_rockTo 2 (some .boolean) ∈ gw := tbt (tb7 (List.mem_of_getElem? (i := 82) rfl)) rfl
theorem qi_yX12_rockTo : Cond.instanceMethod yX12_rockTo ∈ gw := tbt (tb7 (List.mem_of_getElem? (i := 81) rfl)) rfl
theorem qs_X12_rockTo : Cond.selects (yX12_rockTo).cls yX12_rockTo yX12_rockTo ∈ gw := tb0 (List.mem_of_getElem? (i := 63) rfl) rfl
theorem ci_X12_rockTo : CIv yX12_rockTo cX12_rockTo 2 (some .boolean) 1 := ⟨qc_X12_rockTo, qi_yX12_rockTo, qs_X12_rockTo, qz_X12, by decide +kernel⟩
theorem qm_X12_225 : Cond.methodLink RX12 225 yX12_rockTo ∈ gw := tbt (tb7 (List.mem_of_getElem? (i := 79) rfl)) rfl
theorem qc_X12_test : Cond.code yX12_test cX12_test 3 (some .boolean) ∈ gw := tbt (tb7 (List.mem_of_getElem? (i := 86) rfl)) rfl
theorem qi_yX12_test : Cond.instanceMethod yX12_test ∈ gw := tbt (tb7 (List.mem_of_getElem? (i := 85) rfl)) rfl
theorem qs_X12_test : Cond.selects (yX12_test).cls yX12_test yX12_test ∈ gw := tb0 (List.mem_of_getElem? (i := 64) rfl) rfl
theorem ci_X12_test : CIv yX12_test cX12_test 3 (some .boolean) 1 := ⟨qc_X12_test, qi_yX12_test, qs_X12_test, qz_X12, by decide +kernel⟩
theorem qm_X12_228 : Cond.methodLink RX12 228 yX12_test ∈ gw := tbt (tb7 (List.mem_of_getElem? (i := 83) rfl)) rfl
theorem dX12_rockTo_0 : decode cX12_rockTo 0 = .ok (.aload_n 0, 1) := by decide +kernel
theorem dX12_rockTo_1 : decode cX12_rockTo 1 = .ok (.iconst 0, 1) := by decide +kernel
theorem dX12_rockTo_2 : decode cX12_rockTo 2 = .ok (.aload_n 0, 1) := by decide +kernel
theorem dX12_rockTo_3 : decode cX12_rockTo 3 = .ok (.getfield 7, 3) := by decide +kernel
theorem dX12_rockTo_6 : decode cX12_rockTo 6 = .ok (.iconst 0, 1) := by decide +kernel
theorem dX12_rockTo_7 : decode cX12_rockTo 7 = .ok (.iaload, 1) := by decide +kernel
theorem dX12_rockTo_8 : decode cX12_rockTo 8 = .ok (.iload_n 1, 1) := by decide +kernel
theorem dX12_rockTo_9 : decode cX12_rockTo 9 = .ok (.invokevirtual 195, 3) := by decide +kernel
theorem dX12_rockTo_12 : decode cX12_rockTo 12 = .ok (.ireturn, 1) := by decide +kernel
theorem dX12_test_0 : decode cX12_test 0 = .ok (.aload_n 0, 1) := by decide +kernel
theorem dX12_test_1 : decode cX12_test 1 = .ok (.ldc 175, 2) := by decide +kernel
theorem dX12_test_3 : decode cX12_test 3 = .ok (.invokevirtual 167, 3) := by decide +kernel
theorem dX12_test_6 : decode cX12_test 6 = .ok (.istore_n 2, 1) := by decide +kernel
theorem dX12_test_7 : decode cX12_test 7 = .ok (.iload_n 2, 1) := by decide +kernel
theorem dX12_test_8 : decode cX12_test 8 = .ok (.bipush 15, 2) := by decide +kernel
theorem dX12_test_10 : decode cX12_test 10 = .ok (.if_icmp .eq 21, 3) := by decide +kernel
theorem dX12_test_13 : decode cX12_test 13 = .ok (.iload_n 2, 1) := by decide +kernel
theorem dX12_test_14 : decode cX12_test 14 = .ok (.bipush 9, 2) := by decide +kernel
theorem dX12_test_16 : decode cX12_test 16 = .ok (.if_icmp .eq 15, 3) := by decide +kernel
theorem dX12_test_19 : decode cX12_test 19 = .ok (.iload_n 2, 1) := by decide +kernel
theorem dX12_test_20 : decode cX12_test 20 = .ok (.bipush 23, 2) := by decide +kernel
theorem dX12_test_22 : decode cX12_test 22 = .ok (.if_icmp .eq 9, 3) := by decide +kernel
theorem dX12_test_25 : decode cX12_test 25 = .ok (.aload_n 0, 1) := by decide +kernel
theorem dX12_test_26 : decode cX12_test 26 = .ok (.iconst 2, 1) := by decide +kernel
theorem dX12_test_27 : decode cX12_test 27 = .ok (.invokevirtual 164, 3) := by decide +kernel
theorem dX12_test_30 : decode cX12_test 30 = .ok (.ireturn, 1) := by decide +kernel
theorem dX12_test_31 : decode cX12_test 31 = .ok (.aload_n 0, 1) := by decide +kernel
theorem dX12_test_32 : decode cX12_test 32 = .ok (.getfield 7, 3) := by decide +kernel
theorem dX12_test_35 : decode cX12_test 35 = .ok (.iload_n 1, 1) := by decide +kernel
theorem dX12_test_36 : decode cX12_test 36 = .ok (.sipush 1900, 3) := by decide +kernel
theorem dX12_test_39 : decode cX12_test 39 = .ok (.iload_n 2, 1) := by decide +kernel
theorem dX12_test_40 : decode cX12_test 40 = .ok (.iadd, 1) := by decide +kernel
theorem dX12_test_41 : decode cX12_test 41 = .ok (.iastore, 1) := by decide +kernel
theorem dX12_test_42 : decode cX12_test 42 = .ok (.aload_n 0, 1) := by decide +kernel
theorem dX12_test_43 : decode cX12_test 43 = .ok (.invokevirtual 158, 3) := by decide +kernel
theorem dX12_test_46 : decode cX12_test 46 = .ok (.iload_n 2, 1) := by decide +kernel
theorem dX12_test_47 : decode cX12_test 47 = .ok (.bipush 9, 2) := by decide +kernel
theorem dX12_test_49 : decode cX12_test 49 = .ok (.if_icmp .ne 11, 3) := by decide +kernel
theorem dX12_test_52 : decode cX12_test 52 = .ok (.aload_n 0, 1) := by decide +kernel
theorem dX12_test_53 : decode cX12_test 53 = .ok (.iload_n 1, 1) := by decide +kernel
theorem dX12_test_54 : decode cX12_test 54 = .ok (.iconst 1, 1) := by decide +kernel
theorem dX12_test_55 : decode cX12_test 55 = .ok (.iadd, 1) := by decide +kernel
theorem dX12_test_56 : decode cX12_test 56 = .ok (.invokevirtual 225, 3) := by decide +kernel
theorem dX12_test_59 : decode cX12_test 59 = .ok (.ireturn, 1) := by decide +kernel
theorem dX12_test_60 : decode cX12_test 60 = .ok (.iload_n 2, 1) := by decide +kernel
theorem dX12_test_61 : decode cX12_test 61 = .ok (.bipush 23, 2) := by decide +kernel
theorem dX12_test_63 : decode cX12_test 63 = .ok (.if_icmp .ne 40, 3) := by decide +kernel
theorem dX12_test_66 : decode cX12_test 66 = .ok (.aload_n 0, 1) := by decide +kernel
theorem dX12_test_67 : decode cX12_test 67 = .ok (.iload_n 1, 1) := by decide +kernel
theorem dX12_test_68 : decode cX12_test 68 = .ok (.iconst 1, 1) := by decide +kernel
theorem dX12_test_69 : decode cX12_test 69 = .ok (.iadd, 1) := by decide +kernel
theorem dX12_test_70 : decode cX12_test 70 = .ok (.invokevirtual 225, 3) := by decide +kernel
theorem dX12_test_73 : decode cX12_test 73 = .ok (.ifCond .eq 28, 3) := by decide +kernel
theorem dX12_test_76 : decode cX12_test 76 = .ok (.aload_n 0, 1) := by decide +kernel
theorem dX12_test_77 : decode cX12_test 77 = .ok (.ldc 175, 2) := by decide +kernel
theorem dX12_test_79 : decode cX12_test 79 = .ok (.bipush 24, 2) := by decide +kernel
theorem dX12_test_81 : decode cX12_test 81 = .ok (.invokevirtual 184, 3) := by decide +kernel
theorem dX12_test_84 : decode cX12_test 84 = .ok (.ifCond .eq 17, 3) := by decide +kernel
theorem dX12_test_87 : decode cX12_test 87 = .ok (.aload_n 0, 1) := by decide +kernel
theorem dX12_test_88 : decode cX12_test 88 = .ok (.iload_n 1, 1) := by decide +kernel
theorem dX12_test_89 : decode cX12_test 89 = .ok (.iconst 2, 1) := by decide +kernel
theorem dX12_test_90 : decode cX12_test 90 = .ok (.iadd, 1) := by decide +kernel
theorem dX12_test_91 : decode cX12_test 91 = .ok (.invokevirtual 225, 3) := by decide +kernel
theorem dX12_test_94 : decode cX12_test 94 = .ok (.ifCond .eq 7, 3) := by decide +kernel
theorem dX12_test_97 : decode cX12_test 97 = .ok (.iconst 1, 1) := by decide +kernel
theorem dX12_test_98 : decode cX12_test 98 = .ok (.goto 4, 3) := by decide +kernel
theorem dX12_test_101 : decode cX12_test 101 = .ok (.iconst 0, 1) := by decide +kernel
theorem dX12_test_102 : decode cX12_test 102 = .ok (.ireturn, 1) := by decide +kernel
theorem dX12_test_103 : decode cX12_test 103 = .ok (.aload_n 0, 1) := by decide +kernel
theorem dX12_test_104 : decode cX12_test 104 = .ok (.bipush 60, 2) := by decide +kernel
theorem dX12_test_106 : decode cX12_test 106 = .ok (.invokevirtual 161, 3) := by decide +kernel
theorem dX12_test_109 : decode cX12_test 109 = .ok (.ifCond .ne 27, 3) := by decide +kernel
theorem dX12_test_112 : decode cX12_test 112 = .ok (.aload_n 0, 1) := by decide +kernel
theorem dX12_test_113 : decode cX12_test 113 = .ok (.bipush 62, 2) := by decide +kernel
theorem dX12_test_115 : decode cX12_test 115 = .ok (.invokevirtual 161, 3) := by decide +kernel
theorem dX12_test_118 : decode cX12_test 118 = .ok (.ifCond .ne 18, 3) := by decide +kernel
theorem dX12_test_121 : decode cX12_test 121 = .ok (.aload_n 0, 1) := by decide +kernel
theorem dX12_test_122 : decode cX12_test 122 = .ok (.bipush 61, 2) := by decide +kernel
theorem dX12_test_124 : decode cX12_test 124 = .ok (.invokevirtual 161, 3) := by decide +kernel
theorem dX12_test_127 : decode cX12_test 127 = .ok (.ifCond .ne 9, 3) := by decide +kernel
theorem dX12_test_130 : decode cX12_test 130 = .ok (.aload_n 0, 1) := by decide +kernel
theorem dX12_test_131 : decode cX12_test 131 = .ok (.iconst 2, 1) := by decide +kernel
theorem dX12_test_132 : decode cX12_test 132 = .ok (.invokevirtual 164, 3) := by decide +kernel
theorem dX12_test_135 : decode cX12_test 135 = .ok (.ireturn, 1) := by decide +kernel
theorem dX12_test_136 : decode cX12_test 136 = .ok (.aload_n 0, 1) := by decide +kernel
theorem dX12_test_137 : decode cX12_test 137 = .ok (.getfield 7, 3) := by decide +kernel
theorem dX12_test_140 : decode cX12_test 140 = .ok (.iload_n 1, 1) := by decide +kernel
theorem dX12_test_141 : decode cX12_test 141 = .ok (.iconst 5, 1) := by decide +kernel
theorem dX12_test_142 : decode cX12_test 142 = .ok (.iadd, 1) := by decide +kernel
theorem dX12_test_143 : decode cX12_test 143 = .ok (.aload_n 0, 1) := by decide +kernel
theorem dX12_test_144 : decode cX12_test 144 = .ok (.getfield 124, 3) := by decide +kernel
theorem dX12_test_147 : decode cX12_test 147 = .ok (.iastore, 1) := by decide +kernel
theorem dX12_test_148 : decode cX12_test 148 = .ok (.aload_n 0, 1) := by decide +kernel
theorem dX12_test_149 : decode cX12_test 149 = .ok (.invokevirtual 158, 3) := by decide +kernel
theorem dX12_test_152 : decode cX12_test 152 = .ok (.aload_n 0, 1) := by decide +kernel
theorem dX12_test_153 : decode cX12_test 153 = .ok (.iload_n 1, 1) := by decide +kernel
theorem dX12_test_154 : decode cX12_test 154 = .ok (.iconst 1, 1) := by decide +kernel
theorem dX12_test_155 : decode cX12_test 155 = .ok (.iadd, 1) := by decide +kernel
theorem dX12_test_156 : decode cX12_test 156 = .ok (.iconst 0, 1) := by decide +kernel
theorem dX12_test_157 : decode cX12_test 157 = .ok (.sipush 400, 3) := by decide +kernel
theorem dX12_test_160 : decode cX12_test 160 = .ok (.invokevirtual 188, 3) := by decide +kernel
theorem dX12_test_163 : decode cX12_test 163 = .ok (.ireturn, 1) := by decide +kernel
theorem dX12_yearOrder_0 : decode cX12_yearOrder 0 = .ok (.iload_n 1, 1) := by decide +kernel
theorem dX12_yearOrder_1 : decode cX12_yearOrder 1 = .ok (.tableswitch 103 15 20 #[39, 50, 78, 86, 97, 39], 39) := by decide +kernel
theorem dX12_yearOrder_40 : decode cX12_yearOrder 40 = .ok (.aload_n 0, 1) := by decide +kernel
theorem dX12_yearOrder_41 : decode cX12_yearOrder 41 = .ok (.iload_n 2, 1) := by decide +kernel
theorem dX12_yearOrder_42 : decode cX12_yearOrder 42 = .ok (.iconst 1, 1) := by decide +kernel
theorem dX12_yearOrder_43 : decode cX12_yearOrder 43 = .ok (.iadd, 1) := by decide +kernel
theorem dX12_yearOrder_44 : decode cX12_yearOrder 44 = .ok (.iconst 1, 1) := by decide +kernel
theorem dX12_yearOrder_45 : decode cX12_yearOrder 45 = .ok (.bipush 99, 2) := by decide +kernel
theorem dX12_yearOrder_47 : decode cX12_yearOrder 47 = .ok (.invokevirtual 188, 3) := by decide +kernel
theorem dX12_yearOrder_50 : decode cX12_yearOrder 50 = .ok (.ireturn, 1) := by decide +kernel
theorem dX12_yearOrder_51 : decode cX12_yearOrder 51 = .ok (.aload_n 0, 1) := by decide +kernel
theorem dX12_yearOrder_52 : decode cX12_yearOrder 52 = .ok (.iload_n 2, 1) := by decide +kernel
theorem dX12_yearOrder_53 : decode cX12_yearOrder 53 = .ok (.iconst 1, 1) := by decide +kernel
theorem dX12_yearOrder_54 : decode cX12_yearOrder 54 = .ok (.iadd, 1) := by decide +kernel
theorem dX12_yearOrder_55 : decode cX12_yearOrder 55 = .ok (.invokevirtual 225, 3) := by decide +kernel
theorem dX12_yearOrder_58 : decode cX12_yearOrder 58 = .ok (.ifCond .eq 19, 3) := by decide +kernel
theorem dX12_yearOrder_61 : decode cX12_yearOrder 61 = .ok (.aload_n 0, 1) := by decide +kernel
theorem dX12_yearOrder_62 : decode cX12_yearOrder 62 = .ok (.iload_n 2, 1) := by decide +kernel
theorem dX12_yearOrder_63 : decode cX12_yearOrder 63 = .ok (.iconst 2, 1) := by decide +kernel
theorem dX12_yearOrder_64 : decode cX12_yearOrder 64 = .ok (.iadd, 1) := by decide +kernel
theorem dX12_yearOrder_65 : decode cX12_yearOrder 65 = .ok (.iconst 0, 1) := by decide +kernel
theorem dX12_yearOrder_66 : decode cX12_yearOrder 66 = .ok (.iconst 1, 1) := by decide +kernel
theorem dX12_yearOrder_67 : decode cX12_yearOrder 67 = .ok (.invokevirtual 188, 3) := by decide +kernel
theorem dX12_yearOrder_70 : decode cX12_yearOrder 70 = .ok (.ifCond .eq 7, 3) := by decide +kernel
theorem dX12_yearOrder_73 : decode cX12_yearOrder 73 = .ok (.iconst 1, 1) := by decide +kernel
theorem dX12_yearOrder_74 : decode cX12_yearOrder 74 = .ok (.goto 4, 3) := by decide +kernel
theorem dX12_yearOrder_77 : decode cX12_yearOrder 77 = .ok (.iconst 0, 1) := by decide +kernel
theorem dX12_yearOrder_78 : decode cX12_yearOrder 78 = .ok (.ireturn, 1) := by decide +kernel
theorem dX12_yearOrder_79 : decode cX12_yearOrder 79 = .ok (.aload_n 0, 1) := by decide +kernel
theorem dX12_yearOrder_80 : decode cX12_yearOrder 80 = .ok (.iload_n 2, 1) := by decide +kernel
theorem dX12_yearOrder_81 : decode cX12_yearOrder 81 = .ok (.iconst 1, 1) := by decide +kernel
theorem dX12_yearOrder_82 : decode cX12_yearOrder 82 = .ok (.iadd, 1) := by decide +kernel
theorem dX12_yearOrder_83 : decode cX12_yearOrder 83 = .ok (.invokevirtual 225, 3) := by decide +kernel
theorem dX12_yearOrder_86 : decode cX12_yearOrder 86 = .ok (.ireturn, 1) := by decide +kernel
theorem dX12_yearOrder_87 : decode cX12_yearOrder 87 = .ok (.aload_n 0, 1) := by decide +kernel
theorem dX12_yearOrder_88 : decode cX12_yearOrder 88 = .ok (.iload_n 2, 1) := by decide +kernel
theorem dX12_yearOrder_89 : decode cX12_yearOrder 89 = .ok (.iconst 1, 1) := by decide +kernel
theorem dX12_yearOrder_90 : decode cX12_yearOrder 90 = .ok (.iadd, 1) := by decide +kernel
theorem dX12_yearOrder_91 : decode cX12_yearOrder 91 = .ok (.iconst 0, 1) := by decide +kernel
theorem dX12_yearOrder_92 : decode cX12_yearOrder 92 = .ok (.bipush 16, 2) := by decide +kernel
theorem dX12_yearOrder_94 : decode cX12_yearOrder 94 = .ok (.invokevirtual 188, 3) := by decide +kernel
theorem dX12_yearOrder_97 : decode cX12_yearOrder 97 = .ok (.ireturn, 1) := by decide +kernel
theorem dX12_yearOrder_98 : decode cX12_yearOrder 98 = .ok (.aload_n 0, 1) := by decide +kernel
theorem dX12_yearOrder_99 : decode cX12_yearOrder 99 = .ok (.iload_n 2, 1) := by decide +kernel
theorem dX12_yearOrder_100 : decode cX12_yearOrder 100 = .ok (.invokevirtual 228, 3) := by decide +kernel
theorem dX12_yearOrder_103 : decode cX12_yearOrder 103 = .ok (.ireturn, 1) := by decide +kernel
theorem dX12_yearOrder_104 : decode cX12_yearOrder 104 = .ok (.iconst 1, 1) := by decide +kernel
theorem dX12_yearOrder_105 : decode cX12_yearOrder 105 = .ok (.ireturn, 1) := by decide +kernel
