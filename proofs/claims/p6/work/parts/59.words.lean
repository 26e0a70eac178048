theorem qc_X7_holdsWithin : Cond.code yX7_holdsWithin cX7_holdsWithin 4 (some .boolean) ∈ gw := tbt (tb4 (List.mem_of_getElem? (i := 189) rfl)) rfl
theorem qi_yX7_holdsWithin : Cond.instanceMethod yX7_holdsWithin ∈ gw := tbt (tb4 (List.mem_of_getElem? (i := 187) rfl)) rfl
theorem qs_X7_holdsWithin : Cond.selects (yX7_holdsWithin).cls yX7_holdsWithin yX7_holdsWithin ∈ gw := tbt (tb4 (List.mem_of_getElem? (i := 188) rfl)) rfl
theorem ci_X7_holdsWithin : CIv yX7_holdsWithin cX7_holdsWithin 4 (some .boolean) 2 := ⟨qc_X7_holdsWithin, qi_yX7_holdsWithin, qs_X7_holdsWithin, qz_X7, by decide +kernel⟩
theorem qm_X11_286 : Cond.methodLink RX11 286 yX7_holdsWithin ∈ gw := tbt (tb4 (List.mem_of_getElem? (i := 186) rfl)) rfl
theorem dX11_early_0 : decode cX11_early 0 = .ok (.aload_n 0, 1) := by decide +kernel
theorem dX11_early_1 : decode cX11_early 1 = .ok (.iload_n 1, 1) := by decide +kernel
theorem dX11_early_2 : decode cX11_early 2 = .ok (.iload_n 2, 1) := by decide +kernel
theorem dX11_early_3 : decode cX11_early 3 = .ok (.invokevirtual 268, 3) := by decide +kernel
theorem dX11_early_6 : decode cX11_early 6 = .ok (.ifCond .eq 10, 3) := by decide +kernel
theorem dX11_early_9 : decode cX11_early 9 = .ok (.iload_n 3, 1) := by decide +kernel
theorem dX11_early_10 : decode cX11_early 10 = .ok (.invokestatic 99, 3) := by decide +kernel
theorem dX11_early_13 : decode cX11_early 13 = .ok (.ifCond .ne 9, 3) := by decide +kernel
theorem dX11_early_16 : decode cX11_early 16 = .ok (.aload_n 0, 1) := by decide +kernel
theorem dX11_early_17 : decode cX11_early 17 = .ok (.iconst 1, 1) := by decide +kernel
theorem dX11_early_18 : decode cX11_early 18 = .ok (.invokevirtual 126, 3) := by decide +kernel
theorem dX11_early_21 : decode cX11_early 21 = .ok (.ireturn, 1) := by decide +kernel
theorem dX11_early_22 : decode cX11_early 22 = .ok (.aload_n 0, 1) := by decide +kernel
theorem dX11_early_23 : decode cX11_early 23 = .ok (.getfield 11, 3) := by decide +kernel
theorem dX11_early_26 : decode cX11_early 26 = .ok (.iload_n 3, 1) := by decide +kernel
theorem dX11_early_27 : decode cX11_early 27 = .ok (.aaload, 1) := by decide +kernel
theorem dX11_early_28 : decode cX11_early 28 = .ok (.astore 4, 2) := by decide +kernel
theorem dX11_early_30 : decode cX11_early 30 = .ok (.aload_n 0, 1) := by decide +kernel
theorem dX11_early_31 : decode cX11_early 31 = .ok (.getfield 18, 3) := by decide +kernel
theorem dX11_early_34 : decode cX11_early 34 = .ok (.getfield 54, 3) := by decide +kernel
theorem dX11_early_37 : decode cX11_early 37 = .ok (.getfield 169, 3) := by decide +kernel
theorem dX11_early_40 : decode cX11_early 40 = .ok (.istore 5, 2) := by decide +kernel
theorem dX11_early_42 : decode cX11_early 42 = .ok (.aload 4, 2) := by decide +kernel
theorem dX11_early_44 : decode cX11_early 44 = .ok (.invokevirtual 134, 3) := by decide +kernel
theorem dX11_early_47 : decode cX11_early 47 = .ok (.ifCond .eq 9, 3) := by decide +kernel
theorem dX11_early_50 : decode cX11_early 50 = .ok (.aload_n 0, 1) := by decide +kernel
theorem dX11_early_51 : decode cX11_early 51 = .ok (.iconst 2, 1) := by decide +kernel
theorem dX11_early_52 : decode cX11_early 52 = .ok (.invokevirtual 126, 3) := by decide +kernel
theorem dX11_early_55 : decode cX11_early 55 = .ok (.ireturn, 1) := by decide +kernel
theorem dX11_early_56 : decode cX11_early 56 = .ok (.aload 4, 2) := by decide +kernel
theorem dX11_early_58 : decode cX11_early 58 = .ok (.getfield 283, 3) := by decide +kernel
theorem dX11_early_61 : decode cX11_early 61 = .ok (.iload 5, 2) := by decide +kernel
theorem dX11_early_63 : decode cX11_early 63 = .ok (.if_icmp .ge 9, 3) := by decide +kernel
theorem dX11_early_66 : decode cX11_early 66 = .ok (.aload_n 0, 1) := by decide +kernel
theorem dX11_early_67 : decode cX11_early 67 = .ok (.iconst 3, 1) := by decide +kernel
theorem dX11_early_68 : decode cX11_early 68 = .ok (.invokevirtual 126, 3) := by decide +kernel
theorem dX11_early_71 : decode cX11_early 71 = .ok (.ireturn, 1) := by decide +kernel
theorem dX11_early_72 : decode cX11_early 72 = .ok (.aload 4, 2) := by decide +kernel
theorem dX11_early_74 : decode cX11_early 74 = .ok (.iload 5, 2) := by decide +kernel
theorem dX11_early_76 : decode cX11_early 76 = .ok (.sipush 500, 3) := by decide +kernel
theorem dX11_early_79 : decode cX11_early 79 = .ok (.invokevirtual 286, 3) := by decide +kernel
theorem dX11_early_82 : decode cX11_early 82 = .ok (.ifCond .ne 9, 3) := by decide +kernel
theorem dX11_early_85 : decode cX11_early 85 = .ok (.aload_n 0, 1) := by decide +kernel
theorem dX11_early_86 : decode cX11_early 86 = .ok (.iconst 5, 1) := by decide +kernel
theorem dX11_early_87 : decode cX11_early 87 = .ok (.invokevirtual 126, 3) := by decide +kernel
theorem dX11_early_90 : decode cX11_early 90 = .ok (.ireturn, 1) := by decide +kernel
theorem dX11_early_91 : decode cX11_early 91 = .ok (.aload_n 0, 1) := by decide +kernel
theorem dX11_early_92 : decode cX11_early 92 = .ok (.getfield 70, 3) := by decide +kernel
theorem dX11_early_95 : decode cX11_early 95 = .ok (.iload_n 1, 1) := by decide +kernel
theorem dX11_early_96 : decode cX11_early 96 = .ok (.iload_n 2, 1) := by decide +kernel
theorem dX11_early_97 : decode cX11_early 97 = .ok (.invokevirtual 271, 3) := by decide +kernel
theorem dX11_early_100 : decode cX11_early 100 = .ok (.iconst 0, 1) := by decide +kernel
theorem dX11_early_101 : decode cX11_early 101 = .ok (.istore 6, 2) := by decide +kernel
theorem dX11_early_103 : decode cX11_early 103 = .ok (.iconst 0, 1) := by decide +kernel
theorem dX11_early_104 : decode cX11_early 104 = .ok (.istore 7, 2) := by decide +kernel
theorem dX11_early_106 : decode cX11_early 106 = .ok (.iload 7, 2) := by decide +kernel
theorem dX11_early_108 : decode cX11_early 108 = .ok (.iload 5, 2) := by decide +kernel
theorem dX11_early_110 : decode cX11_early 110 = .ok (.if_icmp .ge 55, 3) := by decide +kernel
theorem dX11_early_113 : decode cX11_early 113 = .ok (.aload_n 0, 1) := by decide +kernel
theorem dX11_early_114 : decode cX11_early 114 = .ok (.getfield 70, 3) := by decide +kernel
theorem dX11_early_117 : decode cX11_early 117 = .ok (.getfield 274, 3) := by decide +kernel
theorem dX11_early_120 : decode cX11_early 120 = .ok (.iload 7, 2) := by decide +kernel
theorem dX11_early_122 : decode cX11_early 122 = .ok (.iaload, 1) := by decide +kernel
theorem dX11_early_123 : decode cX11_early 123 = .ok (.iconst (-1), 1) := by decide +kernel
theorem dX11_early_124 : decode cX11_early 124 = .ok (.if_icmp .eq 26, 3) := by decide +kernel
theorem dX11_early_127 : decode cX11_early 127 = .ok (.aload 4, 2) := by decide +kernel
theorem dX11_early_129 : decode cX11_early 129 = .ok (.getfield 130, 3) := by decide +kernel
theorem dX11_early_132 : decode cX11_early 132 = .ok (.iload 7, 2) := by decide +kernel
theorem dX11_early_134 : decode cX11_early 134 = .ok (.laload, 1) := by decide +kernel
theorem dX11_early_135 : decode cX11_early 135 = .ok (.aload_n 0, 1) := by decide +kernel
theorem dX11_early_136 : decode cX11_early 136 = .ok (.getfield 70, 3) := by decide +kernel
theorem dX11_early_139 : decode cX11_early 139 = .ok (.getfield 274, 3) := by decide +kernel
theorem dX11_early_142 : decode cX11_early 142 = .ok (.iload 7, 2) := by decide +kernel
theorem dX11_early_144 : decode cX11_early 144 = .ok (.iaload, 1) := by decide +kernel
theorem dX11_early_145 : decode cX11_early 145 = .ok (.i2l, 1) := by decide +kernel
theorem dX11_early_146 : decode cX11_early 146 = .ok (.lcmp, 1) := by decide +kernel
theorem dX11_early_147 : decode cX11_early 147 = .ok (.ifCond .ge 12, 3) := by decide +kernel
theorem dX11_early_150 : decode cX11_early 150 = .ok (.iload 6, 2) := by decide +kernel
theorem dX11_early_152 : decode cX11_early 152 = .ok (.iconst 1, 1) := by decide +kernel
theorem dX11_early_153 : decode cX11_early 153 = .ok (.iload 7, 2) := by decide +kernel
theorem dX11_early_155 : decode cX11_early 155 = .ok (.ishl, 1) := by decide +kernel
theorem dX11_early_156 : decode cX11_early 156 = .ok (.ior, 1) := by decide +kernel
theorem dX11_early_157 : decode cX11_early 157 = .ok (.istore 6, 2) := by decide +kernel
theorem dX11_early_159 : decode cX11_early 159 = .ok (.iinc 7 1, 3) := by decide +kernel
theorem dX11_early_162 : decode cX11_early 162 = .ok (.goto (-56), 3) := by decide +kernel
theorem dX11_early_165 : decode cX11_early 165 = .ok (.aload_n 0, 1) := by decide +kernel
theorem dX11_early_166 : decode cX11_early 166 = .ok (.iload 6, 2) := by decide +kernel
theorem dX11_early_168 : decode cX11_early 168 = .ok (.invokevirtual 174, 3) := by decide +kernel
theorem dX11_early_171 : decode cX11_early 171 = .ok (.ireturn, 1) := by decide +kernel
