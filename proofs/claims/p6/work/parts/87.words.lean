theorem qk_X12_407 : Cond.constantLong RX12 407 (10) ∈ gw := tbt (tb9 (List.mem_of_getElem? (i := 34) rfl)) rfl
theorem qc_X12_bits : Cond.code yX12_bits cX12_bits 3 (some .int) ∈ gw := tbt (tb9 (List.mem_of_getElem? (i := 37) rfl)) rfl
theorem qt_yX12_bits : Cond.static yX12_bits ∈ gw := tbt (tb9 (List.mem_of_getElem? (i := 36) rfl)) rfl
theorem ci_X12_bits : CIs yX12_bits cX12_bits 3 (some .int) 1 := ⟨qc_X12_bits, qt_yX12_bits, qz_X12, by decide +kernel⟩
theorem qm_X12_409 : Cond.methodLink RX12 409 yX12_bits ∈ gw := tbt (tb9 (List.mem_of_getElem? (i := 35) rfl)) rfl
theorem dX12_mean_0 : decode cX12_mean 0 = .ok (.iload_n 1, 1) := by decide +kernel
theorem dX12_mean_1 : decode cX12_mean 1 = .ok (.i2l, 1) := by decide +kernel
theorem dX12_mean_2 : decode cX12_mean 2 = .ok (.lconst 0, 1) := by decide +kernel
theorem dX12_mean_3 : decode cX12_mean 3 = .ok (.ldc2_w 399, 3) := by decide +kernel
theorem dX12_mean_6 : decode cX12_mean 6 = .ok (.invokestatic 295, 3) := by decide +kernel
theorem dX12_mean_9 : decode cX12_mean 9 = .ok (.ifCond .eq 26, 3) := by decide +kernel
theorem dX12_mean_12 : decode cX12_mean 12 = .ok (.iload_n 2, 1) := by decide +kernel
theorem dX12_mean_13 : decode cX12_mean 13 = .ok (.i2l, 1) := by decide +kernel
theorem dX12_mean_14 : decode cX12_mean 14 = .ok (.lconst 1, 1) := by decide +kernel
theorem dX12_mean_15 : decode cX12_mean 15 = .ok (.ldc2_w 407, 3) := by decide +kernel
theorem dX12_mean_18 : decode cX12_mean 18 = .ok (.invokestatic 295, 3) := by decide +kernel
theorem dX12_mean_21 : decode cX12_mean 21 = .ok (.ifCond .eq 14, 3) := by decide +kernel
theorem dX12_mean_24 : decode cX12_mean 24 = .ok (.iload_n 1, 1) := by decide +kernel
theorem dX12_mean_25 : decode cX12_mean 25 = .ok (.iload_n 2, 1) := by decide +kernel
theorem dX12_mean_26 : decode cX12_mean 26 = .ok (.iadd, 1) := by decide +kernel
theorem dX12_mean_27 : decode cX12_mean 27 = .ok (.iconst 1, 1) := by decide +kernel
theorem dX12_mean_28 : decode cX12_mean 28 = .ok (.isub, 1) := by decide +kernel
theorem dX12_mean_29 : decode cX12_mean 29 = .ok (.sipush 9999, 3) := by decide +kernel
theorem dX12_mean_32 : decode cX12_mean 32 = .ok (.if_icmp .le 9, 3) := by decide +kernel
theorem dX12_mean_35 : decode cX12_mean 35 = .ok (.aload_n 0, 1) := by decide +kernel
theorem dX12_mean_36 : decode cX12_mean 36 = .ok (.iconst 1, 1) := by decide +kernel
theorem dX12_mean_37 : decode cX12_mean 37 = .ok (.invokevirtual 89, 3) := by decide +kernel
theorem dX12_mean_40 : decode cX12_mean 40 = .ok (.ireturn, 1) := by decide +kernel
theorem dX12_mean_41 : decode cX12_mean 41 = .ok (.aload_n 0, 1) := by decide +kernel
theorem dX12_mean_42 : decode cX12_mean 42 = .ok (.getfield 7, 3) := by decide +kernel
theorem dX12_mean_45 : decode cX12_mean 45 = .ok (.iconst 5, 1) := by decide +kernel
theorem dX12_mean_46 : decode cX12_mean 46 = .ok (.iaload, 1) := by decide +kernel
theorem dX12_mean_47 : decode cX12_mean 47 = .ok (.iconst (-1), 1) := by decide +kernel
theorem dX12_mean_48 : decode cX12_mean 48 = .ok (.if_icmp .ne 10, 3) := by decide +kernel
theorem dX12_mean_51 : decode cX12_mean 51 = .ok (.aload_n 0, 1) := by decide +kernel
theorem dX12_mean_52 : decode cX12_mean 52 = .ok (.bipush 6, 2) := by decide +kernel
theorem dX12_mean_54 : decode cX12_mean 54 = .ok (.invokevirtual 89, 3) := by decide +kernel
theorem dX12_mean_57 : decode cX12_mean 57 = .ok (.ireturn, 1) := by decide +kernel
theorem dX12_mean_58 : decode cX12_mean 58 = .ok (.iconst 0, 1) := by decide +kernel
theorem dX12_mean_59 : decode cX12_mean 59 = .ok (.istore_n 3, 1) := by decide +kernel
theorem dX12_mean_60 : decode cX12_mean 60 = .ok (.iload_n 3, 1) := by decide +kernel
theorem dX12_mean_61 : decode cX12_mean 61 = .ok (.sipush 520, 3) := by decide +kernel
theorem dX12_mean_64 : decode cX12_mean 64 = .ok (.if_icmp .ge 25, 3) := by decide +kernel
theorem dX12_mean_67 : decode cX12_mean 67 = .ok (.aload_n 0, 1) := by decide +kernel
theorem dX12_mean_68 : decode cX12_mean 68 = .ok (.getfield 7, 3) := by decide +kernel
theorem dX12_mean_71 : decode cX12_mean 71 = .ok (.sipush 4450, 3) := by decide +kernel
theorem dX12_mean_74 : decode cX12_mean 74 = .ok (.iload_n 3, 1) := by decide +kernel
theorem dX12_mean_75 : decode cX12_mean 75 = .ok (.iadd, 1) := by decide +kernel
theorem dX12_mean_76 : decode cX12_mean 76 = .ok (.aload_n 0, 1) := by decide +kernel
theorem dX12_mean_77 : decode cX12_mean 77 = .ok (.getfield 7, 3) := by decide +kernel
theorem dX12_mean_80 : decode cX12_mean 80 = .ok (.iload_n 3, 1) := by decide +kernel
theorem dX12_mean_81 : decode cX12_mean 81 = .ok (.iaload, 1) := by decide +kernel
theorem dX12_mean_82 : decode cX12_mean 82 = .ok (.iastore, 1) := by decide +kernel
theorem dX12_mean_83 : decode cX12_mean 83 = .ok (.iinc 3 1, 3) := by decide +kernel
theorem dX12_mean_86 : decode cX12_mean 86 = .ok (.goto (-26), 3) := by decide +kernel
theorem dX12_mean_89 : decode cX12_mean 89 = .ok (.lconst 0, 1) := by decide +kernel
theorem dX12_mean_90 : decode cX12_mean 90 = .ok (.lstore_n 3, 1) := by decide +kernel
theorem dX12_mean_91 : decode cX12_mean 91 = .ok (.iconst 0, 1) := by decide +kernel
theorem dX12_mean_92 : decode cX12_mean 92 = .ok (.istore 5, 2) := by decide +kernel
theorem dX12_mean_94 : decode cX12_mean 94 = .ok (.iload 5, 2) := by decide +kernel
theorem dX12_mean_96 : decode cX12_mean 96 = .ok (.iload_n 2, 1) := by decide +kernel
theorem dX12_mean_97 : decode cX12_mean 97 = .ok (.if_icmp .ge 73, 3) := by decide +kernel
theorem dX12_mean_100 : decode cX12_mean 100 = .ok (.aload_n 0, 1) := by decide +kernel
theorem dX12_mean_101 : decode cX12_mean 101 = .ok (.iload_n 1, 1) := by decide +kernel
theorem dX12_mean_102 : decode cX12_mean 102 = .ok (.iload 5, 2) := by decide +kernel
theorem dX12_mean_104 : decode cX12_mean 104 = .ok (.iadd, 1) := by decide +kernel
theorem dX12_mean_105 : decode cX12_mean 105 = .ok (.invokevirtual 401, 3) := by decide +kernel
theorem dX12_mean_108 : decode cX12_mean 108 = .ok (.lload_n 3, 1) := by decide +kernel
theorem dX12_mean_109 : decode cX12_mean 109 = .ok (.aload_n 0, 1) := by decide +kernel
theorem dX12_mean_110 : decode cX12_mean 110 = .ok (.getfield 7, 3) := by decide +kernel
theorem dX12_mean_113 : decode cX12_mean 113 = .ok (.bipush 118, 2) := by decide +kernel
theorem dX12_mean_115 : decode cX12_mean 115 = .ok (.aload_n 0, 1) := by decide +kernel
theorem dX12_mean_116 : decode cX12_mean 116 = .ok (.getfield 7, 3) := by decide +kernel
theorem dX12_mean_119 : decode cX12_mean 119 = .ok (.iconst 3, 1) := by decide +kernel
theorem dX12_mean_120 : decode cX12_mean 120 = .ok (.iaload, 1) := by decide +kernel
theorem dX12_mean_121 : decode cX12_mean 121 = .ok (.iadd, 1) := by decide +kernel
theorem dX12_mean_122 : decode cX12_mean 122 = .ok (.iaload, 1) := by decide +kernel
theorem dX12_mean_123 : decode cX12_mean 123 = .ok (.invokestatic 409, 3) := by decide +kernel
theorem dX12_mean_126 : decode cX12_mean 126 = .ok (.i2l, 1) := by decide +kernel
theorem dX12_mean_127 : decode cX12_mean 127 = .ok (.ladd, 1) := by decide +kernel
theorem dX12_mean_128 : decode cX12_mean 128 = .ok (.lstore_n 3, 1) := by decide +kernel
theorem dX12_mean_129 : decode cX12_mean 129 = .ok (.iconst 0, 1) := by decide +kernel
theorem dX12_mean_130 : decode cX12_mean 130 = .ok (.istore 6, 2) := by decide +kernel
theorem dX12_mean_132 : decode cX12_mean 132 = .ok (.iload 6, 2) := by decide +kernel
theorem dX12_mean_134 : decode cX12_mean 134 = .ok (.sipush 520, 3) := by decide +kernel
theorem dX12_mean_137 : decode cX12_mean 137 = .ok (.if_icmp .ge 27, 3) := by decide +kernel
theorem dX12_mean_140 : decode cX12_mean 140 = .ok (.aload_n 0, 1) := by decide +kernel
theorem dX12_mean_141 : decode cX12_mean 141 = .ok (.getfield 7, 3) := by decide +kernel
theorem dX12_mean_144 : decode cX12_mean 144 = .ok (.iload 6, 2) := by decide +kernel
theorem dX12_mean_146 : decode cX12_mean 146 = .ok (.aload_n 0, 1) := by decide +kernel
theorem dX12_mean_147 : decode cX12_mean 147 = .ok (.getfield 7, 3) := by decide +kernel
theorem dX12_mean_150 : decode cX12_mean 150 = .ok (.sipush 4450, 3) := by decide +kernel
theorem dX12_mean_153 : decode cX12_mean 153 = .ok (.iload 6, 2) := by decide +kernel
theorem dX12_mean_155 : decode cX12_mean 155 = .ok (.iadd, 1) := by decide +kernel
theorem dX12_mean_156 : decode cX12_mean 156 = .ok (.iaload, 1) := by decide +kernel
theorem dX12_mean_157 : decode cX12_mean 157 = .ok (.iastore, 1) := by decide +kernel
theorem dX12_mean_158 : decode cX12_mean 158 = .ok (.iinc 6 1, 3) := by decide +kernel
theorem dX12_mean_161 : decode cX12_mean 161 = .ok (.goto (-29), 3) := by decide +kernel
theorem dX12_mean_164 : decode cX12_mean 164 = .ok (.iinc 5 1, 3) := by decide +kernel
theorem dX12_mean_167 : decode cX12_mean 167 = .ok (.goto (-73), 3) := by decide +kernel
theorem dX12_mean_170 : decode cX12_mean 170 = .ok (.aload_n 0, 1) := by decide +kernel
theorem dX12_mean_171 : decode cX12_mean 171 = .ok (.lload_n 3, 1) := by decide +kernel
theorem dX12_mean_172 : decode cX12_mean 172 = .ok (.iload_n 2, 1) := by decide +kernel
theorem dX12_mean_173 : decode cX12_mean 173 = .ok (.i2l, 1) := by decide +kernel
theorem dX12_mean_174 : decode cX12_mean 174 = .ok (.invokevirtual 359, 3) := by decide +kernel
theorem dX12_mean_177 : decode cX12_mean 177 = .ok (.ireturn, 1) := by decide +kernel
