theorem qm_X11_388 : Cond.methodLink RX11 388 yX0_copyFrom ∈ gw := tbt (tb6 (List.mem_of_getElem? (i := 15) rfl)) rfl
theorem dX11_mean_0 : decode cX11_mean 0 = .ok (.iload_n 1, 1) := by decide +kernel
theorem dX11_mean_1 : decode cX11_mean 1 = .ok (.sipush 9999, 3) := by decide +kernel
theorem dX11_mean_4 : decode cX11_mean 4 = .ok (.invokestatic 103, 3) := by decide +kernel
theorem dX11_mean_7 : decode cX11_mean 7 = .ok (.ifCond .eq 25, 3) := by decide +kernel
theorem dX11_mean_10 : decode cX11_mean 10 = .ok (.iload_n 2, 1) := by decide +kernel
theorem dX11_mean_11 : decode cX11_mean 11 = .ok (.iconst 1, 1) := by decide +kernel
theorem dX11_mean_12 : decode cX11_mean 12 = .ok (.if_icmp .lt 20, 3) := by decide +kernel
theorem dX11_mean_15 : decode cX11_mean 15 = .ok (.iload_n 2, 1) := by decide +kernel
theorem dX11_mean_16 : decode cX11_mean 16 = .ok (.bipush 10, 2) := by decide +kernel
theorem dX11_mean_18 : decode cX11_mean 18 = .ok (.if_icmp .gt 14, 3) := by decide +kernel
theorem dX11_mean_21 : decode cX11_mean 21 = .ok (.iload_n 1, 1) := by decide +kernel
theorem dX11_mean_22 : decode cX11_mean 22 = .ok (.iload_n 2, 1) := by decide +kernel
theorem dX11_mean_23 : decode cX11_mean 23 = .ok (.iadd, 1) := by decide +kernel
theorem dX11_mean_24 : decode cX11_mean 24 = .ok (.iconst 1, 1) := by decide +kernel
theorem dX11_mean_25 : decode cX11_mean 25 = .ok (.isub, 1) := by decide +kernel
theorem dX11_mean_26 : decode cX11_mean 26 = .ok (.sipush 9999, 3) := by decide +kernel
theorem dX11_mean_29 : decode cX11_mean 29 = .ok (.if_icmp .le 9, 3) := by decide +kernel
theorem dX11_mean_32 : decode cX11_mean 32 = .ok (.aload_n 0, 1) := by decide +kernel
theorem dX11_mean_33 : decode cX11_mean 33 = .ok (.iconst 1, 1) := by decide +kernel
theorem dX11_mean_34 : decode cX11_mean 34 = .ok (.invokevirtual 107, 3) := by decide +kernel
theorem dX11_mean_37 : decode cX11_mean 37 = .ok (.ireturn, 1) := by decide +kernel
theorem dX11_mean_38 : decode cX11_mean 38 = .ok (.aload_n 0, 1) := by decide +kernel
theorem dX11_mean_39 : decode cX11_mean 39 = .ok (.getfield 18, 3) := by decide +kernel
theorem dX11_mean_42 : decode cX11_mean 42 = .ok (.getfield 177, 3) := by decide +kernel
theorem dX11_mean_45 : decode cX11_mean 45 = .ok (.getfield 362, 3) := by decide +kernel
theorem dX11_mean_48 : decode cX11_mean 48 = .ok (.ifCond .ne 10, 3) := by decide +kernel
theorem dX11_mean_51 : decode cX11_mean 51 = .ok (.aload_n 0, 1) := by decide +kernel
theorem dX11_mean_52 : decode cX11_mean 52 = .ok (.bipush 6, 2) := by decide +kernel
theorem dX11_mean_54 : decode cX11_mean 54 = .ok (.invokevirtual 107, 3) := by decide +kernel
theorem dX11_mean_57 : decode cX11_mean 57 = .ok (.ireturn, 1) := by decide +kernel
theorem dX11_mean_58 : decode cX11_mean 58 = .ok (.aload_n 0, 1) := by decide +kernel
theorem dX11_mean_59 : decode cX11_mean 59 = .ok (.getfield 22, 3) := by decide +kernel
theorem dX11_mean_62 : decode cX11_mean 62 = .ok (.getfield 205, 3) := by decide +kernel
theorem dX11_mean_65 : decode cX11_mean 65 = .ok (.aload_n 0, 1) := by decide +kernel
theorem dX11_mean_66 : decode cX11_mean 66 = .ok (.getfield 18, 3) := by decide +kernel
theorem dX11_mean_69 : decode cX11_mean 69 = .ok (.getfield 205, 3) := by decide +kernel
theorem dX11_mean_72 : decode cX11_mean 72 = .ok (.invokevirtual 388, 3) := by decide +kernel
theorem dX11_mean_75 : decode cX11_mean 75 = .ok (.iconst 0, 1) := by decide +kernel
theorem dX11_mean_76 : decode cX11_mean 76 = .ok (.istore_n 3, 1) := by decide +kernel
theorem dX11_mean_77 : decode cX11_mean 77 = .ok (.iconst 0, 1) := by decide +kernel
theorem dX11_mean_78 : decode cX11_mean 78 = .ok (.istore 4, 2) := by decide +kernel
theorem dX11_mean_80 : decode cX11_mean 80 = .ok (.iload 4, 2) := by decide +kernel
theorem dX11_mean_82 : decode cX11_mean 82 = .ok (.iload_n 2, 1) := by decide +kernel
theorem dX11_mean_83 : decode cX11_mean 83 = .ok (.if_icmp .ge 53, 3) := by decide +kernel
theorem dX11_mean_86 : decode cX11_mean 86 = .ok (.aload_n 0, 1) := by decide +kernel
theorem dX11_mean_87 : decode cX11_mean 87 = .ok (.getfield 79, 3) := by decide +kernel
theorem dX11_mean_90 : decode cX11_mean 90 = .ok (.iload_n 1, 1) := by decide +kernel
theorem dX11_mean_91 : decode cX11_mean 91 = .ok (.iload 4, 2) := by decide +kernel
theorem dX11_mean_93 : decode cX11_mean 93 = .ok (.iadd, 1) := by decide +kernel
theorem dX11_mean_94 : decode cX11_mean 94 = .ok (.invokevirtual 366, 3) := by decide +kernel
theorem dX11_mean_97 : decode cX11_mean 97 = .ok (.iload_n 3, 1) := by decide +kernel
theorem dX11_mean_98 : decode cX11_mean 98 = .ok (.aload_n 0, 1) := by decide +kernel
theorem dX11_mean_99 : decode cX11_mean 99 = .ok (.getfield 18, 3) := by decide +kernel
theorem dX11_mean_102 : decode cX11_mean 102 = .ok (.getfield 205, 3) := by decide +kernel
theorem dX11_mean_105 : decode cX11_mean 105 = .ok (.invokevirtual 217, 3) := by decide +kernel
theorem dX11_mean_108 : decode cX11_mean 108 = .ok (.invokestatic 323, 3) := by decide +kernel
theorem dX11_mean_111 : decode cX11_mean 111 = .ok (.iadd, 1) := by decide +kernel
theorem dX11_mean_112 : decode cX11_mean 112 = .ok (.istore_n 3, 1) := by decide +kernel
theorem dX11_mean_113 : decode cX11_mean 113 = .ok (.aload_n 0, 1) := by decide +kernel
theorem dX11_mean_114 : decode cX11_mean 114 = .ok (.getfield 18, 3) := by decide +kernel
theorem dX11_mean_117 : decode cX11_mean 117 = .ok (.getfield 205, 3) := by decide +kernel
theorem dX11_mean_120 : decode cX11_mean 120 = .ok (.aload_n 0, 1) := by decide +kernel
theorem dX11_mean_121 : decode cX11_mean 121 = .ok (.getfield 22, 3) := by decide +kernel
theorem dX11_mean_124 : decode cX11_mean 124 = .ok (.getfield 205, 3) := by decide +kernel
theorem dX11_mean_127 : decode cX11_mean 127 = .ok (.invokevirtual 388, 3) := by decide +kernel
theorem dX11_mean_130 : decode cX11_mean 130 = .ok (.iinc 4 1, 3) := by decide +kernel
theorem dX11_mean_133 : decode cX11_mean 133 = .ok (.goto (-53), 3) := by decide +kernel
theorem dX11_mean_136 : decode cX11_mean 136 = .ok (.aload_n 0, 1) := by decide +kernel
theorem dX11_mean_137 : decode cX11_mean 137 = .ok (.iload_n 3, 1) := by decide +kernel
theorem dX11_mean_138 : decode cX11_mean 138 = .ok (.i2l, 1) := by decide +kernel
theorem dX11_mean_139 : decode cX11_mean 139 = .ok (.iload_n 2, 1) := by decide +kernel
theorem dX11_mean_140 : decode cX11_mean 140 = .ok (.i2l, 1) := by decide +kernel
theorem dX11_mean_141 : decode cX11_mean 141 = .ok (.invokevirtual 343, 3) := by decide +kernel
theorem dX11_mean_144 : decode cX11_mean 144 = .ok (.ireturn, 1) := by decide +kernel
