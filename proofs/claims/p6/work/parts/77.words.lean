theorem qc_X12_fashionSeen : Cond.code yX12_fashionSeen cX12_fashionSeen 5 (some .int) ∈ gw := tbt (tb8 (List.mem_of_getElem? (i := 199) rfl)) rfl
theorem qi_yX12_fashionSeen : Cond.instanceMethod yX12_fashionSeen ∈ gw := tbt (tb8 (List.mem_of_getElem? (i := 198) rfl)) rfl
theorem qs_X12_fashionSeen : Cond.selects (yX12_fashionSeen).cls yX12_fashionSeen yX12_fashionSeen ∈ gw := tb0 (List.mem_of_getElem? (i := 95) rfl) rfl
theorem ci_X12_fashionSeen : CIv yX12_fashionSeen cX12_fashionSeen 5 (some .int) 3 := ⟨qc_X12_fashionSeen, qi_yX12_fashionSeen, qs_X12_fashionSeen, qz_X12, by decide +kernel⟩
theorem qm_X12_366 : Cond.methodLink RX12 366 yX12_fashionSeen ∈ gw := tbt (tb8 (List.mem_of_getElem? (i := 196) rfl)) rfl
theorem qf_X12_380 : Cond.fieldLink RX12 380 "SlowWorldsModel" "drawn" "I" ∈ gw := tbt (tb6 (List.mem_of_getElem? (i := 73) rfl)) rfl
theorem qk_X12_383 : Cond.constant RX12 383 (65536) ∈ gw := tbt (tb9 (List.mem_of_getElem? (i := 17) rfl)) rfl
theorem dX12_bits_0 : decode cX12_bits 0 = .ok (.iconst 0, 1) := by decide +kernel
theorem dX12_bits_1 : decode cX12_bits 1 = .ok (.istore_n 1, 1) := by decide +kernel
theorem dX12_bits_2 : decode cX12_bits 2 = .ok (.iload_n 0, 1) := by decide +kernel
theorem dX12_bits_3 : decode cX12_bits 3 = .ok (.istore_n 2, 1) := by decide +kernel
theorem dX12_bits_4 : decode cX12_bits 4 = .ok (.iload_n 2, 1) := by decide +kernel
theorem dX12_bits_5 : decode cX12_bits 5 = .ok (.ifCond .eq 15, 3) := by decide +kernel
theorem dX12_bits_8 : decode cX12_bits 8 = .ok (.iinc 1 1, 3) := by decide +kernel
theorem dX12_bits_11 : decode cX12_bits 11 = .ok (.iload_n 2, 1) := by decide +kernel
theorem dX12_bits_12 : decode cX12_bits 12 = .ok (.iload_n 2, 1) := by decide +kernel
theorem dX12_bits_13 : decode cX12_bits 13 = .ok (.iconst 1, 1) := by decide +kernel
theorem dX12_bits_14 : decode cX12_bits 14 = .ok (.isub, 1) := by decide +kernel
theorem dX12_bits_15 : decode cX12_bits 15 = .ok (.iand, 1) := by decide +kernel
theorem dX12_bits_16 : decode cX12_bits 16 = .ok (.istore_n 2, 1) := by decide +kernel
theorem dX12_bits_17 : decode cX12_bits 17 = .ok (.goto (-13), 3) := by decide +kernel
theorem dX12_bits_20 : decode cX12_bits 20 = .ok (.iload_n 1, 1) := by decide +kernel
theorem dX12_bits_21 : decode cX12_bits 21 = .ok (.ireturn, 1) := by decide +kernel
theorem dX12_draw_0 : decode cX12_draw 0 = .ok (.aload_n 0, 1) := by decide +kernel
theorem dX12_draw_1 : decode cX12_draw 1 = .ok (.aload_n 0, 1) := by decide +kernel
theorem dX12_draw_2 : decode cX12_draw 2 = .ok (.getfield 380, 3) := by decide +kernel
theorem dX12_draw_5 : decode cX12_draw 5 = .ok (.sipush 2893, 3) := by decide +kernel
theorem dX12_draw_8 : decode cX12_draw 8 = .ok (.imul, 1) := by decide +kernel
theorem dX12_draw_9 : decode cX12_draw 9 = .ok (.sipush 11093, 3) := by decide +kernel
theorem dX12_draw_12 : decode cX12_draw 12 = .ok (.iadd, 1) := by decide +kernel
theorem dX12_draw_13 : decode cX12_draw 13 = .ok (.ldc_w 383, 3) := by decide +kernel
theorem dX12_draw_16 : decode cX12_draw 16 = .ok (.irem, 1) := by decide +kernel
theorem dX12_draw_17 : decode cX12_draw 17 = .ok (.putfield 380, 3) := by decide +kernel
theorem dX12_draw_20 : decode cX12_draw 20 = .ok (.aload_n 0, 1) := by decide +kernel
theorem dX12_draw_21 : decode cX12_draw 21 = .ok (.getfield 380, 3) := by decide +kernel
theorem dX12_draw_24 : decode cX12_draw 24 = .ok (.bipush 8, 2) := by decide +kernel
theorem dX12_draw_26 : decode cX12_draw 26 = .ok (.idiv, 1) := by decide +kernel
theorem dX12_draw_27 : decode cX12_draw 27 = .ok (.bipush 16, 2) := by decide +kernel
theorem dX12_draw_29 : decode cX12_draw 29 = .ok (.irem, 1) := by decide +kernel
theorem dX12_draw_30 : decode cX12_draw 30 = .ok (.ireturn, 1) := by decide +kernel
theorem dX12_goes_0 : decode cX12_goes 0 = .ok (.aload_n 0, 1) := by decide +kernel
theorem dX12_goes_1 : decode cX12_goes 1 = .ok (.getfield 7, 3) := by decide +kernel
theorem dX12_goes_4 : decode cX12_goes 4 = .ok (.iconst 3, 1) := by decide +kernel
theorem dX12_goes_5 : decode cX12_goes 5 = .ok (.iaload, 1) := by decide +kernel
theorem dX12_goes_6 : decode cX12_goes 6 = .ok (.sipush 400, 3) := by decide +kernel
theorem dX12_goes_9 : decode cX12_goes 9 = .ok (.if_icmp .ne 5, 3) := by decide +kernel
theorem dX12_goes_12 : decode cX12_goes 12 = .ok (.iconst 0, 1) := by decide +kernel
theorem dX12_goes_13 : decode cX12_goes 13 = .ok (.ireturn, 1) := by decide +kernel
theorem dX12_goes_14 : decode cX12_goes 14 = .ok (.aload_n 0, 1) := by decide +kernel
theorem dX12_goes_15 : decode cX12_goes 15 = .ok (.getfield 7, 3) := by decide +kernel
theorem dX12_goes_18 : decode cX12_goes 18 = .ok (.iconst 3, 1) := by decide +kernel
theorem dX12_goes_19 : decode cX12_goes 19 = .ok (.iaload, 1) := by decide +kernel
theorem dX12_goes_20 : decode cX12_goes 20 = .ok (.iconst 1, 1) := by decide +kernel
theorem dX12_goes_21 : decode cX12_goes 21 = .ok (.iadd, 1) := by decide +kernel
theorem dX12_goes_22 : decode cX12_goes 22 = .ok (.istore_n 1, 1) := by decide +kernel
theorem dX12_goes_23 : decode cX12_goes 23 = .ok (.iconst 0, 1) := by decide +kernel
theorem dX12_goes_24 : decode cX12_goes 24 = .ok (.istore_n 2, 1) := by decide +kernel
theorem dX12_goes_25 : decode cX12_goes 25 = .ok (.iconst 0, 1) := by decide +kernel
theorem dX12_goes_26 : decode cX12_goes 26 = .ok (.istore_n 3, 1) := by decide +kernel
theorem dX12_goes_27 : decode cX12_goes 27 = .ok (.iload_n 3, 1) := by decide +kernel
theorem dX12_goes_28 : decode cX12_goes 28 = .ok (.aload_n 0, 1) := by decide +kernel
theorem dX12_goes_29 : decode cX12_goes 29 = .ok (.getfield 7, 3) := by decide +kernel
theorem dX12_goes_32 : decode cX12_goes 32 = .ok (.iconst 0, 1) := by decide +kernel
theorem dX12_goes_33 : decode cX12_goes 33 = .ok (.iaload, 1) := by decide +kernel
theorem dX12_goes_34 : decode cX12_goes 34 = .ok (.if_icmp .ge 111, 3) := by decide +kernel
theorem dX12_goes_37 : decode cX12_goes 37 = .ok (.iconst 0, 1) := by decide +kernel
theorem dX12_goes_38 : decode cX12_goes 38 = .ok (.istore 4, 2) := by decide +kernel
theorem dX12_goes_40 : decode cX12_goes 40 = .ok (.iconst 0, 1) := by decide +kernel
theorem dX12_goes_41 : decode cX12_goes 41 = .ok (.istore 5, 2) := by decide +kernel
theorem dX12_goes_43 : decode cX12_goes 43 = .ok (.iload 5, 2) := by decide +kernel
theorem dX12_goes_45 : decode cX12_goes 45 = .ok (.aload_n 0, 1) := by decide +kernel
theorem dX12_goes_46 : decode cX12_goes 46 = .ok (.getfield 7, 3) := by decide +kernel
theorem dX12_goes_49 : decode cX12_goes 49 = .ok (.iconst 0, 1) := by decide +kernel
theorem dX12_goes_50 : decode cX12_goes 50 = .ok (.iaload, 1) := by decide +kernel
theorem dX12_goes_51 : decode cX12_goes 51 = .ok (.if_icmp .ge 54, 3) := by decide +kernel
theorem dX12_goes_54 : decode cX12_goes 54 = .ok (.iload 5, 2) := by decide +kernel
theorem dX12_goes_56 : decode cX12_goes 56 = .ok (.iload_n 3, 1) := by decide +kernel
theorem dX12_goes_57 : decode cX12_goes 57 = .ok (.if_icmp .ne 7, 3) := by decide +kernel
theorem dX12_goes_60 : decode cX12_goes 60 = .ok (.iconst (-1), 1) := by decide +kernel
theorem dX12_goes_61 : decode cX12_goes 61 = .ok (.goto 11, 3) := by decide +kernel
theorem dX12_goes_64 : decode cX12_goes 64 = .ok (.aload_n 0, 1) := by decide +kernel
theorem dX12_goes_65 : decode cX12_goes 65 = .ok (.iload_n 3, 1) := by decide +kernel
theorem dX12_goes_66 : decode cX12_goes 66 = .ok (.iload 5, 2) := by decide +kernel
theorem dX12_goes_68 : decode cX12_goes 68 = .ok (.iload_n 1, 1) := by decide +kernel
theorem dX12_goes_69 : decode cX12_goes 69 = .ok (.invokevirtual 366, 3) := by decide +kernel
theorem dX12_goes_72 : decode cX12_goes 72 = .ok (.istore 6, 2) := by decide +kernel
theorem dX12_goes_74 : decode cX12_goes 74 = .ok (.iload 4, 2) := by decide +kernel
theorem dX12_goes_76 : decode cX12_goes 76 = .ok (.iload 6, 2) := by decide +kernel
theorem dX12_goes_78 : decode cX12_goes 78 = .ok (.iconst 1, 1) := by decide +kernel
theorem dX12_goes_79 : decode cX12_goes 79 = .ok (.if_icmp .ne 7, 3) := by decide +kernel
theorem dX12_goes_82 : decode cX12_goes 82 = .ok (.iconst 1, 1) := by decide +kernel
theorem dX12_goes_83 : decode cX12_goes 83 = .ok (.goto 13, 3) := by decide +kernel
theorem dX12_goes_86 : decode cX12_goes 86 = .ok (.iload 6, 2) := by decide +kernel
theorem dX12_goes_88 : decode cX12_goes 88 = .ok (.ifCond .ne 7, 3) := by decide +kernel
theorem dX12_goes_91 : decode cX12_goes 91 = .ok (.iconst (-1), 1) := by decide +kernel
theorem dX12_goes_92 : decode cX12_goes 92 = .ok (.goto 4, 3) := by decide +kernel
theorem dX12_goes_95 : decode cX12_goes 95 = .ok (.iconst 0, 1) := by decide +kernel
theorem dX12_goes_96 : decode cX12_goes 96 = .ok (.iadd, 1) := by decide +kernel
theorem dX12_goes_97 : decode cX12_goes 97 = .ok (.istore 4, 2) := by decide +kernel
theorem dX12_goes_99 : decode cX12_goes 99 = .ok (.iinc 5 1, 3) := by decide +kernel
theorem dX12_goes_102 : decode cX12_goes 102 = .ok (.goto (-59), 3) := by decide +kernel
theorem dX12_goes_105 : decode cX12_goes 105 = .ok (.iload_n 2, 1) := by decide +kernel
theorem dX12_goes_106 : decode cX12_goes 106 = .ok (.iload 4, 2) := by decide +kernel
theorem dX12_goes_108 : decode cX12_goes 108 = .ok (.ifCond .le 7, 3) := by decide +kernel
theorem dX12_goes_111 : decode cX12_goes 111 = .ok (.iconst 1, 1) := by decide +kernel
theorem dX12_goes_112 : decode cX12_goes 112 = .ok (.goto 23, 3) := by decide +kernel
theorem dX12_goes_115 : decode cX12_goes 115 = .ok (.iload 4, 2) := by decide +kernel
theorem dX12_goes_117 : decode cX12_goes 117 = .ok (.ifCond .ge 7, 3) := by decide +kernel
theorem dX12_goes_120 : decode cX12_goes 120 = .ok (.iconst 0, 1) := by decide +kernel
theorem dX12_goes_121 : decode cX12_goes 121 = .ok (.goto 14, 3) := by decide +kernel
theorem dX12_goes_124 : decode cX12_goes 124 = .ok (.aload_n 0, 1) := by decide +kernel
theorem dX12_goes_125 : decode cX12_goes 125 = .ok (.iload_n 3, 1) := by decide +kernel
theorem dX12_goes_126 : decode cX12_goes 126 = .ok (.aload_n 0, 1) := by decide +kernel
theorem dX12_goes_127 : decode cX12_goes 127 = .ok (.getfield 7, 3) := by decide +kernel
theorem dX12_goes_130 : decode cX12_goes 130 = .ok (.iconst 3, 1) := by decide +kernel
theorem dX12_goes_131 : decode cX12_goes 131 = .ok (.iaload, 1) := by decide +kernel
theorem dX12_goes_132 : decode cX12_goes 132 = .ok (.invokevirtual 363, 3) := by decide +kernel
theorem dX12_goes_135 : decode cX12_goes 135 = .ok (.iload_n 3, 1) := by decide +kernel
theorem dX12_goes_136 : decode cX12_goes 136 = .ok (.ishl, 1) := by decide +kernel
theorem dX12_goes_137 : decode cX12_goes 137 = .ok (.ior, 1) := by decide +kernel
theorem dX12_goes_138 : decode cX12_goes 138 = .ok (.istore_n 2, 1) := by decide +kernel
theorem dX12_goes_139 : decode cX12_goes 139 = .ok (.iinc 3 1, 3) := by decide +kernel
theorem dX12_goes_142 : decode cX12_goes 142 = .ok (.goto (-115), 3) := by decide +kernel
theorem dX12_goes_145 : decode cX12_goes 145 = .ok (.aload_n 0, 1) := by decide +kernel
theorem dX12_goes_146 : decode cX12_goes 146 = .ok (.getfield 7, 3) := by decide +kernel
theorem dX12_goes_149 : decode cX12_goes 149 = .ok (.bipush 118, 2) := by decide +kernel
theorem dX12_goes_151 : decode cX12_goes 151 = .ok (.iload_n 1, 1) := by decide +kernel
theorem dX12_goes_152 : decode cX12_goes 152 = .ok (.iadd, 1) := by decide +kernel
theorem dX12_goes_153 : decode cX12_goes 153 = .ok (.iload_n 2, 1) := by decide +kernel
theorem dX12_goes_154 : decode cX12_goes 154 = .ok (.iastore, 1) := by decide +kernel
theorem dX12_goes_155 : decode cX12_goes 155 = .ok (.aload_n 0, 1) := by decide +kernel
theorem dX12_goes_156 : decode cX12_goes 156 = .ok (.getfield 7, 3) := by decide +kernel
theorem dX12_goes_159 : decode cX12_goes 159 = .ok (.iconst 3, 1) := by decide +kernel
theorem dX12_goes_160 : decode cX12_goes 160 = .ok (.iload_n 1, 1) := by decide +kernel
theorem dX12_goes_161 : decode cX12_goes 161 = .ok (.iastore, 1) := by decide +kernel
theorem dX12_goes_162 : decode cX12_goes 162 = .ok (.iconst 1, 1) := by decide +kernel
theorem dX12_goes_163 : decode cX12_goes 163 = .ok (.ireturn, 1) := by decide +kernel
theorem dX12_orders_0 : decode cX12_orders 0 = .ok (.aload_n 0, 1) := by decide +kernel
theorem dX12_orders_1 : decode cX12_orders 1 = .ok (.getfield 7, 3) := by decide +kernel
theorem dX12_orders_4 : decode cX12_orders 4 = .ok (.iconst 4, 1) := by decide +kernel
theorem dX12_orders_5 : decode cX12_orders 5 = .ok (.iaload, 1) := by decide +kernel
theorem dX12_orders_6 : decode cX12_orders 6 = .ok (.bipush 20, 2) := by decide +kernel
theorem dX12_orders_8 : decode cX12_orders 8 = .ok (.if_icmp .ne 5, 3) := by decide +kernel
theorem dX12_orders_11 : decode cX12_orders 11 = .ok (.iconst 0, 1) := by decide +kernel
theorem dX12_orders_12 : decode cX12_orders 12 = .ok (.ireturn, 1) := by decide +kernel
theorem dX12_orders_13 : decode cX12_orders 13 = .ok (.aload_n 0, 1) := by decide +kernel
theorem dX12_orders_14 : decode cX12_orders 14 = .ok (.getfield 7, 3) := by decide +kernel
theorem dX12_orders_17 : decode cX12_orders 17 = .ok (.aload_n 0, 1) := by decide +kernel
theorem dX12_orders_18 : decode cX12_orders 18 = .ok (.getfield 7, 3) := by decide +kernel
theorem dX12_orders_21 : decode cX12_orders 21 = .ok (.iconst 4, 1) := by decide +kernel
theorem dX12_orders_22 : decode cX12_orders 22 = .ok (.iaload, 1) := by decide +kernel
theorem dX12_orders_23 : decode cX12_orders 23 = .ok (.invokestatic 315, 3) := by decide +kernel
theorem dX12_orders_26 : decode cX12_orders 26 = .ok (.iload_n 1, 1) := by decide +kernel
theorem dX12_orders_27 : decode cX12_orders 27 = .ok (.iastore, 1) := by decide +kernel
theorem dX12_orders_28 : decode cX12_orders 28 = .ok (.aload_n 0, 1) := by decide +kernel
theorem dX12_orders_29 : decode cX12_orders 29 = .ok (.getfield 7, 3) := by decide +kernel
theorem dX12_orders_32 : decode cX12_orders 32 = .ok (.aload_n 0, 1) := by decide +kernel
theorem dX12_orders_33 : decode cX12_orders 33 = .ok (.getfield 7, 3) := by decide +kernel
theorem dX12_orders_36 : decode cX12_orders 36 = .ok (.iconst 4, 1) := by decide +kernel
theorem dX12_orders_37 : decode cX12_orders 37 = .ok (.iaload, 1) := by decide +kernel
theorem dX12_orders_38 : decode cX12_orders 38 = .ok (.invokestatic 315, 3) := by decide +kernel
theorem dX12_orders_41 : decode cX12_orders 41 = .ok (.iconst 1, 1) := by decide +kernel
theorem dX12_orders_42 : decode cX12_orders 42 = .ok (.iadd, 1) := by decide +kernel
theorem dX12_orders_43 : decode cX12_orders 43 = .ok (.aload_n 0, 1) := by decide +kernel
theorem dX12_orders_44 : decode cX12_orders 44 = .ok (.getfield 7, 3) := by decide +kernel
theorem dX12_orders_47 : decode cX12_orders 47 = .ok (.iconst 3, 1) := by decide +kernel
theorem dX12_orders_48 : decode cX12_orders 48 = .ok (.iaload, 1) := by decide +kernel
theorem dX12_orders_49 : decode cX12_orders 49 = .ok (.iastore, 1) := by decide +kernel
theorem dX12_orders_50 : decode cX12_orders 50 = .ok (.aload_n 0, 1) := by decide +kernel
theorem dX12_orders_51 : decode cX12_orders 51 = .ok (.getfield 7, 3) := by decide +kernel
theorem dX12_orders_54 : decode cX12_orders 54 = .ok (.iconst 4, 1) := by decide +kernel
theorem dX12_orders_55 : decode cX12_orders 55 = .ok (.dup2, 1) := by decide +kernel
theorem dX12_orders_56 : decode cX12_orders 56 = .ok (.iaload, 1) := by decide +kernel
theorem dX12_orders_57 : decode cX12_orders 57 = .ok (.iconst 1, 1) := by decide +kernel
theorem dX12_orders_58 : decode cX12_orders 58 = .ok (.iadd, 1) := by decide +kernel
theorem dX12_orders_59 : decode cX12_orders 59 = .ok (.iastore, 1) := by decide +kernel
theorem dX12_orders_60 : decode cX12_orders 60 = .ok (.iconst 1, 1) := by decide +kernel
theorem dX12_orders_61 : decode cX12_orders 61 = .ok (.ireturn, 1) := by decide +kernel
theorem dX12_wears_0 : decode cX12_wears 0 = .ok (.aload_n 0, 1) := by decide +kernel
theorem dX12_wears_1 : decode cX12_wears 1 = .ok (.getfield 7, 3) := by decide +kernel
theorem dX12_wears_4 : decode cX12_wears 4 = .ok (.bipush 118, 2) := by decide +kernel
theorem dX12_wears_6 : decode cX12_wears 6 = .ok (.aload_n 0, 1) := by decide +kernel
theorem dX12_wears_7 : decode cX12_wears 7 = .ok (.getfield 7, 3) := by decide +kernel
theorem dX12_wears_10 : decode cX12_wears 10 = .ok (.iconst 3, 1) := by decide +kernel
theorem dX12_wears_11 : decode cX12_wears 11 = .ok (.iaload, 1) := by decide +kernel
theorem dX12_wears_12 : decode cX12_wears 12 = .ok (.iadd, 1) := by decide +kernel
theorem dX12_wears_13 : decode cX12_wears 13 = .ok (.aload_n 0, 1) := by decide +kernel
theorem dX12_wears_14 : decode cX12_wears 14 = .ok (.getfield 7, 3) := by decide +kernel
theorem dX12_wears_17 : decode cX12_wears 17 = .ok (.bipush 118, 2) := by decide +kernel
theorem dX12_wears_19 : decode cX12_wears 19 = .ok (.aload_n 0, 1) := by decide +kernel
theorem dX12_wears_20 : decode cX12_wears 20 = .ok (.getfield 7, 3) := by decide +kernel
theorem dX12_wears_23 : decode cX12_wears 23 = .ok (.iconst 3, 1) := by decide +kernel
theorem dX12_wears_24 : decode cX12_wears 24 = .ok (.iaload, 1) := by decide +kernel
theorem dX12_wears_25 : decode cX12_wears 25 = .ok (.iadd, 1) := by decide +kernel
theorem dX12_wears_26 : decode cX12_wears 26 = .ok (.iaload, 1) := by decide +kernel
theorem dX12_wears_27 : decode cX12_wears 27 = .ok (.iconst 1, 1) := by decide +kernel
theorem dX12_wears_28 : decode cX12_wears 28 = .ok (.iload_n 1, 1) := by decide +kernel
theorem dX12_wears_29 : decode cX12_wears 29 = .ok (.ishl, 1) := by decide +kernel
theorem dX12_wears_30 : decode cX12_wears 30 = .ok (.iconst (-1), 1) := by decide +kernel
theorem dX12_wears_31 : decode cX12_wears 31 = .ok (.ixor, 1) := by decide +kernel
theorem dX12_wears_32 : decode cX12_wears 32 = .ok (.iand, 1) := by decide +kernel
theorem dX12_wears_33 : decode cX12_wears 33 = .ok (.iload_n 2, 1) := by decide +kernel
theorem dX12_wears_34 : decode cX12_wears 34 = .ok (.iload_n 1, 1) := by decide +kernel
theorem dX12_wears_35 : decode cX12_wears 35 = .ok (.ishl, 1) := by decide +kernel
theorem dX12_wears_36 : decode cX12_wears 36 = .ok (.ior, 1) := by decide +kernel
theorem dX12_wears_37 : decode cX12_wears 37 = .ok (.iastore, 1) := by decide +kernel
theorem dX12_wears_38 : decode cX12_wears 38 = .ok (.return_, 1) := by decide +kernel
