theorem qm_X4_3 : Cond.methodLink RX4 3 objectInit ∈ gw := tbt (tb1 (List.mem_of_getElem? (i := 190) rfl)) rfl
theorem qa_byte : Cond.arrayClass .byte ∈ gw := tbt (tb2 (List.mem_of_getElem? (i := 45) rfl)) rfl
theorem qf_X4_15 : Cond.fieldLink RX4 15 "SlowWorlds$Reader" "keywords" "[J" ∈ gw := tbt (tb2 (List.mem_of_getElem? (i := 3) rfl)) rfl
theorem qc_J0_length_8abf5 : Cond.code yJ0_length_8abf5 cJ0_length_8abf5 1 (some .int) ∈ gw := tbt (tb1 (List.mem_of_getElem? (i := 195) rfl)) rfl
theorem qi_yJ0_length_8abf5 : Cond.instanceMethod yJ0_length_8abf5 ∈ gw := tbt (tb1 (List.mem_of_getElem? (i := 193) rfl)) rfl
theorem qs_J0_length_8abf5 : Cond.selects (yJ0_length_8abf5).cls yJ0_length_8abf5 yJ0_length_8abf5 ∈ gw := tbt (tb1 (List.mem_of_getElem? (i := 194) rfl)) rfl
theorem ci_J0_length_8abf5 : CIv yJ0_length_8abf5 cJ0_length_8abf5 1 (some .int) 0 := ⟨qc_J0_length_8abf5, qi_yJ0_length_8abf5, qs_J0_length_8abf5, qz_J0, by decide +kernel⟩
theorem qm_X4_28 : Cond.methodLink RX4 28 yJ0_length_8abf5 ∈ gw := tbt (tb1 (List.mem_of_getElem? (i := 192) rfl)) rfl
theorem qc_J0_charAt_5068e : Cond.code yJ0_charAt_5068e cJ0_charAt_5068e 2 (some .char) ∈ gw := tbt (tb1 (List.mem_of_getElem? (i := 205) rfl)) rfl
theorem qi_yJ0_charAt_5068e : Cond.instanceMethod yJ0_charAt_5068e ∈ gw := tbt (tb1 (List.mem_of_getElem? (i := 203) rfl)) rfl
theorem qs_J0_charAt_5068e : Cond.selects (yJ0_charAt_5068e).cls yJ0_charAt_5068e yJ0_charAt_5068e ∈ gw := tbt (tb1 (List.mem_of_getElem? (i := 204) rfl)) rfl
theorem ci_J0_charAt_5068e : CIv yJ0_charAt_5068e cJ0_charAt_5068e 2 (some .char) 1 := ⟨qc_J0_charAt_5068e, qi_yJ0_charAt_5068e, qs_J0_charAt_5068e, qz_J0, by decide +kernel⟩
theorem qm_X4_34 : Cond.methodLink RX4 34 yJ0_charAt_5068e ∈ gw := tbt (tb1 (List.mem_of_getElem? (i := 202) rfl)) rfl
theorem qk_X4_38 : Cond.constantLong RX4 38 (32) ∈ gw := tbt (tb2 (List.mem_of_getElem? (i := 0) rfl)) rfl
theorem qk_X4_40 : Cond.constantLong RX4 40 (97) ∈ gw := tbt (tb2 (List.mem_of_getElem? (i := 1) rfl)) rfl
theorem dX4_init_0 : decode cX4_init 0 = .ok (.aload_n 0, 1) := by decide +kernel
theorem dX4_init_1 : decode cX4_init 1 = .ok (.invokespecial 3, 3) := by decide +kernel
theorem dX4_init_4 : decode cX4_init 4 = .ok (.aload_n 0, 1) := by decide +kernel
theorem dX4_init_5 : decode cX4_init 5 = .ok (.sipush 900, 3) := by decide +kernel
theorem dX4_init_8 : decode cX4_init 8 = .ok (.newarray .byte, 2) := by decide +kernel
theorem dX4_init_10 : decode cX4_init 10 = .ok (.putfield 9, 3) := by decide +kernel
theorem dX4_init_13 : decode cX4_init 13 = .ok (.aload_n 0, 1) := by decide +kernel
theorem dX4_init_14 : decode cX4_init 14 = .ok (.bipush 25, 2) := by decide +kernel
theorem dX4_init_16 : decode cX4_init 16 = .ok (.newarray .long, 2) := by decide +kernel
theorem dX4_init_18 : decode cX4_init 18 = .ok (.putfield 15, 3) := by decide +kernel
theorem dX4_init_21 : decode cX4_init 21 = .ok (.aload_n 0, 1) := by decide +kernel
theorem dX4_init_22 : decode cX4_init 22 = .ok (.iconst (-1), 1) := by decide +kernel
theorem dX4_init_23 : decode cX4_init 23 = .ok (.putfield 19, 3) := by decide +kernel
theorem dX4_init_26 : decode cX4_init 26 = .ok (.aload_n 0, 1) := by decide +kernel
theorem dX4_init_27 : decode cX4_init 27 = .ok (.iconst (-1), 1) := by decide +kernel
theorem dX4_init_28 : decode cX4_init 28 = .ok (.putfield 23, 3) := by decide +kernel
theorem dX4_init_31 : decode cX4_init 31 = .ok (.lconst 0, 1) := by decide +kernel
theorem dX4_init_32 : decode cX4_init 32 = .ok (.lstore_n 1, 1) := by decide +kernel
theorem dX4_init_33 : decode cX4_init 33 = .ok (.iconst 0, 1) := by decide +kernel
theorem dX4_init_34 : decode cX4_init 34 = .ok (.istore_n 3, 1) := by decide +kernel
theorem dX4_init_35 : decode cX4_init 35 = .ok (.iconst 0, 1) := by decide +kernel
theorem dX4_init_36 : decode cX4_init 36 = .ok (.istore 4, 2) := by decide +kernel
theorem dX4_init_38 : decode cX4_init 38 = .ok (.iload 4, 2) := by decide +kernel
theorem dX4_init_40 : decode cX4_init 40 = .ok (.ldc 26, 2) := by decide +kernel
theorem dX4_init_42 : decode cX4_init 42 = .ok (.invokevirtual 28, 3) := by decide +kernel
theorem dX4_init_45 : decode cX4_init 45 = .ok (.if_icmp .ge 63, 3) := by decide +kernel
theorem dX4_init_48 : decode cX4_init 48 = .ok (.iload_n 3, 1) := by decide +kernel
theorem dX4_init_49 : decode cX4_init 49 = .ok (.bipush 25, 2) := by decide +kernel
theorem dX4_init_51 : decode cX4_init 51 = .ok (.if_icmp .ge 57, 3) := by decide +kernel
theorem dX4_init_54 : decode cX4_init 54 = .ok (.ldc 26, 2) := by decide +kernel
theorem dX4_init_56 : decode cX4_init 56 = .ok (.iload 4, 2) := by decide +kernel
theorem dX4_init_58 : decode cX4_init 58 = .ok (.invokevirtual 34, 3) := by decide +kernel
theorem dX4_init_61 : decode cX4_init 61 = .ok (.bipush 32, 2) := by decide +kernel
theorem dX4_init_63 : decode cX4_init 63 = .ok (.if_icmp .ne 18, 3) := by decide +kernel
theorem dX4_init_66 : decode cX4_init 66 = .ok (.aload_n 0, 1) := by decide +kernel
theorem dX4_init_67 : decode cX4_init 67 = .ok (.getfield 15, 3) := by decide +kernel
theorem dX4_init_70 : decode cX4_init 70 = .ok (.iload_n 3, 1) := by decide +kernel
theorem dX4_init_71 : decode cX4_init 71 = .ok (.lload_n 1, 1) := by decide +kernel
theorem dX4_init_72 : decode cX4_init 72 = .ok (.lastore, 1) := by decide +kernel
theorem dX4_init_73 : decode cX4_init 73 = .ok (.iinc 3 1, 3) := by decide +kernel
theorem dX4_init_76 : decode cX4_init 76 = .ok (.lconst 0, 1) := by decide +kernel
theorem dX4_init_77 : decode cX4_init 77 = .ok (.lstore_n 1, 1) := by decide +kernel
theorem dX4_init_78 : decode cX4_init 78 = .ok (.goto 24, 3) := by decide +kernel
theorem dX4_init_81 : decode cX4_init 81 = .ok (.lload_n 1, 1) := by decide +kernel
theorem dX4_init_82 : decode cX4_init 82 = .ok (.ldc2_w 38, 3) := by decide +kernel
theorem dX4_init_85 : decode cX4_init 85 = .ok (.lmul, 1) := by decide +kernel
theorem dX4_init_86 : decode cX4_init 86 = .ok (.ldc 26, 2) := by decide +kernel
theorem dX4_init_88 : decode cX4_init 88 = .ok (.iload 4, 2) := by decide +kernel
theorem dX4_init_90 : decode cX4_init 90 = .ok (.invokevirtual 34, 3) := by decide +kernel
theorem dX4_init_93 : decode cX4_init 93 = .ok (.i2l, 1) := by decide +kernel
theorem dX4_init_94 : decode cX4_init 94 = .ok (.ladd, 1) := by decide +kernel
theorem dX4_init_95 : decode cX4_init 95 = .ok (.ldc2_w 40, 3) := by decide +kernel
theorem dX4_init_98 : decode cX4_init 98 = .ok (.lsub, 1) := by decide +kernel
theorem dX4_init_99 : decode cX4_init 99 = .ok (.lconst 1, 1) := by decide +kernel
theorem dX4_init_100 : decode cX4_init 100 = .ok (.ladd, 1) := by decide +kernel
theorem dX4_init_101 : decode cX4_init 101 = .ok (.lstore_n 1, 1) := by decide +kernel
theorem dX4_init_102 : decode cX4_init 102 = .ok (.iinc 4 1, 3) := by decide +kernel
theorem dX4_init_105 : decode cX4_init 105 = .ok (.goto (-67), 3) := by decide +kernel
theorem dX4_init_108 : decode cX4_init 108 = .ok (.return_, 1) := by decide +kernel
