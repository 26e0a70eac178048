theorem qf_X3_19 : Cond.fieldLink RX3 19 "SlowWorlds$Rays" "arrivals" "[I" ∈ gw := tbt (tb2 (List.mem_of_getElem? (i := 92) rfl)) rfl
theorem iX3 : ∀ w ∈ u_ws RX3 TX3 4, w ∈ gw := by
  intro w hw
  obtain ⟨k, hk, rfl⟩ := List.mem_map.mp hw
  have hk := List.mem_range.mp hk
  match k, hk with
  | 0, _ => exact tbt (tb2 (List.mem_of_getElem? (i := 94) rfl)) rfl
  | 1, _ => exact tbt (tb2 (List.mem_of_getElem? (i := 96) rfl)) rfl
  | 2, _ => exact tbt (tb2 (List.mem_of_getElem? (i := 98) rfl)) rfl
  | 3, _ => exact tbt (tb2 (List.mem_of_getElem? (i := 100) rfl)) rfl
  | (k + 4), hk => exact absurd hk (by omega)
theorem qa_int : Cond.arrayClass .int ∈ gw := tbt (tb1 (List.mem_of_getElem? (i := 83) rfl)) rfl
theorem qf_X3_23 : Cond.fieldLink RX3 23 "SlowWorlds$Rays" "looks" "[I" ∈ gw := tbt (tb2 (List.mem_of_getElem? (i := 93) rfl)) rfl
theorem qf_X3_15 : Cond.fieldLink RX3 15 "SlowWorlds$Rays" "opened" "J" ∈ gw := tbt (tb2 (List.mem_of_getElem? (i := 91) rfl)) rfl
theorem qc_X3_openedRow : Cond.code yX3_openedRow cX3_openedRow 6 (some .int) ∈ gw := tbt (tb4 (List.mem_of_getElem? (i := 88) rfl)) rfl
theorem qi_yX3_openedRow : Cond.instanceMethod yX3_openedRow ∈ gw := tbt (tb4 (List.mem_of_getElem? (i := 87) rfl)) rfl
theorem qs_X3_openedRow : Cond.selects (yX3_openedRow).cls yX3_openedRow yX3_openedRow ∈ gw := tb0 (List.mem_of_getElem? (i := 19) rfl) rfl
theorem qz_X3 : Cond.initialized RX3 ∈ gw := tbt (tb1 (List.mem_of_getElem? (i := 13) rfl)) rfl
theorem ci_X3_openedRow : CIv yX3_openedRow cX3_openedRow 6 (some .int) 2 := ⟨qc_X3_openedRow, qi_yX3_openedRow, qs_X3_openedRow, qz_X3, by decide +kernel⟩
theorem qm_X3_26 : Cond.methodLink RX3 26 yX3_openedRow ∈ gw := tbt (tb4 (List.mem_of_getElem? (i := 85) rfl)) rfl
theorem qf_X3_11 : Cond.fieldLink RX3 11 "SlowWorlds$Rays" "sky" "LSlowWorlds$Sky;" ∈ gw := tbt (tb2 (List.mem_of_getElem? (i := 90) rfl)) rfl
theorem qm_X3_30 : Cond.methodLink RX3 30 yX5_heading ∈ gw := tbt (tb4 (List.mem_of_getElem? (i := 89) rfl)) rfl
theorem qc_X5_hasIce : Cond.code yX5_hasIce cX5_hasIce 9 (some .boolean) ∈ gw := tbt (tb4 (List.mem_of_getElem? (i := 76) rfl)) rfl
theorem qi_yX5_hasIce : Cond.instanceMethod yX5_hasIce ∈ gw := tbt (tb4 (List.mem_of_getElem? (i := 74) rfl)) rfl
theorem qs_X5_hasIce : Cond.selects (yX5_hasIce).cls yX5_hasIce yX5_hasIce ∈ gw := tbt (tb4 (List.mem_of_getElem? (i := 75) rfl)) rfl
theorem ci_X5_hasIce : CIv yX5_hasIce cX5_hasIce 9 (some .boolean) 3 := ⟨qc_X5_hasIce, qi_yX5_hasIce, qs_X5_hasIce, qz_X5, by decide +kernel⟩
theorem qm_X3_39 : Cond.methodLink RX3 39 yX5_hasIce ∈ gw := tbt (tb4 (List.mem_of_getElem? (i := 91) rfl)) rfl
theorem qm_X3_35 : Cond.methodLink RX3 35 yX5_apart ∈ gw := tbt (tb4 (List.mem_of_getElem? (i := 90) rfl)) rfl
theorem dJ6_compare_7cf53_0 : decode cJ6_compare_7cf53 0 = .ok (.iload_n 0, 1) := by decide +kernel
theorem dJ6_compare_7cf53_1 : decode cJ6_compare_7cf53 1 = .ok (.iload_n 1, 1) := by decide +kernel
theorem dJ6_compare_7cf53_2 : decode cJ6_compare_7cf53 2 = .ok (.if_icmp .ge 7, 3) := by decide +kernel
theorem dJ6_compare_7cf53_5 : decode cJ6_compare_7cf53 5 = .ok (.iconst (-1), 1) := by decide +kernel
theorem dJ6_compare_7cf53_6 : decode cJ6_compare_7cf53 6 = .ok (.goto 13, 3) := by decide +kernel
theorem dJ6_compare_7cf53_9 : decode cJ6_compare_7cf53 9 = .ok (.iload_n 0, 1) := by decide +kernel
theorem dJ6_compare_7cf53_10 : decode cJ6_compare_7cf53 10 = .ok (.iload_n 1, 1) := by decide +kernel
theorem dJ6_compare_7cf53_11 : decode cJ6_compare_7cf53 11 = .ok (.if_icmp .ne 7, 3) := by decide +kernel
theorem dJ6_compare_7cf53_14 : decode cJ6_compare_7cf53 14 = .ok (.iconst 0, 1) := by decide +kernel
theorem dJ6_compare_7cf53_15 : decode cJ6_compare_7cf53 15 = .ok (.goto 4, 3) := by decide +kernel
theorem dJ6_compare_7cf53_18 : decode cJ6_compare_7cf53 18 = .ok (.iconst 1, 1) := by decide +kernel
theorem dJ6_compare_7cf53_19 : decode cJ6_compare_7cf53 19 = .ok (.ireturn, 1) := by decide +kernel
theorem dX3_arrival_0 : decode cX3_arrival 0 = .ok (.iload_n 2, 1) := by decide +kernel
theorem dX3_arrival_1 : decode cX3_arrival 1 = .ok (.ifCond .lt 10, 3) := by decide +kernel
theorem dX3_arrival_4 : decode cX3_arrival 4 = .ok (.iload_n 2, 1) := by decide +kernel
theorem dX3_arrival_5 : decode cX3_arrival 5 = .ok (.sipush 400, 3) := by decide +kernel
theorem dX3_arrival_8 : decode cX3_arrival 8 = .ok (.if_icmp .le 5, 3) := by decide +kernel
theorem dX3_arrival_11 : decode cX3_arrival 11 = .ok (.iconst (-1), 1) := by decide +kernel
theorem dX3_arrival_12 : decode cX3_arrival 12 = .ok (.ireturn, 1) := by decide +kernel
theorem dX3_arrival_13 : decode cX3_arrival 13 = .ok (.iload_n 1, 1) := by decide +kernel
theorem dX3_arrival_14 : decode cX3_arrival 14 = .ok (.iload_n 3, 1) := by decide +kernel
theorem dX3_arrival_15 : decode cX3_arrival 15 = .ok (.if_icmp .ne 5, 3) := by decide +kernel
theorem dX3_arrival_18 : decode cX3_arrival 18 = .ok (.iload_n 2, 1) := by decide +kernel
theorem dX3_arrival_19 : decode cX3_arrival 19 = .ok (.ireturn, 1) := by decide +kernel
theorem dX3_arrival_20 : decode cX3_arrival 20 = .ok (.aload_n 0, 1) := by decide +kernel
theorem dX3_arrival_21 : decode cX3_arrival 21 = .ok (.iload_n 1, 1) := by decide +kernel
theorem dX3_arrival_22 : decode cX3_arrival 22 = .ok (.iload_n 3, 1) := by decide +kernel
theorem dX3_arrival_23 : decode cX3_arrival 23 = .ok (.invokevirtual 26, 3) := by decide +kernel
theorem dX3_arrival_26 : decode cX3_arrival 26 = .ok (.iload_n 2, 1) := by decide +kernel
theorem dX3_arrival_27 : decode cX3_arrival 27 = .ok (.iadd, 1) := by decide +kernel
theorem dX3_arrival_28 : decode cX3_arrival 28 = .ok (.istore 4, 2) := by decide +kernel
theorem dX3_arrival_30 : decode cX3_arrival 30 = .ok (.aload_n 0, 1) := by decide +kernel
theorem dX3_arrival_31 : decode cX3_arrival 31 = .ok (.getfield 19, 3) := by decide +kernel
theorem dX3_arrival_34 : decode cX3_arrival 34 = .ok (.iload 4, 2) := by decide +kernel
theorem dX3_arrival_36 : decode cX3_arrival 36 = .ok (.iaload, 1) := by decide +kernel
theorem dX3_arrival_37 : decode cX3_arrival 37 = .ok (.bipush (-2), 2) := by decide +kernel
theorem dX3_arrival_39 : decode cX3_arrival 39 = .ok (.if_icmp .ne 88, 3) := by decide +kernel
theorem dX3_arrival_42 : decode cX3_arrival 42 = .ok (.aload_n 0, 1) := by decide +kernel
theorem dX3_arrival_43 : decode cX3_arrival 43 = .ok (.getfield 11, 3) := by decide +kernel
theorem dX3_arrival_46 : decode cX3_arrival 46 = .ok (.iload_n 1, 1) := by decide +kernel
theorem dX3_arrival_47 : decode cX3_arrival 47 = .ok (.iload_n 2, 1) := by decide +kernel
theorem dX3_arrival_48 : decode cX3_arrival 48 = .ok (.invokevirtual 30, 3) := by decide +kernel
theorem dX3_arrival_51 : decode cX3_arrival 51 = .ok (.istore 5, 2) := by decide +kernel
theorem dX3_arrival_53 : decode cX3_arrival 53 = .ok (.iload_n 2, 1) := by decide +kernel
theorem dX3_arrival_54 : decode cX3_arrival 54 = .ok (.iconst 1, 1) := by decide +kernel
theorem dX3_arrival_55 : decode cX3_arrival 55 = .ok (.iadd, 1) := by decide +kernel
theorem dX3_arrival_56 : decode cX3_arrival 56 = .ok (.istore 6, 2) := by decide +kernel
theorem dX3_arrival_58 : decode cX3_arrival 58 = .ok (.iload 6, 2) := by decide +kernel
theorem dX3_arrival_60 : decode cX3_arrival 60 = .ok (.iload_n 2, 1) := by decide +kernel
theorem dX3_arrival_61 : decode cX3_arrival 61 = .ok (.bipush 20, 2) := by decide +kernel
theorem dX3_arrival_63 : decode cX3_arrival 63 = .ok (.iadd, 1) := by decide +kernel
theorem dX3_arrival_64 : decode cX3_arrival 64 = .ok (.if_icmp .ge 37, 3) := by decide +kernel
theorem dX3_arrival_67 : decode cX3_arrival 67 = .ok (.aload_n 0, 1) := by decide +kernel
theorem dX3_arrival_68 : decode cX3_arrival 68 = .ok (.getfield 11, 3) := by decide +kernel
theorem dX3_arrival_71 : decode cX3_arrival 71 = .ok (.iload_n 1, 1) := by decide +kernel
theorem dX3_arrival_72 : decode cX3_arrival 72 = .ok (.iload 5, 2) := by decide +kernel
theorem dX3_arrival_74 : decode cX3_arrival 74 = .ok (.iload_n 3, 1) := by decide +kernel
theorem dX3_arrival_75 : decode cX3_arrival 75 = .ok (.aload_n 0, 1) := by decide +kernel
theorem dX3_arrival_76 : decode cX3_arrival 76 = .ok (.getfield 11, 3) := by decide +kernel
theorem dX3_arrival_79 : decode cX3_arrival 79 = .ok (.iload_n 3, 1) := by decide +kernel
theorem dX3_arrival_80 : decode cX3_arrival 80 = .ok (.iload 6, 2) := by decide +kernel
theorem dX3_arrival_82 : decode cX3_arrival 82 = .ok (.invokevirtual 30, 3) := by decide +kernel
theorem dX3_arrival_85 : decode cX3_arrival 85 = .ok (.invokevirtual 35, 3) := by decide +kernel
theorem dX3_arrival_88 : decode cX3_arrival 88 = .ok (.iload 6, 2) := by decide +kernel
theorem dX3_arrival_90 : decode cX3_arrival 90 = .ok (.iload_n 2, 1) := by decide +kernel
theorem dX3_arrival_91 : decode cX3_arrival 91 = .ok (.isub, 1) := by decide +kernel
theorem dX3_arrival_92 : decode cX3_arrival 92 = .ok (.if_icmp .le 9, 3) := by decide +kernel
theorem dX3_arrival_95 : decode cX3_arrival 95 = .ok (.iinc 6 1, 3) := by decide +kernel
theorem dX3_arrival_98 : decode cX3_arrival 98 = .ok (.goto (-40), 3) := by decide +kernel
theorem dX3_arrival_101 : decode cX3_arrival 101 = .ok (.aload_n 0, 1) := by decide +kernel
theorem dX3_arrival_102 : decode cX3_arrival 102 = .ok (.getfield 19, 3) := by decide +kernel
theorem dX3_arrival_105 : decode cX3_arrival 105 = .ok (.iload 4, 2) := by decide +kernel
theorem dX3_arrival_107 : decode cX3_arrival 107 = .ok (.aload_n 0, 1) := by decide +kernel
theorem dX3_arrival_108 : decode cX3_arrival 108 = .ok (.getfield 11, 3) := by decide +kernel
theorem dX3_arrival_111 : decode cX3_arrival 111 = .ok (.iload_n 1, 1) := by decide +kernel
theorem dX3_arrival_112 : decode cX3_arrival 112 = .ok (.iload_n 3, 1) := by decide +kernel
theorem dX3_arrival_113 : decode cX3_arrival 113 = .ok (.iload_n 2, 1) := by decide +kernel
theorem dX3_arrival_114 : decode cX3_arrival 114 = .ok (.invokevirtual 39, 3) := by decide +kernel
theorem dX3_arrival_117 : decode cX3_arrival 117 = .ok (.ifCond .eq 7, 3) := by decide +kernel
theorem dX3_arrival_120 : decode cX3_arrival 120 = .ok (.iconst (-1), 1) := by decide +kernel
theorem dX3_arrival_121 : decode cX3_arrival 121 = .ok (.goto 5, 3) := by decide +kernel
theorem dX3_arrival_124 : decode cX3_arrival 124 = .ok (.iload 6, 2) := by decide +kernel
theorem dX3_arrival_126 : decode cX3_arrival 126 = .ok (.iastore, 1) := by decide +kernel
theorem dX3_arrival_127 : decode cX3_arrival 127 = .ok (.aload_n 0, 1) := by decide +kernel
theorem dX3_arrival_128 : decode cX3_arrival 128 = .ok (.getfield 19, 3) := by decide +kernel
theorem dX3_arrival_131 : decode cX3_arrival 131 = .ok (.iload 4, 2) := by decide +kernel
theorem dX3_arrival_133 : decode cX3_arrival 133 = .ok (.iaload, 1) := by decide +kernel
theorem dX3_arrival_134 : decode cX3_arrival 134 = .ok (.ireturn, 1) := by decide +kernel
theorem dX3_openedRow_0 : decode cX3_openedRow 0 = .ok (.iload_n 1, 1) := by decide +kernel
theorem dX3_openedRow_1 : decode cX3_openedRow 1 = .ok (.bipush 6, 2) := by decide +kernel
theorem dX3_openedRow_3 : decode cX3_openedRow 3 = .ok (.imul, 1) := by decide +kernel
theorem dX3_openedRow_4 : decode cX3_openedRow 4 = .ok (.iload_n 2, 1) := by decide +kernel
theorem dX3_openedRow_5 : decode cX3_openedRow 5 = .ok (.iadd, 1) := by decide +kernel
theorem dX3_openedRow_6 : decode cX3_openedRow 6 = .ok (.istore_n 3, 1) := by decide +kernel
theorem dX3_openedRow_7 : decode cX3_openedRow 7 = .ok (.iload_n 3, 1) := by decide +kernel
theorem dX3_openedRow_8 : decode cX3_openedRow 8 = .ok (.sipush 401, 3) := by decide +kernel
theorem dX3_openedRow_11 : decode cX3_openedRow 11 = .ok (.imul, 1) := by decide +kernel
theorem dX3_openedRow_12 : decode cX3_openedRow 12 = .ok (.istore 4, 2) := by decide +kernel
theorem dX3_openedRow_14 : decode cX3_openedRow 14 = .ok (.aload_n 0, 1) := by decide +kernel
theorem dX3_openedRow_15 : decode cX3_openedRow 15 = .ok (.getfield 19, 3) := by decide +kernel
theorem dX3_openedRow_18 : decode cX3_openedRow 18 = .ok (.ifnull 10, 3) := by decide +kernel
theorem dX3_openedRow_21 : decode cX3_openedRow 21 = .ok (.aload_n 0, 1) := by decide +kernel
theorem dX3_openedRow_22 : decode cX3_openedRow 22 = .ok (.getfield 23, 3) := by decide +kernel
theorem dX3_openedRow_25 : decode cX3_openedRow 25 = .ok (.ifnonnull 21, 3) := by decide +kernel
theorem dX3_openedRow_28 : decode cX3_openedRow 28 = .ok (.aload_n 0, 1) := by decide +kernel
theorem dX3_openedRow_29 : decode cX3_openedRow 29 = .ok (.sipush 14436, 3) := by decide +kernel
theorem dX3_openedRow_32 : decode cX3_openedRow 32 = .ok (.newarray .int, 2) := by decide +kernel
theorem dX3_openedRow_34 : decode cX3_openedRow 34 = .ok (.putfield 19, 3) := by decide +kernel
theorem dX3_openedRow_37 : decode cX3_openedRow 37 = .ok (.aload_n 0, 1) := by decide +kernel
theorem dX3_openedRow_38 : decode cX3_openedRow 38 = .ok (.sipush 14436, 3) := by decide +kernel
theorem dX3_openedRow_41 : decode cX3_openedRow 41 = .ok (.newarray .int, 2) := by decide +kernel
theorem dX3_openedRow_43 : decode cX3_openedRow 43 = .ok (.putfield 23, 3) := by decide +kernel
theorem dX3_openedRow_46 : decode cX3_openedRow 46 = .ok (.aload_n 0, 1) := by decide +kernel
theorem dX3_openedRow_47 : decode cX3_openedRow 47 = .ok (.getfield 15, 3) := by decide +kernel
theorem dX3_openedRow_50 : decode cX3_openedRow 50 = .ok (.iload_n 3, 1) := by decide +kernel
theorem dX3_openedRow_51 : decode cX3_openedRow 51 = .ok (.lshr, 1) := by decide +kernel
theorem dX3_openedRow_52 : decode cX3_openedRow 52 = .ok (.lconst 1, 1) := by decide +kernel
theorem dX3_openedRow_53 : decode cX3_openedRow 53 = .ok (.land, 1) := by decide +kernel
theorem dX3_openedRow_54 : decode cX3_openedRow 54 = .ok (.lconst 0, 1) := by decide +kernel
theorem dX3_openedRow_55 : decode cX3_openedRow 55 = .ok (.lcmp, 1) := by decide +kernel
theorem dX3_openedRow_56 : decode cX3_openedRow 56 = .ok (.ifCond .ne 54, 3) := by decide +kernel
theorem dX3_openedRow_59 : decode cX3_openedRow 59 = .ok (.aload_n 0, 1) := by decide +kernel
theorem dX3_openedRow_60 : decode cX3_openedRow 60 = .ok (.dup, 1) := by decide +kernel
theorem dX3_openedRow_61 : decode cX3_openedRow 61 = .ok (.getfield 15, 3) := by decide +kernel
theorem dX3_openedRow_64 : decode cX3_openedRow 64 = .ok (.lconst 1, 1) := by decide +kernel
theorem dX3_openedRow_65 : decode cX3_openedRow 65 = .ok (.iload_n 3, 1) := by decide +kernel
theorem dX3_openedRow_66 : decode cX3_openedRow 66 = .ok (.lshl, 1) := by decide +kernel
theorem dX3_openedRow_67 : decode cX3_openedRow 67 = .ok (.lor, 1) := by decide +kernel
theorem dX3_openedRow_68 : decode cX3_openedRow 68 = .ok (.putfield 15, 3) := by decide +kernel
theorem dX3_openedRow_71 : decode cX3_openedRow 71 = .ok (.iload 4, 2) := by decide +kernel
theorem dX3_openedRow_73 : decode cX3_openedRow 73 = .ok (.istore 5, 2) := by decide +kernel
theorem dX3_openedRow_75 : decode cX3_openedRow 75 = .ok (.iload 5, 2) := by decide +kernel
theorem dX3_openedRow_77 : decode cX3_openedRow 77 = .ok (.iload 4, 2) := by decide +kernel
theorem dX3_openedRow_79 : decode cX3_openedRow 79 = .ok (.sipush 401, 3) := by decide +kernel
theorem dX3_openedRow_82 : decode cX3_openedRow 82 = .ok (.iadd, 1) := by decide +kernel
theorem dX3_openedRow_83 : decode cX3_openedRow 83 = .ok (.if_icmp .ge 27, 3) := by decide +kernel
theorem dX3_openedRow_86 : decode cX3_openedRow 86 = .ok (.aload_n 0, 1) := by decide +kernel
theorem dX3_openedRow_87 : decode cX3_openedRow 87 = .ok (.getfield 19, 3) := by decide +kernel
theorem dX3_openedRow_90 : decode cX3_openedRow 90 = .ok (.iload 5, 2) := by decide +kernel
theorem dX3_openedRow_92 : decode cX3_openedRow 92 = .ok (.bipush (-2), 2) := by decide +kernel
theorem dX3_openedRow_94 : decode cX3_openedRow 94 = .ok (.iastore, 1) := by decide +kernel
theorem dX3_openedRow_95 : decode cX3_openedRow 95 = .ok (.aload_n 0, 1) := by decide +kernel
theorem dX3_openedRow_96 : decode cX3_openedRow 96 = .ok (.getfield 23, 3) := by decide +kernel
theorem dX3_openedRow_99 : decode cX3_openedRow 99 = .ok (.iload 5, 2) := by decide +kernel
theorem dX3_openedRow_101 : decode cX3_openedRow 101 = .ok (.bipush (-2), 2) := by decide +kernel
theorem dX3_openedRow_103 : decode cX3_openedRow 103 = .ok (.iastore, 1) := by decide +kernel
theorem dX3_openedRow_104 : decode cX3_openedRow 104 = .ok (.iinc 5 1, 3) := by decide +kernel
theorem dX3_openedRow_107 : decode cX3_openedRow 107 = .ok (.goto (-32), 3) := by decide +kernel
theorem dX3_openedRow_110 : decode cX3_openedRow 110 = .ok (.iload 4, 2) := by decide +kernel
theorem dX3_openedRow_112 : decode cX3_openedRow 112 = .ok (.ireturn, 1) := by decide +kernel
