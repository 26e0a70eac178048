theorem qf_X2_24 : Cond.fieldLink RX2 24 "SlowWorlds$News" "sky" "LSlowWorlds$Sky;" ∈ gw := tbt (tb2 (List.mem_of_getElem? (i := 109) rfl)) rfl
theorem iX2 : ∀ w ∈ u_ws RX2 TX2 6, w ∈ gw := by
  intro w hw
  obtain ⟨k, hk, rfl⟩ := List.mem_map.mp hw
  have hk := List.mem_range.mp hk
  match k, hk with
  | 0, _ => exact tbt (tb2 (List.mem_of_getElem? (i := 119) rfl)) rfl
  | 1, _ => exact tbt (tb2 (List.mem_of_getElem? (i := 121) rfl)) rfl
  | 2, _ => exact tbt (tb2 (List.mem_of_getElem? (i := 123) rfl)) rfl
  | 3, _ => exact tbt (tb2 (List.mem_of_getElem? (i := 125) rfl)) rfl
  | 4, _ => exact tbt (tb2 (List.mem_of_getElem? (i := 127) rfl)) rfl
  | 5, _ => exact tbt (tb2 (List.mem_of_getElem? (i := 129) rfl)) rfl
  | (k + 6), hk => exact absurd hk (by omega)
theorem qf_X2_38 : Cond.fieldLink RX2 38 "SlowWorlds$Sky" "rocks" "I" ∈ gw := tbt (tb1 (List.mem_of_getElem? (i := 52) rfl)) rfl
theorem qf_X2_9 : Cond.fieldLink RX2 9 "SlowWorlds$News" "known" "[I" ∈ gw := tbt (tb2 (List.mem_of_getElem? (i := 111) rfl)) rfl
theorem qf_X2_28 : Cond.fieldLink RX2 28 "SlowWorlds$News" "rays" "LSlowWorlds$Rays;" ∈ gw := tbt (tb2 (List.mem_of_getElem? (i := 110) rfl)) rfl
theorem qm_X2_52 : Cond.methodLink RX2 52 yX3_arrival ∈ gw := tbt (tb4 (List.mem_of_getElem? (i := 165) rfl)) rfl
theorem qf_X2_15 : Cond.fieldLink RX2 15 "SlowWorlds$News" "tellers" "[I" ∈ gw := tbt (tb2 (List.mem_of_getElem? (i := 114) rfl)) rfl
theorem dJ7_fill_53178_0 : decode cJ7_fill_53178 0 = .ok (.iconst 0, 1) := by decide +kernel
theorem dJ7_fill_53178_1 : decode cJ7_fill_53178 1 = .ok (.istore_n 2, 1) := by decide +kernel
theorem dJ7_fill_53178_2 : decode cJ7_fill_53178 2 = .ok (.aload_n 0, 1) := by decide +kernel
theorem dJ7_fill_53178_3 : decode cJ7_fill_53178 3 = .ok (.arraylength, 1) := by decide +kernel
theorem dJ7_fill_53178_4 : decode cJ7_fill_53178 4 = .ok (.istore_n 3, 1) := by decide +kernel
theorem dJ7_fill_53178_5 : decode cJ7_fill_53178 5 = .ok (.iload_n 2, 1) := by decide +kernel
theorem dJ7_fill_53178_6 : decode cJ7_fill_53178 6 = .ok (.iload_n 3, 1) := by decide +kernel
theorem dJ7_fill_53178_7 : decode cJ7_fill_53178 7 = .ok (.if_icmp .ge 13, 3) := by decide +kernel
theorem dJ7_fill_53178_10 : decode cJ7_fill_53178 10 = .ok (.aload_n 0, 1) := by decide +kernel
theorem dJ7_fill_53178_11 : decode cJ7_fill_53178 11 = .ok (.iload_n 2, 1) := by decide +kernel
theorem dJ7_fill_53178_12 : decode cJ7_fill_53178 12 = .ok (.iload_n 1, 1) := by decide +kernel
theorem dJ7_fill_53178_13 : decode cJ7_fill_53178 13 = .ok (.iastore, 1) := by decide +kernel
theorem dJ7_fill_53178_14 : decode cJ7_fill_53178 14 = .ok (.iinc 2 1, 3) := by decide +kernel
theorem dJ7_fill_53178_17 : decode cJ7_fill_53178 17 = .ok (.goto (-12), 3) := by decide +kernel
theorem dJ7_fill_53178_20 : decode cJ7_fill_53178 20 = .ok (.return_, 1) := by decide +kernel
theorem dX2_lastToKnow_0 : decode cX2_lastToKnow 0 = .ok (.iconst 0, 1) := by decide +kernel
theorem dX2_lastToKnow_1 : decode cX2_lastToKnow 1 = .ok (.istore_n 1, 1) := by decide +kernel
theorem dX2_lastToKnow_2 : decode cX2_lastToKnow 2 = .ok (.iconst 0, 1) := by decide +kernel
theorem dX2_lastToKnow_3 : decode cX2_lastToKnow 3 = .ok (.istore_n 2, 1) := by decide +kernel
theorem dX2_lastToKnow_4 : decode cX2_lastToKnow 4 = .ok (.iload_n 2, 1) := by decide +kernel
theorem dX2_lastToKnow_5 : decode cX2_lastToKnow 5 = .ok (.aload_n 0, 1) := by decide +kernel
theorem dX2_lastToKnow_6 : decode cX2_lastToKnow 6 = .ok (.getfield 24, 3) := by decide +kernel
theorem dX2_lastToKnow_9 : decode cX2_lastToKnow 9 = .ok (.getfield 38, 3) := by decide +kernel
theorem dX2_lastToKnow_12 : decode cX2_lastToKnow 12 = .ok (.if_icmp .ge 38, 3) := by decide +kernel
theorem dX2_lastToKnow_15 : decode cX2_lastToKnow 15 = .ok (.aload_n 0, 1) := by decide +kernel
theorem dX2_lastToKnow_16 : decode cX2_lastToKnow 16 = .ok (.getfield 9, 3) := by decide +kernel
theorem dX2_lastToKnow_19 : decode cX2_lastToKnow 19 = .ok (.iload_n 2, 1) := by decide +kernel
theorem dX2_lastToKnow_20 : decode cX2_lastToKnow 20 = .ok (.iaload, 1) := by decide +kernel
theorem dX2_lastToKnow_21 : decode cX2_lastToKnow 21 = .ok (.iconst (-1), 1) := by decide +kernel
theorem dX2_lastToKnow_22 : decode cX2_lastToKnow 22 = .ok (.if_icmp .ne 5, 3) := by decide +kernel
theorem dX2_lastToKnow_25 : decode cX2_lastToKnow 25 = .ok (.iconst (-1), 1) := by decide +kernel
theorem dX2_lastToKnow_26 : decode cX2_lastToKnow 26 = .ok (.ireturn, 1) := by decide +kernel
theorem dX2_lastToKnow_27 : decode cX2_lastToKnow 27 = .ok (.aload_n 0, 1) := by decide +kernel
theorem dX2_lastToKnow_28 : decode cX2_lastToKnow 28 = .ok (.getfield 9, 3) := by decide +kernel
theorem dX2_lastToKnow_31 : decode cX2_lastToKnow 31 = .ok (.iload_n 2, 1) := by decide +kernel
theorem dX2_lastToKnow_32 : decode cX2_lastToKnow 32 = .ok (.iaload, 1) := by decide +kernel
theorem dX2_lastToKnow_33 : decode cX2_lastToKnow 33 = .ok (.aload_n 0, 1) := by decide +kernel
theorem dX2_lastToKnow_34 : decode cX2_lastToKnow 34 = .ok (.getfield 9, 3) := by decide +kernel
theorem dX2_lastToKnow_37 : decode cX2_lastToKnow 37 = .ok (.iload_n 1, 1) := by decide +kernel
theorem dX2_lastToKnow_38 : decode cX2_lastToKnow 38 = .ok (.iaload, 1) := by decide +kernel
theorem dX2_lastToKnow_39 : decode cX2_lastToKnow 39 = .ok (.if_icmp .le 5, 3) := by decide +kernel
theorem dX2_lastToKnow_42 : decode cX2_lastToKnow 42 = .ok (.iload_n 2, 1) := by decide +kernel
theorem dX2_lastToKnow_43 : decode cX2_lastToKnow 43 = .ok (.istore_n 1, 1) := by decide +kernel
theorem dX2_lastToKnow_44 : decode cX2_lastToKnow 44 = .ok (.iinc 2 1, 3) := by decide +kernel
theorem dX2_lastToKnow_47 : decode cX2_lastToKnow 47 = .ok (.goto (-43), 3) := by decide +kernel
theorem dX2_lastToKnow_50 : decode cX2_lastToKnow 50 = .ok (.iload_n 1, 1) := by decide +kernel
theorem dX2_lastToKnow_51 : decode cX2_lastToKnow 51 = .ok (.ireturn, 1) := by decide +kernel
theorem dX2_soonest_0 : decode cX2_soonest 0 = .ok (.iconst (-1), 1) := by decide +kernel
theorem dX2_soonest_1 : decode cX2_soonest 1 = .ok (.istore_n 2, 1) := by decide +kernel
theorem dX2_soonest_2 : decode cX2_soonest 2 = .ok (.iconst 0, 1) := by decide +kernel
theorem dX2_soonest_3 : decode cX2_soonest 3 = .ok (.istore_n 3, 1) := by decide +kernel
theorem dX2_soonest_4 : decode cX2_soonest 4 = .ok (.iload_n 3, 1) := by decide +kernel
theorem dX2_soonest_5 : decode cX2_soonest 5 = .ok (.aload_n 0, 1) := by decide +kernel
theorem dX2_soonest_6 : decode cX2_soonest 6 = .ok (.getfield 24, 3) := by decide +kernel
theorem dX2_soonest_9 : decode cX2_soonest 9 = .ok (.getfield 38, 3) := by decide +kernel
theorem dX2_soonest_12 : decode cX2_soonest 12 = .ok (.if_icmp .ge 61, 3) := by decide +kernel
theorem dX2_soonest_15 : decode cX2_soonest 15 = .ok (.aload_n 0, 1) := by decide +kernel
theorem dX2_soonest_16 : decode cX2_soonest 16 = .ok (.getfield 9, 3) := by decide +kernel
theorem dX2_soonest_19 : decode cX2_soonest 19 = .ok (.iload_n 3, 1) := by decide +kernel
theorem dX2_soonest_20 : decode cX2_soonest 20 = .ok (.iaload, 1) := by decide +kernel
theorem dX2_soonest_21 : decode cX2_soonest 21 = .ok (.iconst (-1), 1) := by decide +kernel
theorem dX2_soonest_22 : decode cX2_soonest 22 = .ok (.if_icmp .eq 15, 3) := by decide +kernel
theorem dX2_soonest_25 : decode cX2_soonest 25 = .ok (.iload_n 1, 1) := by decide +kernel
theorem dX2_soonest_26 : decode cX2_soonest 26 = .ok (.iload_n 3, 1) := by decide +kernel
theorem dX2_soonest_27 : decode cX2_soonest 27 = .ok (.ishr, 1) := by decide +kernel
theorem dX2_soonest_28 : decode cX2_soonest 28 = .ok (.iconst 1, 1) := by decide +kernel
theorem dX2_soonest_29 : decode cX2_soonest 29 = .ok (.iand, 1) := by decide +kernel
theorem dX2_soonest_30 : decode cX2_soonest 30 = .ok (.ifCond .ne 7, 3) := by decide +kernel
theorem dX2_soonest_33 : decode cX2_soonest 33 = .ok (.iconst 1, 1) := by decide +kernel
theorem dX2_soonest_34 : decode cX2_soonest 34 = .ok (.goto 4, 3) := by decide +kernel
theorem dX2_soonest_37 : decode cX2_soonest 37 = .ok (.iconst 0, 1) := by decide +kernel
theorem dX2_soonest_38 : decode cX2_soonest 38 = .ok (.istore 4, 2) := by decide +kernel
theorem dX2_soonest_40 : decode cX2_soonest 40 = .ok (.iload 4, 2) := by decide +kernel
theorem dX2_soonest_42 : decode cX2_soonest 42 = .ok (.ifCond .eq 25, 3) := by decide +kernel
theorem dX2_soonest_45 : decode cX2_soonest 45 = .ok (.iload_n 2, 1) := by decide +kernel
theorem dX2_soonest_46 : decode cX2_soonest 46 = .ok (.iconst (-1), 1) := by decide +kernel
theorem dX2_soonest_47 : decode cX2_soonest 47 = .ok (.if_icmp .eq 18, 3) := by decide +kernel
theorem dX2_soonest_50 : decode cX2_soonest 50 = .ok (.aload_n 0, 1) := by decide +kernel
theorem dX2_soonest_51 : decode cX2_soonest 51 = .ok (.getfield 9, 3) := by decide +kernel
theorem dX2_soonest_54 : decode cX2_soonest 54 = .ok (.iload_n 3, 1) := by decide +kernel
theorem dX2_soonest_55 : decode cX2_soonest 55 = .ok (.iaload, 1) := by decide +kernel
theorem dX2_soonest_56 : decode cX2_soonest 56 = .ok (.aload_n 0, 1) := by decide +kernel
theorem dX2_soonest_57 : decode cX2_soonest 57 = .ok (.getfield 9, 3) := by decide +kernel
theorem dX2_soonest_60 : decode cX2_soonest 60 = .ok (.iload_n 2, 1) := by decide +kernel
theorem dX2_soonest_61 : decode cX2_soonest 61 = .ok (.iaload, 1) := by decide +kernel
theorem dX2_soonest_62 : decode cX2_soonest 62 = .ok (.if_icmp .ge 5, 3) := by decide +kernel
theorem dX2_soonest_65 : decode cX2_soonest 65 = .ok (.iload_n 3, 1) := by decide +kernel
theorem dX2_soonest_66 : decode cX2_soonest 66 = .ok (.istore_n 2, 1) := by decide +kernel
theorem dX2_soonest_67 : decode cX2_soonest 67 = .ok (.iinc 3 1, 3) := by decide +kernel
theorem dX2_soonest_70 : decode cX2_soonest 70 = .ok (.goto (-66), 3) := by decide +kernel
theorem dX2_soonest_73 : decode cX2_soonest 73 = .ok (.iload_n 2, 1) := by decide +kernel
theorem dX2_soonest_74 : decode cX2_soonest 74 = .ok (.ireturn, 1) := by decide +kernel
theorem dX2_tellOn_0 : decode cX2_tellOn 0 = .ok (.iconst 0, 1) := by decide +kernel
theorem dX2_tellOn_1 : decode cX2_tellOn 1 = .ok (.istore_n 2, 1) := by decide +kernel
theorem dX2_tellOn_2 : decode cX2_tellOn 2 = .ok (.iload_n 2, 1) := by decide +kernel
theorem dX2_tellOn_3 : decode cX2_tellOn 3 = .ok (.aload_n 0, 1) := by decide +kernel
theorem dX2_tellOn_4 : decode cX2_tellOn 4 = .ok (.getfield 24, 3) := by decide +kernel
theorem dX2_tellOn_7 : decode cX2_tellOn 7 = .ok (.getfield 38, 3) := by decide +kernel
theorem dX2_tellOn_10 : decode cX2_tellOn 10 = .ok (.if_icmp .ge 105, 3) := by decide +kernel
theorem dX2_tellOn_13 : decode cX2_tellOn 13 = .ok (.iload_n 2, 1) := by decide +kernel
theorem dX2_tellOn_14 : decode cX2_tellOn 14 = .ok (.iload_n 1, 1) := by decide +kernel
theorem dX2_tellOn_15 : decode cX2_tellOn 15 = .ok (.if_icmp .ne 7, 3) := by decide +kernel
theorem dX2_tellOn_18 : decode cX2_tellOn 18 = .ok (.iconst (-1), 1) := by decide +kernel
theorem dX2_tellOn_19 : decode cX2_tellOn 19 = .ok (.goto 18, 3) := by decide +kernel
theorem dX2_tellOn_22 : decode cX2_tellOn 22 = .ok (.aload_n 0, 1) := by decide +kernel
theorem dX2_tellOn_23 : decode cX2_tellOn 23 = .ok (.getfield 28, 3) := by decide +kernel
theorem dX2_tellOn_26 : decode cX2_tellOn 26 = .ok (.iload_n 1, 1) := by decide +kernel
theorem dX2_tellOn_27 : decode cX2_tellOn 27 = .ok (.aload_n 0, 1) := by decide +kernel
theorem dX2_tellOn_28 : decode cX2_tellOn 28 = .ok (.getfield 9, 3) := by decide +kernel
theorem dX2_tellOn_31 : decode cX2_tellOn 31 = .ok (.iload_n 1, 1) := by decide +kernel
theorem dX2_tellOn_32 : decode cX2_tellOn 32 = .ok (.iaload, 1) := by decide +kernel
theorem dX2_tellOn_33 : decode cX2_tellOn 33 = .ok (.iload_n 2, 1) := by decide +kernel
theorem dX2_tellOn_34 : decode cX2_tellOn 34 = .ok (.invokevirtual 52, 3) := by decide +kernel
theorem dX2_tellOn_37 : decode cX2_tellOn 37 = .ok (.istore_n 3, 1) := by decide +kernel
theorem dX2_tellOn_38 : decode cX2_tellOn 38 = .ok (.iload_n 3, 1) := by decide +kernel
theorem dX2_tellOn_39 : decode cX2_tellOn 39 = .ok (.iconst (-1), 1) := by decide +kernel
theorem dX2_tellOn_40 : decode cX2_tellOn 40 = .ok (.if_icmp .eq 69, 3) := by decide +kernel
theorem dX2_tellOn_43 : decode cX2_tellOn 43 = .ok (.aload_n 0, 1) := by decide +kernel
theorem dX2_tellOn_44 : decode cX2_tellOn 44 = .ok (.getfield 9, 3) := by decide +kernel
theorem dX2_tellOn_47 : decode cX2_tellOn 47 = .ok (.iload_n 2, 1) := by decide +kernel
theorem dX2_tellOn_48 : decode cX2_tellOn 48 = .ok (.iaload, 1) := by decide +kernel
theorem dX2_tellOn_49 : decode cX2_tellOn 49 = .ok (.iconst (-1), 1) := by decide +kernel
theorem dX2_tellOn_50 : decode cX2_tellOn 50 = .ok (.if_icmp .eq 13, 3) := by decide +kernel
theorem dX2_tellOn_53 : decode cX2_tellOn 53 = .ok (.iload_n 3, 1) := by decide +kernel
theorem dX2_tellOn_54 : decode cX2_tellOn 54 = .ok (.aload_n 0, 1) := by decide +kernel
theorem dX2_tellOn_55 : decode cX2_tellOn 55 = .ok (.getfield 9, 3) := by decide +kernel
theorem dX2_tellOn_58 : decode cX2_tellOn 58 = .ok (.iload_n 2, 1) := by decide +kernel
theorem dX2_tellOn_59 : decode cX2_tellOn 59 = .ok (.iaload, 1) := by decide +kernel
theorem dX2_tellOn_60 : decode cX2_tellOn 60 = .ok (.if_icmp .ge 7, 3) := by decide +kernel
theorem dX2_tellOn_63 : decode cX2_tellOn 63 = .ok (.iconst 1, 1) := by decide +kernel
theorem dX2_tellOn_64 : decode cX2_tellOn 64 = .ok (.goto 4, 3) := by decide +kernel
theorem dX2_tellOn_67 : decode cX2_tellOn 67 = .ok (.iconst 0, 1) := by decide +kernel
theorem dX2_tellOn_68 : decode cX2_tellOn 68 = .ok (.istore 4, 2) := by decide +kernel
theorem dX2_tellOn_70 : decode cX2_tellOn 70 = .ok (.iload 4, 2) := by decide +kernel
theorem dX2_tellOn_72 : decode cX2_tellOn 72 = .ok (.ifCond .ne 23, 3) := by decide +kernel
theorem dX2_tellOn_75 : decode cX2_tellOn 75 = .ok (.iload_n 3, 1) := by decide +kernel
theorem dX2_tellOn_76 : decode cX2_tellOn 76 = .ok (.aload_n 0, 1) := by decide +kernel
theorem dX2_tellOn_77 : decode cX2_tellOn 77 = .ok (.getfield 9, 3) := by decide +kernel
theorem dX2_tellOn_80 : decode cX2_tellOn 80 = .ok (.iload_n 2, 1) := by decide +kernel
theorem dX2_tellOn_81 : decode cX2_tellOn 81 = .ok (.iaload, 1) := by decide +kernel
theorem dX2_tellOn_82 : decode cX2_tellOn 82 = .ok (.if_icmp .ne 27, 3) := by decide +kernel
theorem dX2_tellOn_85 : decode cX2_tellOn 85 = .ok (.iload_n 1, 1) := by decide +kernel
theorem dX2_tellOn_86 : decode cX2_tellOn 86 = .ok (.aload_n 0, 1) := by decide +kernel
theorem dX2_tellOn_87 : decode cX2_tellOn 87 = .ok (.getfield 15, 3) := by decide +kernel
theorem dX2_tellOn_90 : decode cX2_tellOn 90 = .ok (.iload_n 2, 1) := by decide +kernel
theorem dX2_tellOn_91 : decode cX2_tellOn 91 = .ok (.iaload, 1) := by decide +kernel
theorem dX2_tellOn_92 : decode cX2_tellOn 92 = .ok (.if_icmp .ge 17, 3) := by decide +kernel
theorem dX2_tellOn_95 : decode cX2_tellOn 95 = .ok (.aload_n 0, 1) := by decide +kernel
theorem dX2_tellOn_96 : decode cX2_tellOn 96 = .ok (.getfield 9, 3) := by decide +kernel
theorem dX2_tellOn_99 : decode cX2_tellOn 99 = .ok (.iload_n 2, 1) := by decide +kernel
theorem dX2_tellOn_100 : decode cX2_tellOn 100 = .ok (.iload_n 3, 1) := by decide +kernel
theorem dX2_tellOn_101 : decode cX2_tellOn 101 = .ok (.iastore, 1) := by decide +kernel
theorem dX2_tellOn_102 : decode cX2_tellOn 102 = .ok (.aload_n 0, 1) := by decide +kernel
theorem dX2_tellOn_103 : decode cX2_tellOn 103 = .ok (.getfield 15, 3) := by decide +kernel
theorem dX2_tellOn_106 : decode cX2_tellOn 106 = .ok (.iload_n 2, 1) := by decide +kernel
theorem dX2_tellOn_107 : decode cX2_tellOn 107 = .ok (.iload_n 1, 1) := by decide +kernel
theorem dX2_tellOn_108 : decode cX2_tellOn 108 = .ok (.iastore, 1) := by decide +kernel
theorem dX2_tellOn_109 : decode cX2_tellOn 109 = .ok (.iinc 2 1, 3) := by decide +kernel
theorem dX2_tellOn_112 : decode cX2_tellOn 112 = .ok (.goto (-110), 3) := by decide +kernel
theorem dX2_tellOn_115 : decode cX2_tellOn 115 = .ok (.return_, 1) := by decide +kernel
