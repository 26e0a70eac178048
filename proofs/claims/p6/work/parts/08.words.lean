theorem qf_X0_9 : Cond.fieldLink RX0 9 "SlowWorlds$Course" "worn" "[I" ∈ gw := tbt (tb1 (List.mem_of_getElem? (i := 90) rfl)) rfl
theorem iX0 : ∀ w ∈ u_ws RX0 TX0 6, w ∈ gw := by
  intro w hw
  obtain ⟨k, hk, rfl⟩ := List.mem_map.mp hw
  have hk := List.mem_range.mp hk
  match k, hk with
  | 0, _ => exact tbt (tb1 (List.mem_of_getElem? (i := 110) rfl)) rfl
  | 1, _ => exact tbt (tb1 (List.mem_of_getElem? (i := 112) rfl)) rfl
  | 2, _ => exact tbt (tb1 (List.mem_of_getElem? (i := 114) rfl)) rfl
  | 3, _ => exact tbt (tb1 (List.mem_of_getElem? (i := 116) rfl)) rfl
  | 4, _ => exact tbt (tb1 (List.mem_of_getElem? (i := 118) rfl)) rfl
  | 5, _ => exact tbt (tb1 (List.mem_of_getElem? (i := 120) rfl)) rfl
  | (k + 6), hk => exact absurd hk (by omega)
theorem qf_X0_24 : Cond.fieldLink RX0 24 "SlowWorlds$Course" "week" "I" ∈ gw := tbt (tb1 (List.mem_of_getElem? (i := 103) rfl)) rfl
theorem qf_X0_21 : Cond.fieldLink RX0 21 "SlowWorlds$Course" "known" "[I" ∈ gw := tbt (tb1 (List.mem_of_getElem? (i := 101) rfl)) rfl
theorem qc_X0_firstKnown : Cond.code yX0_firstKnown cX0_firstKnown 3 (some .int) ∈ gw := tbt (tb5 (List.mem_of_getElem? (i := 0) rfl)) rfl
theorem qi_yX0_firstKnown : Cond.instanceMethod yX0_firstKnown ∈ gw := tbt (tb4 (List.mem_of_getElem? (i := 238) rfl)) rfl
theorem qs_X0_firstKnown : Cond.selects (yX0_firstKnown).cls yX0_firstKnown yX0_firstKnown ∈ gw := tbt (tb4 (List.mem_of_getElem? (i := 239) rfl)) rfl
theorem qz_X0 : Cond.initialized RX0 ∈ gw := tbt (tb1 (List.mem_of_getElem? (i := 4) rfl)) rfl
theorem ci_X0_firstKnown : CIv yX0_firstKnown cX0_firstKnown 3 (some .int) 2 := ⟨qc_X0_firstKnown, qi_yX0_firstKnown, qs_X0_firstKnown, qz_X0, by decide +kernel⟩
theorem qm_X0_37 : Cond.methodLink RX0 37 yX0_firstKnown ∈ gw := tbt (tb5 (List.mem_of_getElem? (i := 59) rfl)) rfl
theorem qf_X0_28 : Cond.fieldLink RX0 28 "SlowWorlds$Course" "orders" "I" ∈ gw := tbt (tb1 (List.mem_of_getElem? (i := 106) rfl)) rfl
theorem qf_X7_15 : Cond.fieldLink RX7 15 "SlowWorlds$Tray" "many" "I" ∈ gw := tbt (tb2 (List.mem_of_getElem? (i := 187) rfl)) rfl
theorem iX7 : ∀ w ∈ u_ws RX7 TX7 3, w ∈ gw := by
  intro w hw
  obtain ⟨k, hk, rfl⟩ := List.mem_map.mp hw
  have hk := List.mem_range.mp hk
  match k, hk with
  | 0, _ => exact tbt (tb2 (List.mem_of_getElem? (i := 189) rfl)) rfl
  | 1, _ => exact tbt (tb2 (List.mem_of_getElem? (i := 191) rfl)) rfl
  | 2, _ => exact tbt (tb2 (List.mem_of_getElem? (i := 193) rfl)) rfl
  | (k + 3), hk => exact absurd hk (by omega)
theorem qf_X7_19 : Cond.fieldLink RX7 19 "SlowWorlds$Tray" "sort" "I" ∈ gw := tbt (tb2 (List.mem_of_getElem? (i := 185) rfl)) rfl
theorem qf_X7_9 : Cond.fieldLink RX7 9 "SlowWorlds$Tray" "numbers" "[J" ∈ gw := tbt (tb2 (List.mem_of_getElem? (i := 183) rfl)) rfl
theorem qf_X9_35 : Cond.fieldLink RX9 35 "SlowWorlds$Years" "rows" "I" ∈ gw := tbt (tb1 (List.mem_of_getElem? (i := 149) rfl)) rfl
theorem iX9 : ∀ w ∈ u_ws RX9 TX9 8, w ∈ gw := by
  intro w hw
  obtain ⟨k, hk, rfl⟩ := List.mem_map.mp hw
  have hk := List.mem_range.mp hk
  match k, hk with
  | 0, _ => exact tbt (tb1 (List.mem_of_getElem? (i := 151) rfl)) rfl
  | 1, _ => exact tbt (tb1 (List.mem_of_getElem? (i := 153) rfl)) rfl
  | 2, _ => exact tbt (tb1 (List.mem_of_getElem? (i := 155) rfl)) rfl
  | 3, _ => exact tbt (tb1 (List.mem_of_getElem? (i := 157) rfl)) rfl
  | 4, _ => exact tbt (tb1 (List.mem_of_getElem? (i := 159) rfl)) rfl
  | 5, _ => exact tbt (tb1 (List.mem_of_getElem? (i := 161) rfl)) rfl
  | 6, _ => exact tbt (tb1 (List.mem_of_getElem? (i := 163) rfl)) rfl
  | 7, _ => exact tbt (tb1 (List.mem_of_getElem? (i := 165) rfl)) rfl
  | (k + 8), hk => exact absurd hk (by omega)
theorem qf_X9_11 : Cond.fieldLink RX9 11 "SlowWorlds$Years" "words" "[I" ∈ gw := tbt (tb1 (List.mem_of_getElem? (i := 129) rfl)) rfl
theorem dX0_dress_0 : decode cX0_dress 0 = .ok (.aload_n 0, 1) := by decide +kernel
theorem dX0_dress_1 : decode cX0_dress 1 = .ok (.getfield 9, 3) := by decide +kernel
theorem dX0_dress_4 : decode cX0_dress 4 = .ok (.aload_n 0, 1) := by decide +kernel
theorem dX0_dress_5 : decode cX0_dress 5 = .ok (.getfield 24, 3) := by decide +kernel
theorem dX0_dress_8 : decode cX0_dress 8 = .ok (.aload_n 0, 1) := by decide +kernel
theorem dX0_dress_9 : decode cX0_dress 9 = .ok (.getfield 9, 3) := by decide +kernel
theorem dX0_dress_12 : decode cX0_dress 12 = .ok (.aload_n 0, 1) := by decide +kernel
theorem dX0_dress_13 : decode cX0_dress 13 = .ok (.getfield 24, 3) := by decide +kernel
theorem dX0_dress_16 : decode cX0_dress 16 = .ok (.iaload, 1) := by decide +kernel
theorem dX0_dress_17 : decode cX0_dress 17 = .ok (.iconst 1, 1) := by decide +kernel
theorem dX0_dress_18 : decode cX0_dress 18 = .ok (.iload_n 1, 1) := by decide +kernel
theorem dX0_dress_19 : decode cX0_dress 19 = .ok (.ishl, 1) := by decide +kernel
theorem dX0_dress_20 : decode cX0_dress 20 = .ok (.iconst (-1), 1) := by decide +kernel
theorem dX0_dress_21 : decode cX0_dress 21 = .ok (.ixor, 1) := by decide +kernel
theorem dX0_dress_22 : decode cX0_dress 22 = .ok (.iand, 1) := by decide +kernel
theorem dX0_dress_23 : decode cX0_dress 23 = .ok (.iload_n 2, 1) := by decide +kernel
theorem dX0_dress_24 : decode cX0_dress 24 = .ok (.iload_n 1, 1) := by decide +kernel
theorem dX0_dress_25 : decode cX0_dress 25 = .ok (.ishl, 1) := by decide +kernel
theorem dX0_dress_26 : decode cX0_dress 26 = .ok (.ior, 1) := by decide +kernel
theorem dX0_dress_27 : decode cX0_dress 27 = .ok (.iastore, 1) := by decide +kernel
theorem dX0_dress_28 : decode cX0_dress 28 = .ok (.return_, 1) := by decide +kernel
theorem dX0_firstKnown_0 : decode cX0_firstKnown 0 = .ok (.aload_n 0, 1) := by decide +kernel
theorem dX0_firstKnown_1 : decode cX0_firstKnown 1 = .ok (.getfield 21, 3) := by decide +kernel
theorem dX0_firstKnown_4 : decode cX0_firstKnown 4 = .ok (.iload_n 1, 1) := by decide +kernel
theorem dX0_firstKnown_5 : decode cX0_firstKnown 5 = .ok (.bipush 6, 2) := by decide +kernel
theorem dX0_firstKnown_7 : decode cX0_firstKnown 7 = .ok (.imul, 1) := by decide +kernel
theorem dX0_firstKnown_8 : decode cX0_firstKnown 8 = .ok (.iload_n 2, 1) := by decide +kernel
theorem dX0_firstKnown_9 : decode cX0_firstKnown 9 = .ok (.iadd, 1) := by decide +kernel
theorem dX0_firstKnown_10 : decode cX0_firstKnown 10 = .ok (.iaload, 1) := by decide +kernel
theorem dX0_firstKnown_11 : decode cX0_firstKnown 11 = .ok (.ireturn, 1) := by decide +kernel
theorem dX0_knownAhead_0 : decode cX0_knownAhead 0 = .ok (.aload_n 0, 1) := by decide +kernel
theorem dX0_knownAhead_1 : decode cX0_knownAhead 1 = .ok (.iload_n 1, 1) := by decide +kernel
theorem dX0_knownAhead_2 : decode cX0_knownAhead 2 = .ok (.iload_n 2, 1) := by decide +kernel
theorem dX0_knownAhead_3 : decode cX0_knownAhead 3 = .ok (.invokevirtual 37, 3) := by decide +kernel
theorem dX0_knownAhead_6 : decode cX0_knownAhead 6 = .ok (.istore_n 3, 1) := by decide +kernel
theorem dX0_knownAhead_7 : decode cX0_knownAhead 7 = .ok (.iconst 0, 1) := by decide +kernel
theorem dX0_knownAhead_8 : decode cX0_knownAhead 8 = .ok (.istore 4, 2) := by decide +kernel
theorem dX0_knownAhead_10 : decode cX0_knownAhead 10 = .ok (.iconst 0, 1) := by decide +kernel
theorem dX0_knownAhead_11 : decode cX0_knownAhead 11 = .ok (.istore 5, 2) := by decide +kernel
theorem dX0_knownAhead_13 : decode cX0_knownAhead 13 = .ok (.iload 5, 2) := by decide +kernel
theorem dX0_knownAhead_15 : decode cX0_knownAhead 15 = .ok (.aload_n 0, 1) := by decide +kernel
theorem dX0_knownAhead_16 : decode cX0_knownAhead 16 = .ok (.getfield 28, 3) := by decide +kernel
theorem dX0_knownAhead_19 : decode cX0_knownAhead 19 = .ok (.if_icmp .ge 45, 3) := by decide +kernel
theorem dX0_knownAhead_22 : decode cX0_knownAhead 22 = .ok (.aload_n 0, 1) := by decide +kernel
theorem dX0_knownAhead_23 : decode cX0_knownAhead 23 = .ok (.iload 5, 2) := by decide +kernel
theorem dX0_knownAhead_25 : decode cX0_knownAhead 25 = .ok (.iload_n 2, 1) := by decide +kernel
theorem dX0_knownAhead_26 : decode cX0_knownAhead 26 = .ok (.invokevirtual 37, 3) := by decide +kernel
theorem dX0_knownAhead_29 : decode cX0_knownAhead 29 = .ok (.istore 6, 2) := by decide +kernel
theorem dX0_knownAhead_31 : decode cX0_knownAhead 31 = .ok (.iload 6, 2) := by decide +kernel
theorem dX0_knownAhead_33 : decode cX0_knownAhead 33 = .ok (.iconst (-1), 1) := by decide +kernel
theorem dX0_knownAhead_34 : decode cX0_knownAhead 34 = .ok (.if_icmp .eq 24, 3) := by decide +kernel
theorem dX0_knownAhead_37 : decode cX0_knownAhead 37 = .ok (.iload 6, 2) := by decide +kernel
theorem dX0_knownAhead_39 : decode cX0_knownAhead 39 = .ok (.iload_n 3, 1) := by decide +kernel
theorem dX0_knownAhead_40 : decode cX0_knownAhead 40 = .ok (.if_icmp .lt 15, 3) := by decide +kernel
theorem dX0_knownAhead_43 : decode cX0_knownAhead 43 = .ok (.iload 6, 2) := by decide +kernel
theorem dX0_knownAhead_45 : decode cX0_knownAhead 45 = .ok (.iload_n 3, 1) := by decide +kernel
theorem dX0_knownAhead_46 : decode cX0_knownAhead 46 = .ok (.if_icmp .ne 12, 3) := by decide +kernel
theorem dX0_knownAhead_49 : decode cX0_knownAhead 49 = .ok (.iload 5, 2) := by decide +kernel
theorem dX0_knownAhead_51 : decode cX0_knownAhead 51 = .ok (.iload_n 1, 1) := by decide +kernel
theorem dX0_knownAhead_52 : decode cX0_knownAhead 52 = .ok (.if_icmp .ge 6, 3) := by decide +kernel
theorem dX0_knownAhead_55 : decode cX0_knownAhead 55 = .ok (.iinc 4 1, 3) := by decide +kernel
theorem dX0_knownAhead_58 : decode cX0_knownAhead 58 = .ok (.iinc 5 1, 3) := by decide +kernel
theorem dX0_knownAhead_61 : decode cX0_knownAhead 61 = .ok (.goto (-48), 3) := by decide +kernel
theorem dX0_knownAhead_64 : decode cX0_knownAhead 64 = .ok (.iload 4, 2) := by decide +kernel
theorem dX0_knownAhead_66 : decode cX0_knownAhead 66 = .ok (.ireturn, 1) := by decide +kernel
theorem dX0_turnRound_0 : decode cX0_turnRound 0 = .ok (.aload_n 0, 1) := by decide +kernel
theorem dX0_turnRound_1 : decode cX0_turnRound 1 = .ok (.getfield 9, 3) := by decide +kernel
theorem dX0_turnRound_4 : decode cX0_turnRound 4 = .ok (.aload_n 0, 1) := by decide +kernel
theorem dX0_turnRound_5 : decode cX0_turnRound 5 = .ok (.getfield 24, 3) := by decide +kernel
theorem dX0_turnRound_8 : decode cX0_turnRound 8 = .ok (.dup2, 1) := by decide +kernel
theorem dX0_turnRound_9 : decode cX0_turnRound 9 = .ok (.iaload, 1) := by decide +kernel
theorem dX0_turnRound_10 : decode cX0_turnRound 10 = .ok (.iconst 1, 1) := by decide +kernel
theorem dX0_turnRound_11 : decode cX0_turnRound 11 = .ok (.iload_n 1, 1) := by decide +kernel
theorem dX0_turnRound_12 : decode cX0_turnRound 12 = .ok (.ishl, 1) := by decide +kernel
theorem dX0_turnRound_13 : decode cX0_turnRound 13 = .ok (.ixor, 1) := by decide +kernel
theorem dX0_turnRound_14 : decode cX0_turnRound 14 = .ok (.iastore, 1) := by decide +kernel
theorem dX0_turnRound_15 : decode cX0_turnRound 15 = .ok (.return_, 1) := by decide +kernel
theorem dX0_wornIn_0 : decode cX0_wornIn 0 = .ok (.aload_n 0, 1) := by decide +kernel
theorem dX0_wornIn_1 : decode cX0_wornIn 1 = .ok (.getfield 9, 3) := by decide +kernel
theorem dX0_wornIn_4 : decode cX0_wornIn 4 = .ok (.iload_n 2, 1) := by decide +kernel
theorem dX0_wornIn_5 : decode cX0_wornIn 5 = .ok (.iaload, 1) := by decide +kernel
theorem dX0_wornIn_6 : decode cX0_wornIn 6 = .ok (.iload_n 1, 1) := by decide +kernel
theorem dX0_wornIn_7 : decode cX0_wornIn 7 = .ok (.ishr, 1) := by decide +kernel
theorem dX0_wornIn_8 : decode cX0_wornIn 8 = .ok (.iconst 1, 1) := by decide +kernel
theorem dX0_wornIn_9 : decode cX0_wornIn 9 = .ok (.iand, 1) := by decide +kernel
theorem dX0_wornIn_10 : decode cX0_wornIn 10 = .ok (.ireturn, 1) := by decide +kernel
theorem dX0_wornNow_0 : decode cX0_wornNow 0 = .ok (.aload_n 0, 1) := by decide +kernel
theorem dX0_wornNow_1 : decode cX0_wornNow 1 = .ok (.getfield 9, 3) := by decide +kernel
theorem dX0_wornNow_4 : decode cX0_wornNow 4 = .ok (.aload_n 0, 1) := by decide +kernel
theorem dX0_wornNow_5 : decode cX0_wornNow 5 = .ok (.getfield 24, 3) := by decide +kernel
theorem dX0_wornNow_8 : decode cX0_wornNow 8 = .ok (.iaload, 1) := by decide +kernel
theorem dX0_wornNow_9 : decode cX0_wornNow 9 = .ok (.ireturn, 1) := by decide +kernel
theorem dX7_hasPlaces_0 : decode cX7_hasPlaces 0 = .ok (.iload_n 2, 1) := by decide +kernel
theorem dX7_hasPlaces_1 : decode cX7_hasPlaces 1 = .ok (.aload_n 0, 1) := by decide +kernel
theorem dX7_hasPlaces_2 : decode cX7_hasPlaces 2 = .ok (.getfield 15, 3) := by decide +kernel
theorem dX7_hasPlaces_5 : decode cX7_hasPlaces 5 = .ok (.if_icmp .gt 17, 3) := by decide +kernel
theorem dX7_hasPlaces_8 : decode cX7_hasPlaces 8 = .ok (.iload_n 1, 1) := by decide +kernel
theorem dX7_hasPlaces_9 : decode cX7_hasPlaces 9 = .ok (.aload_n 0, 1) := by decide +kernel
theorem dX7_hasPlaces_10 : decode cX7_hasPlaces 10 = .ok (.getfield 15, 3) := by decide +kernel
theorem dX7_hasPlaces_13 : decode cX7_hasPlaces 13 = .ok (.iload_n 2, 1) := by decide +kernel
theorem dX7_hasPlaces_14 : decode cX7_hasPlaces 14 = .ok (.isub, 1) := by decide +kernel
theorem dX7_hasPlaces_15 : decode cX7_hasPlaces 15 = .ok (.if_icmp .gt 7, 3) := by decide +kernel
theorem dX7_hasPlaces_18 : decode cX7_hasPlaces 18 = .ok (.iconst 1, 1) := by decide +kernel
theorem dX7_hasPlaces_19 : decode cX7_hasPlaces 19 = .ok (.goto 4, 3) := by decide +kernel
theorem dX7_hasPlaces_22 : decode cX7_hasPlaces 22 = .ok (.iconst 0, 1) := by decide +kernel
theorem dX7_hasPlaces_23 : decode cX7_hasPlaces 23 = .ok (.ireturn, 1) := by decide +kernel
theorem dX7_holdsWithin_0 : decode cX7_holdsWithin 0 = .ok (.iconst 0, 1) := by decide +kernel
theorem dX7_holdsWithin_1 : decode cX7_holdsWithin 1 = .ok (.istore_n 3, 1) := by decide +kernel
theorem dX7_holdsWithin_2 : decode cX7_holdsWithin 2 = .ok (.iload_n 3, 1) := by decide +kernel
theorem dX7_holdsWithin_3 : decode cX7_holdsWithin 3 = .ok (.iload_n 1, 1) := by decide +kernel
theorem dX7_holdsWithin_4 : decode cX7_holdsWithin 4 = .ok (.if_icmp .ge 34, 3) := by decide +kernel
theorem dX7_holdsWithin_7 : decode cX7_holdsWithin 7 = .ok (.aload_n 0, 1) := by decide +kernel
theorem dX7_holdsWithin_8 : decode cX7_holdsWithin 8 = .ok (.getfield 9, 3) := by decide +kernel
theorem dX7_holdsWithin_11 : decode cX7_holdsWithin 11 = .ok (.iload_n 3, 1) := by decide +kernel
theorem dX7_holdsWithin_12 : decode cX7_holdsWithin 12 = .ok (.laload, 1) := by decide +kernel
theorem dX7_holdsWithin_13 : decode cX7_holdsWithin 13 = .ok (.lconst 0, 1) := by decide +kernel
theorem dX7_holdsWithin_14 : decode cX7_holdsWithin 14 = .ok (.lcmp, 1) := by decide +kernel
theorem dX7_holdsWithin_15 : decode cX7_holdsWithin 15 = .ok (.ifCond .lt 15, 3) := by decide +kernel
theorem dX7_holdsWithin_18 : decode cX7_holdsWithin 18 = .ok (.aload_n 0, 1) := by decide +kernel
theorem dX7_holdsWithin_19 : decode cX7_holdsWithin 19 = .ok (.getfield 9, 3) := by decide +kernel
theorem dX7_holdsWithin_22 : decode cX7_holdsWithin 22 = .ok (.iload_n 3, 1) := by decide +kernel
theorem dX7_holdsWithin_23 : decode cX7_holdsWithin 23 = .ok (.laload, 1) := by decide +kernel
theorem dX7_holdsWithin_24 : decode cX7_holdsWithin 24 = .ok (.iload_n 2, 1) := by decide +kernel
theorem dX7_holdsWithin_25 : decode cX7_holdsWithin 25 = .ok (.i2l, 1) := by decide +kernel
theorem dX7_holdsWithin_26 : decode cX7_holdsWithin 26 = .ok (.lcmp, 1) := by decide +kernel
theorem dX7_holdsWithin_27 : decode cX7_holdsWithin 27 = .ok (.ifCond .le 5, 3) := by decide +kernel
theorem dX7_holdsWithin_30 : decode cX7_holdsWithin 30 = .ok (.iconst 0, 1) := by decide +kernel
theorem dX7_holdsWithin_31 : decode cX7_holdsWithin 31 = .ok (.ireturn, 1) := by decide +kernel
theorem dX7_holdsWithin_32 : decode cX7_holdsWithin 32 = .ok (.iinc 3 1, 3) := by decide +kernel
theorem dX7_holdsWithin_35 : decode cX7_holdsWithin 35 = .ok (.goto (-33), 3) := by decide +kernel
theorem dX7_holdsWithin_38 : decode cX7_holdsWithin 38 = .ok (.iconst 1, 1) := by decide +kernel
theorem dX7_holdsWithin_39 : decode cX7_holdsWithin 39 = .ok (.ireturn, 1) := by decide +kernel
theorem dX7_put_0 : decode cX7_put 0 = .ok (.aload_n 0, 1) := by decide +kernel
theorem dX7_put_1 : decode cX7_put 1 = .ok (.getfield 19, 3) := by decide +kernel
theorem dX7_put_4 : decode cX7_put 4 = .ok (.ifCond .ne 16, 3) := by decide +kernel
theorem dX7_put_7 : decode cX7_put 7 = .ok (.aload_n 0, 1) := by decide +kernel
theorem dX7_put_8 : decode cX7_put 8 = .ok (.getfield 9, 3) := by decide +kernel
theorem dX7_put_11 : decode cX7_put 11 = .ok (.iload_n 1, 1) := by decide +kernel
theorem dX7_put_12 : decode cX7_put 12 = .ok (.lload_n 2, 1) := by decide +kernel
theorem dX7_put_13 : decode cX7_put 13 = .ok (.l2i, 1) := by decide +kernel
theorem dX7_put_14 : decode cX7_put 14 = .ok (.i2b, 1) := by decide +kernel
theorem dX7_put_15 : decode cX7_put 15 = .ok (.i2l, 1) := by decide +kernel
theorem dX7_put_16 : decode cX7_put 16 = .ok (.lastore, 1) := by decide +kernel
theorem dX7_put_17 : decode cX7_put 17 = .ok (.goto 51, 3) := by decide +kernel
theorem dX7_put_20 : decode cX7_put 20 = .ok (.aload_n 0, 1) := by decide +kernel
theorem dX7_put_21 : decode cX7_put 21 = .ok (.getfield 19, 3) := by decide +kernel
theorem dX7_put_24 : decode cX7_put 24 = .ok (.iconst 1, 1) := by decide +kernel
theorem dX7_put_25 : decode cX7_put 25 = .ok (.if_icmp .ne 16, 3) := by decide +kernel
theorem dX7_put_28 : decode cX7_put 28 = .ok (.aload_n 0, 1) := by decide +kernel
theorem dX7_put_29 : decode cX7_put 29 = .ok (.getfield 9, 3) := by decide +kernel
theorem dX7_put_32 : decode cX7_put 32 = .ok (.iload_n 1, 1) := by decide +kernel
theorem dX7_put_33 : decode cX7_put 33 = .ok (.lload_n 2, 1) := by decide +kernel
theorem dX7_put_34 : decode cX7_put 34 = .ok (.l2i, 1) := by decide +kernel
theorem dX7_put_35 : decode cX7_put 35 = .ok (.i2s, 1) := by decide +kernel
theorem dX7_put_36 : decode cX7_put 36 = .ok (.i2l, 1) := by decide +kernel
theorem dX7_put_37 : decode cX7_put 37 = .ok (.lastore, 1) := by decide +kernel
theorem dX7_put_38 : decode cX7_put 38 = .ok (.goto 30, 3) := by decide +kernel
theorem dX7_put_41 : decode cX7_put 41 = .ok (.aload_n 0, 1) := by decide +kernel
theorem dX7_put_42 : decode cX7_put 42 = .ok (.getfield 19, 3) := by decide +kernel
theorem dX7_put_45 : decode cX7_put 45 = .ok (.iconst 2, 1) := by decide +kernel
theorem dX7_put_46 : decode cX7_put 46 = .ok (.if_icmp .ne 15, 3) := by decide +kernel
theorem dX7_put_49 : decode cX7_put 49 = .ok (.aload_n 0, 1) := by decide +kernel
theorem dX7_put_50 : decode cX7_put 50 = .ok (.getfield 9, 3) := by decide +kernel
theorem dX7_put_53 : decode cX7_put 53 = .ok (.iload_n 1, 1) := by decide +kernel
theorem dX7_put_54 : decode cX7_put 54 = .ok (.lload_n 2, 1) := by decide +kernel
theorem dX7_put_55 : decode cX7_put 55 = .ok (.l2i, 1) := by decide +kernel
theorem dX7_put_56 : decode cX7_put 56 = .ok (.i2l, 1) := by decide +kernel
theorem dX7_put_57 : decode cX7_put 57 = .ok (.lastore, 1) := by decide +kernel
theorem dX7_put_58 : decode cX7_put 58 = .ok (.goto 10, 3) := by decide +kernel
theorem dX7_put_61 : decode cX7_put 61 = .ok (.aload_n 0, 1) := by decide +kernel
theorem dX7_put_62 : decode cX7_put 62 = .ok (.getfield 9, 3) := by decide +kernel
theorem dX7_put_65 : decode cX7_put 65 = .ok (.iload_n 1, 1) := by decide +kernel
theorem dX7_put_66 : decode cX7_put 66 = .ok (.lload_n 2, 1) := by decide +kernel
theorem dX7_put_67 : decode cX7_put 67 = .ok (.lastore, 1) := by decide +kernel
theorem dX7_put_68 : decode cX7_put 68 = .ok (.return_, 1) := by decide +kernel
theorem dX9_addRow_0 : decode cX9_addRow 0 = .ok (.aload_n 0, 1) := by decide +kernel
theorem dX9_addRow_1 : decode cX9_addRow 1 = .ok (.getfield 35, 3) := by decide +kernel
theorem dX9_addRow_4 : decode cX9_addRow 4 = .ok (.istore_n 2, 1) := by decide +kernel
theorem dX9_addRow_5 : decode cX9_addRow 5 = .ok (.aload_n 0, 1) := by decide +kernel
theorem dX9_addRow_6 : decode cX9_addRow 6 = .ok (.getfield 11, 3) := by decide +kernel
theorem dX9_addRow_9 : decode cX9_addRow 9 = .ok (.iload_n 2, 1) := by decide +kernel
theorem dX9_addRow_10 : decode cX9_addRow 10 = .ok (.iload_n 1, 1) := by decide +kernel
theorem dX9_addRow_11 : decode cX9_addRow 11 = .ok (.iastore, 1) := by decide +kernel
theorem dX9_addRow_12 : decode cX9_addRow 12 = .ok (.aload_n 0, 1) := by decide +kernel
theorem dX9_addRow_13 : decode cX9_addRow 13 = .ok (.dup, 1) := by decide +kernel
theorem dX9_addRow_14 : decode cX9_addRow 14 = .ok (.getfield 35, 3) := by decide +kernel
theorem dX9_addRow_17 : decode cX9_addRow 17 = .ok (.iconst 1, 1) := by decide +kernel
theorem dX9_addRow_18 : decode cX9_addRow 18 = .ok (.iadd, 1) := by decide +kernel
theorem dX9_addRow_19 : decode cX9_addRow 19 = .ok (.putfield 35, 3) := by decide +kernel
theorem dX9_addRow_22 : decode cX9_addRow 22 = .ok (.iload_n 2, 1) := by decide +kernel
theorem dX9_addRow_23 : decode cX9_addRow 23 = .ok (.ireturn, 1) := by decide +kernel
