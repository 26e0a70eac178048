section
theorem qf_X2_24 : Cond.fieldLink RX2 24 "SlowWorlds$News" "sky" "LSlowWorlds$Sky;" ∈ gw := tbt (tb2 (List.mem_of_getElem? (i := 109) rfl)) rfl
theorem iX2 : ∀ w ∈ u_ws RX2 TX2 6, w ∈ gw := by
  intro w hw
  obtain ⟨k, hk, rfl⟩ := List.mem_map.mp hw
  have hk := List.mem_range.mp hk
  match k, hk with
  | 0, _ => exact tbt (tb2 (List.mem_of_getElem? (i := 119) rfl)) rfl
  | 1, _ => exact tbt (tb2 (List.mem_of_getElem? (i := 121) rfl)) rfl
  | 2, _ => exact tbt (tb2 (List.mem_of_getElem? (i := 123) rfl)) rfl
  | 3, _ => exact tbt (tb2 (List.mem_of_getElem? (i := 125) rfl)) rfl
  | 4, _ => exact tbt (tb2 (List.mem_of_getElem? (i := 127) rfl)) rfl
  | 5, _ => exact tbt (tb2 (List.mem_of_getElem? (i := 129) rfl)) rfl
  | (k + 6), hk => exact absurd hk (by omega)
theorem qf_X2_38 : Cond.fieldLink RX2 38 "SlowWorlds$Sky" "rocks" "I" ∈ gw := tbt (tb1 (List.mem_of_getElem? (i := 52) rfl)) rfl
theorem qf_X2_9 : Cond.fieldLink RX2 9 "SlowWorlds$News" "known" "[I" ∈ gw := tbt (tb2 (List.mem_of_getElem? (i := 111) rfl)) rfl
theorem qf_X2_28 : Cond.fieldLink RX2 28 "SlowWorlds$News" "rays" "LSlowWorlds$Rays;" ∈ gw := tbt (tb2 (List.mem_of_getElem? (i := 110) rfl)) rfl
theorem qm_X2_52 : Cond.methodLink RX2 52 yX3_arrival ∈ gw := tbt (tb4 (List.mem_of_getElem? (i := 165) rfl)) rfl
theorem qf_X2_15 : Cond.fieldLink RX2 15 "SlowWorlds$News" "tellers" "[I" ∈ gw := tbt (tb2 (List.mem_of_getElem? (i := 114) rfl)) rfl
def fb_J7_fill_53178_0 : List UInt8 := [0x03, 0x3d, 0x2a, 0xbe, 0x3e, 0x1c, 0x1d, 0xa2, 0x00, 0x0d, 0x2a, 0x1c, 0x1b, 0x4f, 0x84, 0x02, 0x01, 0xa7, 0xff, 0xf4, 0xb1]
theorem fl_J7_fill_53178_0 {p j : Nat} {b : UInt8} (e : p = 0 + j) (h : fb_J7_fill_53178_0[j]? = some b) : cJ7_fill_53178.data.toList[p]? = some b := fq_l (n := 64) (show (cJ7_fill_53178.data.toList.drop 0).take 64 = fb_J7_fill_53178_0 by decide +kernel) e h
theorem dJ7_fill_53178_0 : decode cJ7_fill_53178 0 = .ok (.iconst 0, 1) := fq1_3 (fl_J7_fill_53178_0 (j := 0) rfl rfl)
theorem dJ7_fill_53178_1 : decode cJ7_fill_53178 1 = .ok (.istore_n 2, 1) := fq1_61 (fl_J7_fill_53178_0 (j := 1) rfl rfl)
theorem dJ7_fill_53178_2 : decode cJ7_fill_53178 2 = .ok (.aload_n 0, 1) := fq1_42 (fl_J7_fill_53178_0 (j := 2) rfl rfl)
theorem dJ7_fill_53178_3 : decode cJ7_fill_53178 3 = .ok (.arraylength, 1) := fq1_190 (fl_J7_fill_53178_0 (j := 3) rfl rfl)
theorem dJ7_fill_53178_4 : decode cJ7_fill_53178 4 = .ok (.istore_n 3, 1) := fq1_62 (fl_J7_fill_53178_0 (j := 4) rfl rfl)
theorem dJ7_fill_53178_5 : decode cJ7_fill_53178 5 = .ok (.iload_n 2, 1) := fq1_28 (fl_J7_fill_53178_0 (j := 5) rfl rfl)
theorem dJ7_fill_53178_6 : decode cJ7_fill_53178 6 = .ok (.iload_n 3, 1) := fq1_29 (fl_J7_fill_53178_0 (j := 6) rfl rfl)
theorem dJ7_fill_53178_7 : decode cJ7_fill_53178 7 = .ok (.if_icmp .ge 13, 3) := fq3_162 (fl_J7_fill_53178_0 (j := 7) rfl rfl) (fl_J7_fill_53178_0 (j := 8) rfl rfl) (fl_J7_fill_53178_0 (j := 9) rfl rfl) (s2p rfl (bl rfl))
theorem dJ7_fill_53178_10 : decode cJ7_fill_53178 10 = .ok (.aload_n 0, 1) := fq1_42 (fl_J7_fill_53178_0 (j := 10) rfl rfl)
theorem dJ7_fill_53178_11 : decode cJ7_fill_53178 11 = .ok (.iload_n 2, 1) := fq1_28 (fl_J7_fill_53178_0 (j := 11) rfl rfl)
theorem dJ7_fill_53178_12 : decode cJ7_fill_53178 12 = .ok (.iload_n 1, 1) := fq1_27 (fl_J7_fill_53178_0 (j := 12) rfl rfl)
theorem dJ7_fill_53178_13 : decode cJ7_fill_53178 13 = .ok (.iastore, 1) := fq1_79 (fl_J7_fill_53178_0 (j := 13) rfl rfl)
theorem dJ7_fill_53178_14 : decode cJ7_fill_53178 14 = .ok (.iinc 2 1, 3) := fq3_132 (fl_J7_fill_53178_0 (j := 14) rfl rfl) (fl_J7_fill_53178_0 (j := 15) rfl rfl) (fl_J7_fill_53178_0 (j := 16) rfl rfl) rfl (s1p rfl (bl rfl))
theorem dJ7_fill_53178_17 : decode cJ7_fill_53178 17 = .ok (.goto (-12), 3) := fq3_167 (fl_J7_fill_53178_0 (j := 17) rfl rfl) (fl_J7_fill_53178_0 (j := 18) rfl rfl) (fl_J7_fill_53178_0 (j := 19) rfl rfl) (by decide)
theorem dJ7_fill_53178_20 : decode cJ7_fill_53178 20 = .ok (.return_, 1) := fq1_177 (fl_J7_fill_53178_0 (j := 20) rfl rfl)
def fb_X2_lastToKnow_0 : List UInt8 := [0x03, 0x3c, 0x03, 0x3d, 0x1c, 0x2a, 0xb4, 0x00, 0x18, 0xb4, 0x00, 0x26, 0xa2, 0x00, 0x26, 0x2a, 0xb4, 0x00, 0x09, 0x1c, 0x2e, 0x02, 0xa0, 0x00, 0x05, 0x02, 0xac, 0x2a, 0xb4, 0x00, 0x09, 0x1c, 0x2e, 0x2a, 0xb4, 0x00, 0x09, 0x1b, 0x2e, 0xa4, 0x00, 0x05, 0x1c, 0x3c, 0x84, 0x02, 0x01, 0xa7, 0xff, 0xd5, 0x1b, 0xac]
theorem fl_X2_lastToKnow_0 {p j : Nat} {b : UInt8} (e : p = 0 + j) (h : fb_X2_lastToKnow_0[j]? = some b) : cX2_lastToKnow.data.toList[p]? = some b := fq_l (n := 64) (show (cX2_lastToKnow.data.toList.drop 0).take 64 = fb_X2_lastToKnow_0 by decide +kernel) e h
theorem dX2_lastToKnow_0 : decode cX2_lastToKnow 0 = .ok (.iconst 0, 1) := fq1_3 (fl_X2_lastToKnow_0 (j := 0) rfl rfl)
theorem dX2_lastToKnow_1 : decode cX2_lastToKnow 1 = .ok (.istore_n 1, 1) := fq1_60 (fl_X2_lastToKnow_0 (j := 1) rfl rfl)
theorem dX2_lastToKnow_2 : decode cX2_lastToKnow 2 = .ok (.iconst 0, 1) := fq1_3 (fl_X2_lastToKnow_0 (j := 2) rfl rfl)
theorem dX2_lastToKnow_3 : decode cX2_lastToKnow 3 = .ok (.istore_n 2, 1) := fq1_61 (fl_X2_lastToKnow_0 (j := 3) rfl rfl)
theorem dX2_lastToKnow_4 : decode cX2_lastToKnow 4 = .ok (.iload_n 2, 1) := fq1_28 (fl_X2_lastToKnow_0 (j := 4) rfl rfl)
theorem dX2_lastToKnow_5 : decode cX2_lastToKnow 5 = .ok (.aload_n 0, 1) := fq1_42 (fl_X2_lastToKnow_0 (j := 5) rfl rfl)
theorem dX2_lastToKnow_6 : decode cX2_lastToKnow 6 = .ok (.getfield 24, 3) := fq3_180 (fl_X2_lastToKnow_0 (j := 6) rfl rfl) (fl_X2_lastToKnow_0 (j := 7) rfl rfl) (fl_X2_lastToKnow_0 (j := 8) rfl rfl) rfl
theorem dX2_lastToKnow_9 : decode cX2_lastToKnow 9 = .ok (.getfield 38, 3) := fq3_180 (fl_X2_lastToKnow_0 (j := 9) rfl rfl) (fl_X2_lastToKnow_0 (j := 10) rfl rfl) (fl_X2_lastToKnow_0 (j := 11) rfl rfl) rfl
theorem dX2_lastToKnow_12 : decode cX2_lastToKnow 12 = .ok (.if_icmp .ge 38, 3) := fq3_162 (fl_X2_lastToKnow_0 (j := 12) rfl rfl) (fl_X2_lastToKnow_0 (j := 13) rfl rfl) (fl_X2_lastToKnow_0 (j := 14) rfl rfl) (s2p rfl (bl rfl))
theorem dX2_lastToKnow_15 : decode cX2_lastToKnow 15 = .ok (.aload_n 0, 1) := fq1_42 (fl_X2_lastToKnow_0 (j := 15) rfl rfl)
theorem dX2_lastToKnow_16 : decode cX2_lastToKnow 16 = .ok (.getfield 9, 3) := fq3_180 (fl_X2_lastToKnow_0 (j := 16) rfl rfl) (fl_X2_lastToKnow_0 (j := 17) rfl rfl) (fl_X2_lastToKnow_0 (j := 18) rfl rfl) rfl
theorem dX2_lastToKnow_19 : decode cX2_lastToKnow 19 = .ok (.iload_n 2, 1) := fq1_28 (fl_X2_lastToKnow_0 (j := 19) rfl rfl)
theorem dX2_lastToKnow_20 : decode cX2_lastToKnow 20 = .ok (.iaload, 1) := fq1_46 (fl_X2_lastToKnow_0 (j := 20) rfl rfl)
theorem dX2_lastToKnow_21 : decode cX2_lastToKnow 21 = .ok (.iconst (-1), 1) := fq1_2 (fl_X2_lastToKnow_0 (j := 21) rfl rfl)
theorem dX2_lastToKnow_22 : decode cX2_lastToKnow 22 = .ok (.if_icmp .ne 5, 3) := fq3_160 (fl_X2_lastToKnow_0 (j := 22) rfl rfl) (fl_X2_lastToKnow_0 (j := 23) rfl rfl) (fl_X2_lastToKnow_0 (j := 24) rfl rfl) (s2p rfl (bl rfl))
theorem dX2_lastToKnow_25 : decode cX2_lastToKnow 25 = .ok (.iconst (-1), 1) := fq1_2 (fl_X2_lastToKnow_0 (j := 25) rfl rfl)
theorem dX2_lastToKnow_26 : decode cX2_lastToKnow 26 = .ok (.ireturn, 1) := fq1_172 (fl_X2_lastToKnow_0 (j := 26) rfl rfl)
theorem dX2_lastToKnow_27 : decode cX2_lastToKnow 27 = .ok (.aload_n 0, 1) := fq1_42 (fl_X2_lastToKnow_0 (j := 27) rfl rfl)
theorem dX2_lastToKnow_28 : decode cX2_lastToKnow 28 = .ok (.getfield 9, 3) := fq3_180 (fl_X2_lastToKnow_0 (j := 28) rfl rfl) (fl_X2_lastToKnow_0 (j := 29) rfl rfl) (fl_X2_lastToKnow_0 (j := 30) rfl rfl) rfl
theorem dX2_lastToKnow_31 : decode cX2_lastToKnow 31 = .ok (.iload_n 2, 1) := fq1_28 (fl_X2_lastToKnow_0 (j := 31) rfl rfl)
theorem dX2_lastToKnow_32 : decode cX2_lastToKnow 32 = .ok (.iaload, 1) := fq1_46 (fl_X2_lastToKnow_0 (j := 32) rfl rfl)
theorem dX2_lastToKnow_33 : decode cX2_lastToKnow 33 = .ok (.aload_n 0, 1) := fq1_42 (fl_X2_lastToKnow_0 (j := 33) rfl rfl)
theorem dX2_lastToKnow_34 : decode cX2_lastToKnow 34 = .ok (.getfield 9, 3) := fq3_180 (fl_X2_lastToKnow_0 (j := 34) rfl rfl) (fl_X2_lastToKnow_0 (j := 35) rfl rfl) (fl_X2_lastToKnow_0 (j := 36) rfl rfl) rfl
theorem dX2_lastToKnow_37 : decode cX2_lastToKnow 37 = .ok (.iload_n 1, 1) := fq1_27 (fl_X2_lastToKnow_0 (j := 37) rfl rfl)
theorem dX2_lastToKnow_38 : decode cX2_lastToKnow 38 = .ok (.iaload, 1) := fq1_46 (fl_X2_lastToKnow_0 (j := 38) rfl rfl)
theorem dX2_lastToKnow_39 : decode cX2_lastToKnow 39 = .ok (.if_icmp .le 5, 3) := fq3_164 (fl_X2_lastToKnow_0 (j := 39) rfl rfl) (fl_X2_lastToKnow_0 (j := 40) rfl rfl) (fl_X2_lastToKnow_0 (j := 41) rfl rfl) (s2p rfl (bl rfl))
theorem dX2_lastToKnow_42 : decode cX2_lastToKnow 42 = .ok (.iload_n 2, 1) := fq1_28 (fl_X2_lastToKnow_0 (j := 42) rfl rfl)
theorem dX2_lastToKnow_43 : decode cX2_lastToKnow 43 = .ok (.istore_n 1, 1) := fq1_60 (fl_X2_lastToKnow_0 (j := 43) rfl rfl)
theorem dX2_lastToKnow_44 : decode cX2_lastToKnow 44 = .ok (.iinc 2 1, 3) := fq3_132 (fl_X2_lastToKnow_0 (j := 44) rfl rfl) (fl_X2_lastToKnow_0 (j := 45) rfl rfl) (fl_X2_lastToKnow_0 (j := 46) rfl rfl) rfl (s1p rfl (bl rfl))
theorem dX2_lastToKnow_47 : decode cX2_lastToKnow 47 = .ok (.goto (-43), 3) := fq3_167 (fl_X2_lastToKnow_0 (j := 47) rfl rfl) (fl_X2_lastToKnow_0 (j := 48) rfl rfl) (fl_X2_lastToKnow_0 (j := 49) rfl rfl) (by decide)
theorem dX2_lastToKnow_50 : decode cX2_lastToKnow 50 = .ok (.iload_n 1, 1) := fq1_27 (fl_X2_lastToKnow_0 (j := 50) rfl rfl)
theorem dX2_lastToKnow_51 : decode cX2_lastToKnow 51 = .ok (.ireturn, 1) := fq1_172 (fl_X2_lastToKnow_0 (j := 51) rfl rfl)
def fb_X2_soonest_0 : List UInt8 := [0x02, 0x3d, 0x03, 0x3e, 0x1d, 0x2a, 0xb4, 0x00, 0x18, 0xb4, 0x00, 0x26, 0xa2, 0x00, 0x3d, 0x2a, 0xb4, 0x00, 0x09, 0x1d, 0x2e, 0x02, 0x9f, 0x00, 0x0f, 0x1b, 0x1d, 0x7a, 0x04, 0x7e, 0x9a, 0x00, 0x07, 0x04, 0xa7, 0x00, 0x04, 0x03, 0x36, 0x04, 0x15, 0x04, 0x99, 0x00, 0x19, 0x1c, 0x02, 0x9f, 0x00, 0x12, 0x2a, 0xb4, 0x00, 0x09, 0x1d, 0x2e, 0x2a, 0xb4, 0x00, 0x09, 0x1c, 0x2e, 0xa2, 0x00]
theorem fl_X2_soonest_0 {p j : Nat} {b : UInt8} (e : p = 0 + j) (h : fb_X2_soonest_0[j]? = some b) : cX2_soonest.data.toList[p]? = some b := fq_l (n := 64) (show (cX2_soonest.data.toList.drop 0).take 64 = fb_X2_soonest_0 by decide +kernel) e h
theorem dX2_soonest_0 : decode cX2_soonest 0 = .ok (.iconst (-1), 1) := fq1_2 (fl_X2_soonest_0 (j := 0) rfl rfl)
theorem dX2_soonest_1 : decode cX2_soonest 1 = .ok (.istore_n 2, 1) := fq1_61 (fl_X2_soonest_0 (j := 1) rfl rfl)
theorem dX2_soonest_2 : decode cX2_soonest 2 = .ok (.iconst 0, 1) := fq1_3 (fl_X2_soonest_0 (j := 2) rfl rfl)
theorem dX2_soonest_3 : decode cX2_soonest 3 = .ok (.istore_n 3, 1) := fq1_62 (fl_X2_soonest_0 (j := 3) rfl rfl)
theorem dX2_soonest_4 : decode cX2_soonest 4 = .ok (.iload_n 3, 1) := fq1_29 (fl_X2_soonest_0 (j := 4) rfl rfl)
theorem dX2_soonest_5 : decode cX2_soonest 5 = .ok (.aload_n 0, 1) := fq1_42 (fl_X2_soonest_0 (j := 5) rfl rfl)
theorem dX2_soonest_6 : decode cX2_soonest 6 = .ok (.getfield 24, 3) := fq3_180 (fl_X2_soonest_0 (j := 6) rfl rfl) (fl_X2_soonest_0 (j := 7) rfl rfl) (fl_X2_soonest_0 (j := 8) rfl rfl) rfl
theorem dX2_soonest_9 : decode cX2_soonest 9 = .ok (.getfield 38, 3) := fq3_180 (fl_X2_soonest_0 (j := 9) rfl rfl) (fl_X2_soonest_0 (j := 10) rfl rfl) (fl_X2_soonest_0 (j := 11) rfl rfl) rfl
theorem dX2_soonest_12 : decode cX2_soonest 12 = .ok (.if_icmp .ge 61, 3) := fq3_162 (fl_X2_soonest_0 (j := 12) rfl rfl) (fl_X2_soonest_0 (j := 13) rfl rfl) (fl_X2_soonest_0 (j := 14) rfl rfl) (s2p rfl (bl rfl))
theorem dX2_soonest_15 : decode cX2_soonest 15 = .ok (.aload_n 0, 1) := fq1_42 (fl_X2_soonest_0 (j := 15) rfl rfl)
theorem dX2_soonest_16 : decode cX2_soonest 16 = .ok (.getfield 9, 3) := fq3_180 (fl_X2_soonest_0 (j := 16) rfl rfl) (fl_X2_soonest_0 (j := 17) rfl rfl) (fl_X2_soonest_0 (j := 18) rfl rfl) rfl
theorem dX2_soonest_19 : decode cX2_soonest 19 = .ok (.iload_n 3, 1) := fq1_29 (fl_X2_soonest_0 (j := 19) rfl rfl)
theorem dX2_soonest_20 : decode cX2_soonest 20 = .ok (.iaload, 1) := fq1_46 (fl_X2_soonest_0 (j := 20) rfl rfl)
theorem dX2_soonest_21 : decode cX2_soonest 21 = .ok (.iconst (-1), 1) := fq1_2 (fl_X2_soonest_0 (j := 21) rfl rfl)
theorem dX2_soonest_22 : decode cX2_soonest 22 = .ok (.if_icmp .eq 15, 3) := fq3_159 (fl_X2_soonest_0 (j := 22) rfl rfl) (fl_X2_soonest_0 (j := 23) rfl rfl) (fl_X2_soonest_0 (j := 24) rfl rfl) (s2p rfl (bl rfl))
theorem dX2_soonest_25 : decode cX2_soonest 25 = .ok (.iload_n 1, 1) := fq1_27 (fl_X2_soonest_0 (j := 25) rfl rfl)
theorem dX2_soonest_26 : decode cX2_soonest 26 = .ok (.iload_n 3, 1) := fq1_29 (fl_X2_soonest_0 (j := 26) rfl rfl)
theorem dX2_soonest_27 : decode cX2_soonest 27 = .ok (.ishr, 1) := fq1_122 (fl_X2_soonest_0 (j := 27) rfl rfl)
theorem dX2_soonest_28 : decode cX2_soonest 28 = .ok (.iconst 1, 1) := fq1_4 (fl_X2_soonest_0 (j := 28) rfl rfl)
theorem dX2_soonest_29 : decode cX2_soonest 29 = .ok (.iand, 1) := fq1_126 (fl_X2_soonest_0 (j := 29) rfl rfl)
theorem dX2_soonest_30 : decode cX2_soonest 30 = .ok (.ifCond .ne 7, 3) := fq3_154 (fl_X2_soonest_0 (j := 30) rfl rfl) (fl_X2_soonest_0 (j := 31) rfl rfl) (fl_X2_soonest_0 (j := 32) rfl rfl) (s2p rfl (bl rfl))
theorem dX2_soonest_33 : decode cX2_soonest 33 = .ok (.iconst 1, 1) := fq1_4 (fl_X2_soonest_0 (j := 33) rfl rfl)
theorem dX2_soonest_34 : decode cX2_soonest 34 = .ok (.goto 4, 3) := fq3_167 (fl_X2_soonest_0 (j := 34) rfl rfl) (fl_X2_soonest_0 (j := 35) rfl rfl) (fl_X2_soonest_0 (j := 36) rfl rfl) (s2p rfl (bl rfl))
theorem dX2_soonest_37 : decode cX2_soonest 37 = .ok (.iconst 0, 1) := fq1_3 (fl_X2_soonest_0 (j := 37) rfl rfl)
theorem dX2_soonest_38 : decode cX2_soonest 38 = .ok (.istore 4, 2) := fq2_54 (fl_X2_soonest_0 (j := 38) rfl rfl) (fl_X2_soonest_0 (j := 39) rfl rfl) rfl
theorem dX2_soonest_40 : decode cX2_soonest 40 = .ok (.iload 4, 2) := fq2_21 (fl_X2_soonest_0 (j := 40) rfl rfl) (fl_X2_soonest_0 (j := 41) rfl rfl) rfl
theorem dX2_soonest_42 : decode cX2_soonest 42 = .ok (.ifCond .eq 25, 3) := fq3_153 (fl_X2_soonest_0 (j := 42) rfl rfl) (fl_X2_soonest_0 (j := 43) rfl rfl) (fl_X2_soonest_0 (j := 44) rfl rfl) (s2p rfl (bl rfl))
theorem dX2_soonest_45 : decode cX2_soonest 45 = .ok (.iload_n 2, 1) := fq1_28 (fl_X2_soonest_0 (j := 45) rfl rfl)
theorem dX2_soonest_46 : decode cX2_soonest 46 = .ok (.iconst (-1), 1) := fq1_2 (fl_X2_soonest_0 (j := 46) rfl rfl)
theorem dX2_soonest_47 : decode cX2_soonest 47 = .ok (.if_icmp .eq 18, 3) := fq3_159 (fl_X2_soonest_0 (j := 47) rfl rfl) (fl_X2_soonest_0 (j := 48) rfl rfl) (fl_X2_soonest_0 (j := 49) rfl rfl) (s2p rfl (bl rfl))
theorem dX2_soonest_50 : decode cX2_soonest 50 = .ok (.aload_n 0, 1) := fq1_42 (fl_X2_soonest_0 (j := 50) rfl rfl)
theorem dX2_soonest_51 : decode cX2_soonest 51 = .ok (.getfield 9, 3) := fq3_180 (fl_X2_soonest_0 (j := 51) rfl rfl) (fl_X2_soonest_0 (j := 52) rfl rfl) (fl_X2_soonest_0 (j := 53) rfl rfl) rfl
theorem dX2_soonest_54 : decode cX2_soonest 54 = .ok (.iload_n 3, 1) := fq1_29 (fl_X2_soonest_0 (j := 54) rfl rfl)
theorem dX2_soonest_55 : decode cX2_soonest 55 = .ok (.iaload, 1) := fq1_46 (fl_X2_soonest_0 (j := 55) rfl rfl)
theorem dX2_soonest_56 : decode cX2_soonest 56 = .ok (.aload_n 0, 1) := fq1_42 (fl_X2_soonest_0 (j := 56) rfl rfl)
theorem dX2_soonest_57 : decode cX2_soonest 57 = .ok (.getfield 9, 3) := fq3_180 (fl_X2_soonest_0 (j := 57) rfl rfl) (fl_X2_soonest_0 (j := 58) rfl rfl) (fl_X2_soonest_0 (j := 59) rfl rfl) rfl
theorem dX2_soonest_60 : decode cX2_soonest 60 = .ok (.iload_n 2, 1) := fq1_28 (fl_X2_soonest_0 (j := 60) rfl rfl)
theorem dX2_soonest_61 : decode cX2_soonest 61 = .ok (.iaload, 1) := fq1_46 (fl_X2_soonest_0 (j := 61) rfl rfl)
def fb_X2_soonest_1 : List UInt8 := [0x05, 0x1d, 0x3d, 0x84, 0x03, 0x01, 0xa7, 0xff, 0xbe, 0x1c, 0xac]
theorem fl_X2_soonest_1 {p j : Nat} {b : UInt8} (e : p = 64 + j) (h : fb_X2_soonest_1[j]? = some b) : cX2_soonest.data.toList[p]? = some b := fq_l (n := 64) (show (cX2_soonest.data.toList.drop 64).take 64 = fb_X2_soonest_1 by decide +kernel) e h
theorem dX2_soonest_62 : decode cX2_soonest 62 = .ok (.if_icmp .ge 5, 3) := fq3_162 (fl_X2_soonest_0 (j := 62) rfl rfl) (fl_X2_soonest_0 (j := 63) rfl rfl) (fl_X2_soonest_1 (j := 0) rfl rfl) (s2p rfl (bl rfl))
theorem dX2_soonest_65 : decode cX2_soonest 65 = .ok (.iload_n 3, 1) := fq1_29 (fl_X2_soonest_1 (j := 1) rfl rfl)
theorem dX2_soonest_66 : decode cX2_soonest 66 = .ok (.istore_n 2, 1) := fq1_61 (fl_X2_soonest_1 (j := 2) rfl rfl)
theorem dX2_soonest_67 : decode cX2_soonest 67 = .ok (.iinc 3 1, 3) := fq3_132 (fl_X2_soonest_1 (j := 3) rfl rfl) (fl_X2_soonest_1 (j := 4) rfl rfl) (fl_X2_soonest_1 (j := 5) rfl rfl) rfl (s1p rfl (bl rfl))
theorem dX2_soonest_70 : decode cX2_soonest 70 = .ok (.goto (-66), 3) := fq3_167 (fl_X2_soonest_1 (j := 6) rfl rfl) (fl_X2_soonest_1 (j := 7) rfl rfl) (fl_X2_soonest_1 (j := 8) rfl rfl) (by decide)
theorem dX2_soonest_73 : decode cX2_soonest 73 = .ok (.iload_n 2, 1) := fq1_28 (fl_X2_soonest_1 (j := 9) rfl rfl)
theorem dX2_soonest_74 : decode cX2_soonest 74 = .ok (.ireturn, 1) := fq1_172 (fl_X2_soonest_1 (j := 10) rfl rfl)
def fb_X2_tellOn_0 : List UInt8 := [0x03, 0x3d, 0x1c, 0x2a, 0xb4, 0x00, 0x18, 0xb4, 0x00, 0x26, 0xa2, 0x00, 0x69, 0x1c, 0x1b, 0xa0, 0x00, 0x07, 0x02, 0xa7, 0x00, 0x12, 0x2a, 0xb4, 0x00, 0x1c, 0x1b, 0x2a, 0xb4, 0x00, 0x09, 0x1b, 0x2e, 0x1c, 0xb6, 0x00, 0x34, 0x3e, 0x1d, 0x02, 0x9f, 0x00, 0x45, 0x2a, 0xb4, 0x00, 0x09, 0x1c, 0x2e, 0x02, 0x9f, 0x00, 0x0d, 0x1d, 0x2a, 0xb4, 0x00, 0x09, 0x1c, 0x2e, 0xa2, 0x00, 0x07, 0x04]
theorem fl_X2_tellOn_0 {p j : Nat} {b : UInt8} (e : p = 0 + j) (h : fb_X2_tellOn_0[j]? = some b) : cX2_tellOn.data.toList[p]? = some b := fq_l (n := 64) (show (cX2_tellOn.data.toList.drop 0).take 64 = fb_X2_tellOn_0 by decide +kernel) e h
theorem dX2_tellOn_0 : decode cX2_tellOn 0 = .ok (.iconst 0, 1) := fq1_3 (fl_X2_tellOn_0 (j := 0) rfl rfl)
theorem dX2_tellOn_1 : decode cX2_tellOn 1 = .ok (.istore_n 2, 1) := fq1_61 (fl_X2_tellOn_0 (j := 1) rfl rfl)
theorem dX2_tellOn_2 : decode cX2_tellOn 2 = .ok (.iload_n 2, 1) := fq1_28 (fl_X2_tellOn_0 (j := 2) rfl rfl)
theorem dX2_tellOn_3 : decode cX2_tellOn 3 = .ok (.aload_n 0, 1) := fq1_42 (fl_X2_tellOn_0 (j := 3) rfl rfl)
theorem dX2_tellOn_4 : decode cX2_tellOn 4 = .ok (.getfield 24, 3) := fq3_180 (fl_X2_tellOn_0 (j := 4) rfl rfl) (fl_X2_tellOn_0 (j := 5) rfl rfl) (fl_X2_tellOn_0 (j := 6) rfl rfl) rfl
theorem dX2_tellOn_7 : decode cX2_tellOn 7 = .ok (.getfield 38, 3) := fq3_180 (fl_X2_tellOn_0 (j := 7) rfl rfl) (fl_X2_tellOn_0 (j := 8) rfl rfl) (fl_X2_tellOn_0 (j := 9) rfl rfl) rfl
theorem dX2_tellOn_10 : decode cX2_tellOn 10 = .ok (.if_icmp .ge 105, 3) := fq3_162 (fl_X2_tellOn_0 (j := 10) rfl rfl) (fl_X2_tellOn_0 (j := 11) rfl rfl) (fl_X2_tellOn_0 (j := 12) rfl rfl) (s2p rfl (bl rfl))
theorem dX2_tellOn_13 : decode cX2_tellOn 13 = .ok (.iload_n 2, 1) := fq1_28 (fl_X2_tellOn_0 (j := 13) rfl rfl)
theorem dX2_tellOn_14 : decode cX2_tellOn 14 = .ok (.iload_n 1, 1) := fq1_27 (fl_X2_tellOn_0 (j := 14) rfl rfl)
theorem dX2_tellOn_15 : decode cX2_tellOn 15 = .ok (.if_icmp .ne 7, 3) := fq3_160 (fl_X2_tellOn_0 (j := 15) rfl rfl) (fl_X2_tellOn_0 (j := 16) rfl rfl) (fl_X2_tellOn_0 (j := 17) rfl rfl) (s2p rfl (bl rfl))
theorem dX2_tellOn_18 : decode cX2_tellOn 18 = .ok (.iconst (-1), 1) := fq1_2 (fl_X2_tellOn_0 (j := 18) rfl rfl)
theorem dX2_tellOn_19 : decode cX2_tellOn 19 = .ok (.goto 18, 3) := fq3_167 (fl_X2_tellOn_0 (j := 19) rfl rfl) (fl_X2_tellOn_0 (j := 20) rfl rfl) (fl_X2_tellOn_0 (j := 21) rfl rfl) (s2p rfl (bl rfl))
theorem dX2_tellOn_22 : decode cX2_tellOn 22 = .ok (.aload_n 0, 1) := fq1_42 (fl_X2_tellOn_0 (j := 22) rfl rfl)
theorem dX2_tellOn_23 : decode cX2_tellOn 23 = .ok (.getfield 28, 3) := fq3_180 (fl_X2_tellOn_0 (j := 23) rfl rfl) (fl_X2_tellOn_0 (j := 24) rfl rfl) (fl_X2_tellOn_0 (j := 25) rfl rfl) rfl
theorem dX2_tellOn_26 : decode cX2_tellOn 26 = .ok (.iload_n 1, 1) := fq1_27 (fl_X2_tellOn_0 (j := 26) rfl rfl)
theorem dX2_tellOn_27 : decode cX2_tellOn 27 = .ok (.aload_n 0, 1) := fq1_42 (fl_X2_tellOn_0 (j := 27) rfl rfl)
theorem dX2_tellOn_28 : decode cX2_tellOn 28 = .ok (.getfield 9, 3) := fq3_180 (fl_X2_tellOn_0 (j := 28) rfl rfl) (fl_X2_tellOn_0 (j := 29) rfl rfl) (fl_X2_tellOn_0 (j := 30) rfl rfl) rfl
theorem dX2_tellOn_31 : decode cX2_tellOn 31 = .ok (.iload_n 1, 1) := fq1_27 (fl_X2_tellOn_0 (j := 31) rfl rfl)
theorem dX2_tellOn_32 : decode cX2_tellOn 32 = .ok (.iaload, 1) := fq1_46 (fl_X2_tellOn_0 (j := 32) rfl rfl)
theorem dX2_tellOn_33 : decode cX2_tellOn 33 = .ok (.iload_n 2, 1) := fq1_28 (fl_X2_tellOn_0 (j := 33) rfl rfl)
theorem dX2_tellOn_34 : decode cX2_tellOn 34 = .ok (.invokevirtual 52, 3) := fq3_182 (fl_X2_tellOn_0 (j := 34) rfl rfl) (fl_X2_tellOn_0 (j := 35) rfl rfl) (fl_X2_tellOn_0 (j := 36) rfl rfl) rfl
theorem dX2_tellOn_37 : decode cX2_tellOn 37 = .ok (.istore_n 3, 1) := fq1_62 (fl_X2_tellOn_0 (j := 37) rfl rfl)
theorem dX2_tellOn_38 : decode cX2_tellOn 38 = .ok (.iload_n 3, 1) := fq1_29 (fl_X2_tellOn_0 (j := 38) rfl rfl)
theorem dX2_tellOn_39 : decode cX2_tellOn 39 = .ok (.iconst (-1), 1) := fq1_2 (fl_X2_tellOn_0 (j := 39) rfl rfl)
theorem dX2_tellOn_40 : decode cX2_tellOn 40 = .ok (.if_icmp .eq 69, 3) := fq3_159 (fl_X2_tellOn_0 (j := 40) rfl rfl) (fl_X2_tellOn_0 (j := 41) rfl rfl) (fl_X2_tellOn_0 (j := 42) rfl rfl) (s2p rfl (bl rfl))
theorem dX2_tellOn_43 : decode cX2_tellOn 43 = .ok (.aload_n 0, 1) := fq1_42 (fl_X2_tellOn_0 (j := 43) rfl rfl)
theorem dX2_tellOn_44 : decode cX2_tellOn 44 = .ok (.getfield 9, 3) := fq3_180 (fl_X2_tellOn_0 (j := 44) rfl rfl) (fl_X2_tellOn_0 (j := 45) rfl rfl) (fl_X2_tellOn_0 (j := 46) rfl rfl) rfl
theorem dX2_tellOn_47 : decode cX2_tellOn 47 = .ok (.iload_n 2, 1) := fq1_28 (fl_X2_tellOn_0 (j := 47) rfl rfl)
theorem dX2_tellOn_48 : decode cX2_tellOn 48 = .ok (.iaload, 1) := fq1_46 (fl_X2_tellOn_0 (j := 48) rfl rfl)
theorem dX2_tellOn_49 : decode cX2_tellOn 49 = .ok (.iconst (-1), 1) := fq1_2 (fl_X2_tellOn_0 (j := 49) rfl rfl)
theorem dX2_tellOn_50 : decode cX2_tellOn 50 = .ok (.if_icmp .eq 13, 3) := fq3_159 (fl_X2_tellOn_0 (j := 50) rfl rfl) (fl_X2_tellOn_0 (j := 51) rfl rfl) (fl_X2_tellOn_0 (j := 52) rfl rfl) (s2p rfl (bl rfl))
theorem dX2_tellOn_53 : decode cX2_tellOn 53 = .ok (.iload_n 3, 1) := fq1_29 (fl_X2_tellOn_0 (j := 53) rfl rfl)
theorem dX2_tellOn_54 : decode cX2_tellOn 54 = .ok (.aload_n 0, 1) := fq1_42 (fl_X2_tellOn_0 (j := 54) rfl rfl)
theorem dX2_tellOn_55 : decode cX2_tellOn 55 = .ok (.getfield 9, 3) := fq3_180 (fl_X2_tellOn_0 (j := 55) rfl rfl) (fl_X2_tellOn_0 (j := 56) rfl rfl) (fl_X2_tellOn_0 (j := 57) rfl rfl) rfl
theorem dX2_tellOn_58 : decode cX2_tellOn 58 = .ok (.iload_n 2, 1) := fq1_28 (fl_X2_tellOn_0 (j := 58) rfl rfl)
theorem dX2_tellOn_59 : decode cX2_tellOn 59 = .ok (.iaload, 1) := fq1_46 (fl_X2_tellOn_0 (j := 59) rfl rfl)
theorem dX2_tellOn_60 : decode cX2_tellOn 60 = .ok (.if_icmp .ge 7, 3) := fq3_162 (fl_X2_tellOn_0 (j := 60) rfl rfl) (fl_X2_tellOn_0 (j := 61) rfl rfl) (fl_X2_tellOn_0 (j := 62) rfl rfl) (s2p rfl (bl rfl))
theorem dX2_tellOn_63 : decode cX2_tellOn 63 = .ok (.iconst 1, 1) := fq1_4 (fl_X2_tellOn_0 (j := 63) rfl rfl)
def fb_X2_tellOn_1 : List UInt8 := [0xa7, 0x00, 0x04, 0x03, 0x36, 0x04, 0x15, 0x04, 0x9a, 0x00, 0x17, 0x1d, 0x2a, 0xb4, 0x00, 0x09, 0x1c, 0x2e, 0xa0, 0x00, 0x1b, 0x1b, 0x2a, 0xb4, 0x00, 0x0f, 0x1c, 0x2e, 0xa2, 0x00, 0x11, 0x2a, 0xb4, 0x00, 0x09, 0x1c, 0x1d, 0x4f, 0x2a, 0xb4, 0x00, 0x0f, 0x1c, 0x1b, 0x4f, 0x84, 0x02, 0x01, 0xa7, 0xff, 0x92, 0xb1]
theorem fl_X2_tellOn_1 {p j : Nat} {b : UInt8} (e : p = 64 + j) (h : fb_X2_tellOn_1[j]? = some b) : cX2_tellOn.data.toList[p]? = some b := fq_l (n := 64) (show (cX2_tellOn.data.toList.drop 64).take 64 = fb_X2_tellOn_1 by decide +kernel) e h
theorem dX2_tellOn_64 : decode cX2_tellOn 64 = .ok (.goto 4, 3) := fq3_167 (fl_X2_tellOn_1 (j := 0) rfl rfl) (fl_X2_tellOn_1 (j := 1) rfl rfl) (fl_X2_tellOn_1 (j := 2) rfl rfl) (s2p rfl (bl rfl))
theorem dX2_tellOn_67 : decode cX2_tellOn 67 = .ok (.iconst 0, 1) := fq1_3 (fl_X2_tellOn_1 (j := 3) rfl rfl)
theorem dX2_tellOn_68 : decode cX2_tellOn 68 = .ok (.istore 4, 2) := fq2_54 (fl_X2_tellOn_1 (j := 4) rfl rfl) (fl_X2_tellOn_1 (j := 5) rfl rfl) rfl
theorem dX2_tellOn_70 : decode cX2_tellOn 70 = .ok (.iload 4, 2) := fq2_21 (fl_X2_tellOn_1 (j := 6) rfl rfl) (fl_X2_tellOn_1 (j := 7) rfl rfl) rfl
theorem dX2_tellOn_72 : decode cX2_tellOn 72 = .ok (.ifCond .ne 23, 3) := fq3_154 (fl_X2_tellOn_1 (j := 8) rfl rfl) (fl_X2_tellOn_1 (j := 9) rfl rfl) (fl_X2_tellOn_1 (j := 10) rfl rfl) (s2p rfl (bl rfl))
theorem dX2_tellOn_75 : decode cX2_tellOn 75 = .ok (.iload_n 3, 1) := fq1_29 (fl_X2_tellOn_1 (j := 11) rfl rfl)
theorem dX2_tellOn_76 : decode cX2_tellOn 76 = .ok (.aload_n 0, 1) := fq1_42 (fl_X2_tellOn_1 (j := 12) rfl rfl)
theorem dX2_tellOn_77 : decode cX2_tellOn 77 = .ok (.getfield 9, 3) := fq3_180 (fl_X2_tellOn_1 (j := 13) rfl rfl) (fl_X2_tellOn_1 (j := 14) rfl rfl) (fl_X2_tellOn_1 (j := 15) rfl rfl) rfl
theorem dX2_tellOn_80 : decode cX2_tellOn 80 = .ok (.iload_n 2, 1) := fq1_28 (fl_X2_tellOn_1 (j := 16) rfl rfl)
theorem dX2_tellOn_81 : decode cX2_tellOn 81 = .ok (.iaload, 1) := fq1_46 (fl_X2_tellOn_1 (j := 17) rfl rfl)
theorem dX2_tellOn_82 : decode cX2_tellOn 82 = .ok (.if_icmp .ne 27, 3) := fq3_160 (fl_X2_tellOn_1 (j := 18) rfl rfl) (fl_X2_tellOn_1 (j := 19) rfl rfl) (fl_X2_tellOn_1 (j := 20) rfl rfl) (s2p rfl (bl rfl))
theorem dX2_tellOn_85 : decode cX2_tellOn 85 = .ok (.iload_n 1, 1) := fq1_27 (fl_X2_tellOn_1 (j := 21) rfl rfl)
theorem dX2_tellOn_86 : decode cX2_tellOn 86 = .ok (.aload_n 0, 1) := fq1_42 (fl_X2_tellOn_1 (j := 22) rfl rfl)
theorem dX2_tellOn_87 : decode cX2_tellOn 87 = .ok (.getfield 15, 3) := fq3_180 (fl_X2_tellOn_1 (j := 23) rfl rfl) (fl_X2_tellOn_1 (j := 24) rfl rfl) (fl_X2_tellOn_1 (j := 25) rfl rfl) rfl
theorem dX2_tellOn_90 : decode cX2_tellOn 90 = .ok (.iload_n 2, 1) := fq1_28 (fl_X2_tellOn_1 (j := 26) rfl rfl)
theorem dX2_tellOn_91 : decode cX2_tellOn 91 = .ok (.iaload, 1) := fq1_46 (fl_X2_tellOn_1 (j := 27) rfl rfl)
theorem dX2_tellOn_92 : decode cX2_tellOn 92 = .ok (.if_icmp .ge 17, 3) := fq3_162 (fl_X2_tellOn_1 (j := 28) rfl rfl) (fl_X2_tellOn_1 (j := 29) rfl rfl) (fl_X2_tellOn_1 (j := 30) rfl rfl) (s2p rfl (bl rfl))
theorem dX2_tellOn_95 : decode cX2_tellOn 95 = .ok (.aload_n 0, 1) := fq1_42 (fl_X2_tellOn_1 (j := 31) rfl rfl)
theorem dX2_tellOn_96 : decode cX2_tellOn 96 = .ok (.getfield 9, 3) := fq3_180 (fl_X2_tellOn_1 (j := 32) rfl rfl) (fl_X2_tellOn_1 (j := 33) rfl rfl) (fl_X2_tellOn_1 (j := 34) rfl rfl) rfl
theorem dX2_tellOn_99 : decode cX2_tellOn 99 = .ok (.iload_n 2, 1) := fq1_28 (fl_X2_tellOn_1 (j := 35) rfl rfl)
theorem dX2_tellOn_100 : decode cX2_tellOn 100 = .ok (.iload_n 3, 1) := fq1_29 (fl_X2_tellOn_1 (j := 36) rfl rfl)
theorem dX2_tellOn_101 : decode cX2_tellOn 101 = .ok (.iastore, 1) := fq1_79 (fl_X2_tellOn_1 (j := 37) rfl rfl)
theorem dX2_tellOn_102 : decode cX2_tellOn 102 = .ok (.aload_n 0, 1) := fq1_42 (fl_X2_tellOn_1 (j := 38) rfl rfl)
theorem dX2_tellOn_103 : decode cX2_tellOn 103 = .ok (.getfield 15, 3) := fq3_180 (fl_X2_tellOn_1 (j := 39) rfl rfl) (fl_X2_tellOn_1 (j := 40) rfl rfl) (fl_X2_tellOn_1 (j := 41) rfl rfl) rfl
theorem dX2_tellOn_106 : decode cX2_tellOn 106 = .ok (.iload_n 2, 1) := fq1_28 (fl_X2_tellOn_1 (j := 42) rfl rfl)
theorem dX2_tellOn_107 : decode cX2_tellOn 107 = .ok (.iload_n 1, 1) := fq1_27 (fl_X2_tellOn_1 (j := 43) rfl rfl)
theorem dX2_tellOn_108 : decode cX2_tellOn 108 = .ok (.iastore, 1) := fq1_79 (fl_X2_tellOn_1 (j := 44) rfl rfl)
theorem dX2_tellOn_109 : decode cX2_tellOn 109 = .ok (.iinc 2 1, 3) := fq3_132 (fl_X2_tellOn_1 (j := 45) rfl rfl) (fl_X2_tellOn_1 (j := 46) rfl rfl) (fl_X2_tellOn_1 (j := 47) rfl rfl) rfl (s1p rfl (bl rfl))
theorem dX2_tellOn_112 : decode cX2_tellOn 112 = .ok (.goto (-110), 3) := fq3_167 (fl_X2_tellOn_1 (j := 48) rfl rfl) (fl_X2_tellOn_1 (j := 49) rfl rfl) (fl_X2_tellOn_1 (j := 50) rfl rfl) (by decide)
theorem dX2_tellOn_115 : decode cX2_tellOn 115 = .ok (.return_, 1) := fq1_177 (fl_X2_tellOn_1 (j := 51) rfl rfl)
end

section
set_option maxHeartbeats 4000000 in
set_option maxRecDepth 100000 in
theorem k_fillI (l : Launch) (D : va_G) (k : Nat → ClassId) (h n : Nat) (hn : n < 2000000) (f : Nat → Int32) (v : Int) (hv : -2147483648 ≤ v ∧ v < 2147483648) : WD (σ := (Nat → Int32)) l yJ7_fill_53178 cJ7_fill_53178 4 none 0 0 0 D k [.ref h, .int (iZ v)] [(h, .inl (k 1, n, .inl f))] (fun _ => none) (fun g => ∀ e : Int, 0 ≤ e → e < (n : Int) → gz g e = v) (fun g => [(h, .inl (k 1, n, .inl g))]) := by
  refine MW (by decide) (Nat.le_of_ble_eq_true rfl) (fun p e s m below meth c ls A hx hb hml hr hlocks hin hts hown hKK hP hD hS hA hl => ?_)
  have hK := hKK.1
  have hl : lv_has ls 4 [(0, .ref h), (1, .int (iZ v))] := hl
  refine lv_iconst (v := iZ 0) hx hb dJ7_fill_53178_0 rfl ?_
  refine lv_istore_n (lv' := [(2, .int (iZ 0)), (0, .ref h), (1, .int (iZ v))]) hx hb dJ7_fill_53178_1 rfl hl (bl rfl) rfl (fun ls hl => ?_)
  refine lv_aload_n hx hb dJ7_fill_53178_2 rfl (lv_at hl 1 rfl) ?_
  refine va_alen (v := iZ (n : Int)) hx hb hK hP 0 1 rfl (ty := .int) rfl (iZ_nat n).symm dJ7_fill_53178_3 ?_
  refine lv_istore_n (lv' := [(3, .int (iZ (n : Int))), (2, .int (iZ 0)), (0, .ref h), (1, .int (iZ v))]) hx hb dJ7_fill_53178_4 rfl hl (bl rfl) rfl (fun ls hl => ?_)
  have HL1 : ∀ (fu : Nat) (i : Int) (g : Nat → Int32) (H : Heap) (locs : List Loc) (ls : Array Slot), ((n : Int) + 1 - i) < (fu : Int) → 0 ≤ i → i ≤ (n : Int) → (∀ e : Int, 0 ≤ e → e < i → gz g e = v) → va_P D vwCl [(h, .inl (k 1, n, .inl g))] H → va_D A [(h, .inl (k 1, n, .inl g))] → va_S A s.heap H locs → lv_has ls 4 [(3, .int (iZ (n : Int))), (2, .int (iZ i)), (0, .ref h), (1, .int (iZ v))] → W p l e (rj 0 0 0) s m [.ref h, .int (iZ v)].toArray below meth c H locs 0 0 (MQ below (QW (σ := (Nat → Int32)) (fun _ => none) (fun g => ∀ e : Int, 0 ≤ e → e < (n : Int) → gz g e = v) (fun g => [(h, .inl (k 1, n, .inl g))]) D A) [.ref h, .int (iZ v)].toArray s 0 0 A) (F0 m 5 ls []) := by
    intro fu
    induction fu with
    | zero => intro i g H locs ls hμ1 hi1 hi2 hi3 hP hD hS hl; exact absurd hμ1 (by omega)
    | succ fu ih1 =>
      intro i g H locs ls hμ1 hi1 hi2 hi3 hP hD hS hl
      refine lv_iload_n hx hb dJ7_fill_53178_5 rfl (lv_at hl 1 rfl) ?_
      refine lv_iload_n hx hb dJ7_fill_53178_6 rfl (lv_at hl 0 rfl) ?_
      refine lv_icmp_ge (tgt := 20) hx hb dJ7_fill_53178_7 rfl (fun c_1 => ?_) (fun c_1 => ?_)
      ·
        have c_1 := (zle (x := iZ (n : Int)) (y := iZ i) rfl rfl ⟨by omega, by omega⟩ ⟨by omega, by omega⟩).mp c_1
        exact EWv hx hb hr hlocks hS g rfl (fun e h1 h2 => hi3 e h1 (by omega)) hP hD dJ7_fill_53178_20
      ·
        have c_1 := mt (zle (x := iZ (n : Int)) (y := iZ i) rfl rfl ⟨by omega, by omega⟩ ⟨by omega, by omega⟩).mpr c_1
        refine lv_aload_n hx hb dJ7_fill_53178_10 rfl (lv_at hl 2 rfl) ?_
        refine lv_iload_n hx hb dJ7_fill_53178_11 rfl (lv_at hl 1 rfl) ?_
        refine lv_iload_n hx hb dJ7_fill_53178_12 rfl (lv_at hl 3 rfl) ?_
        refine va_iast hx hb hK hP hD hS 0 1 rfl rfl (zin (e := i) (n := n) ⟨by omega, by omega⟩ (by omega)) dJ7_fill_53178_13 (fun H locs hP hD hS => ?_)
        obtain ⟨f_2, hf_2⟩ : ∃ gg9, gg9 = upd g (iZ i).toNatClampNeg (iZ v) := ⟨_, rfl⟩
        rw [← hf_2] at hP hD
        refine lv_iinc (v := iZ (i + 1)) (lv' := [(2, .int (iZ (i + 1))), (3, .int (iZ (n : Int))), (0, .ref h), (1, .int (iZ v))]) hx hb dJ7_fill_53178_14 hl (k := 1) rfl (iZ_add i 1) (by decide) rfl (fun ls hl => ?_)
        refine lv_goto (tgt := 5) hx hb dJ7_fill_53178_17 rfl ?_
        exact ih1  (i + 1) _ _ _ _ (by omega) (by omega) (by omega) (by intro e h1 h2; rw [gz_up hf_2 ⟨by omega, by omega⟩ ⟨by omega, by omega⟩ h1]; split; rfl; exact hi3 e h1 (by omega)) (hP.sub [0] rfl) (hD.sub [0] rfl rfl) hS (lv_sub hl [1, 0, 2, 3] rfl)
  exact HL1 (n + 2) 0 _ _ _ _ (by omega) (by omega) (by omega) (fun e h1 h2 => absurd h1 (by omega)) (hP.sub [0] rfl) (hD.sub [0] rfl rfl) hS (lv_sub hl [0, 1, 2, 3] rfl)
set_option maxHeartbeats 4000000 in
set_option maxRecDepth 100000 in
theorem k_soonest (l : Launch) (D : va_G) (k : Nat → ClassId) (hn1 kn te ho co : Nat) (hs h : Nat) (fs : List Value) (n : Int) (f3 : fs[3]? = some (.int (iZ n))) (hn : 0 ≤ n ∧ n ≤ 6) (kf : Nat → Int32) (rgk : rgI kf (-1) 420 6) (t : Int) : RP l yX2_soonest cX2_soonest 5 (some .int) 0 D k [.ref hn1, .int (iZ t)] [(hn1, .inr (2, [.ref hs, .ref h, .ref kn, .ref te, .ref ho, .ref co])), (hs, .inr (5, fs)), (kn, .inl (k 1, 6, .inl kf))] (fun z => -1 ≤ z ∧ z < n ∨ (z = -1 ∧ n = 0)) := by
  refine MRP (by decide) (Nat.le_of_ble_eq_true rfl) (fun p e s m below meth c ls hx hb hml hr hlocks hts hown hKK hP hl => ?_)
  have hK := hKK.1
  have hl : lv_has ls 5 [(0, .ref hn1), (1, .int (iZ t))] := hl
  refine lv_iconst (v := iZ (-1)) hx hb dX2_soonest_0 rfl ?_
  refine lv_istore_n (lv' := [(2, .int (iZ (-1))), (0, .ref hn1), (1, .int (iZ t))]) hx hb dX2_soonest_1 rfl hl (bl rfl) rfl (fun ls hl => ?_)
  refine lv_iconst (v := iZ 0) hx hb dX2_soonest_2 rfl ?_
  refine lv_istore_n (lv' := [(3, .int (iZ 0)), (2, .int (iZ (-1))), (0, .ref hn1), (1, .int (iZ t))]) hx hb dX2_soonest_3 rfl hl (bl rfl) rfl (fun ls hl => ?_)
  have HL1 : ∀ (fu : Nat) (i m1 : Int) (ls : Array Slot), (n + 1 - i) < (fu : Int) → 0 ≤ i → i ≤ n → -1 ≤ m1 → m1 < n → lv_has ls 5 [(3, .int (iZ i)), (2, .int (iZ m1)), (0, .ref hn1), (1, .int (iZ t))] → W p l e (rj 0 0 0) s m [.ref hn1, .int (iZ t)].toArray below meth c s.heap [] 0 0 (MQ below (QcP (fun z => -1 ≤ z ∧ z < n ∨ (z = -1 ∧ n = 0))) [.ref hn1, .int (iZ t)].toArray s 0 0 (fun _ => False)) (F0 m 4 ls []) := by
    intro fu
    induction fu with
    | zero => intro i m1 ls hμ1 hi1 hi2 hm1 hm2 hl; exact absurd hμ1 (by omega)
    | succ fu ih1 =>
      intro i m1 ls hμ1 hi1 hi2 hm1 hm2 hl
      refine lv_iload_n hx hb dX2_soonest_4 rfl (lv_at hl 0 rfl) ?_
      refine lv_aload_n hx hb dX2_soonest_5 rfl (lv_at hl 2 rfl) ?_
      refine va_get (D := D) (ci := 2) (v := .ref hs) (C := RX2) (T := TX2) (N := 6) hx hb hts iX2 hown hK hP 0 rfl rfl 0 (bl rfl) (hts _ qf_X2_24) (fun _ h => h) rfl dX2_soonest_6 ?_
      refine va_get (D := D) (ci := 5) (v := .int (iZ n)) (C := RX5) (T := TX5) (N := 7) hx hb hts iX5 hown hK hP 1 rfl rfl 3 (bl rfl) (hts _ qf_X2_38) (fun _ h => h) f3 dX2_soonest_9 ?_
      refine lv_icmp_ge (tgt := 73) hx hb dX2_soonest_12 rfl (fun c_1 => ?_) (fun c_1 => ?_)
      ·
        have c_1 := (zle (x := iZ n) (y := iZ i) rfl rfl ⟨by omega, by omega⟩ ⟨by omega, by omega⟩).mp c_1
        refine lv_iload_n hx hb dX2_soonest_73 rfl (lv_at hl 1 rfl) ?_
        exact EPi hx hb hr hlocks (by omega) dX2_soonest_74
      ·
        have c_1 := mt (zle (x := iZ n) (y := iZ i) rfl rfl ⟨by omega, by omega⟩ ⟨by omega, by omega⟩).mpr c_1
        refine lv_aload_n hx hb dX2_soonest_15 rfl (lv_at hl 2 rfl) ?_
        refine va_get (D := D) (ci := 2) (v := .ref kn) (C := RX2) (T := TX2) (N := 6) hx hb hts iX2 hown hK hP 0 rfl rfl 2 (bl rfl) (hts _ qf_X2_9) (fun _ h => h) rfl dX2_soonest_16 ?_
        refine lv_iload_n hx hb dX2_soonest_19 rfl (lv_at hl 0 rfl) ?_
        refine va_iald hx hb hK hP 2 1 rfl rfl (zin (e := i) (n := 6) ⟨by omega, by omega⟩ (bl rfl)) dX2_soonest_20 ?_
        refine lv_topi (fun x_2 ex_2 => ?_)
        obtain rfl : x_2 = iZ (gz kf i) := ex_2.trans (gz_eq ⟨by omega, by omega⟩)
        have h_3 := rgk i (by omega) (by omega)
        refine lv_iconst (v := iZ (-1)) hx hb dX2_soonest_21 rfl ?_
        refine lv_icmp_eq (tgt := 37) hx hb dX2_soonest_22 rfl (fun c_4 => ?_) (fun c_4 => ?_)
        ·
          have c_4 := (zeq (x := iZ (gz kf i)) (y := iZ (-1)) rfl rfl (gz_rg kf i) wn_m1).mp c_4
          refine lv_iconst (v := iZ 0) hx hb dX2_soonest_37 rfl ?_
          refine lv_istore (lv' := [(4, .int (iZ 0)), (3, .int (iZ i)), (2, .int (iZ m1)), (0, .ref hn1), (1, .int (iZ t))]) hx hb dX2_soonest_38 hl (bl rfl) rfl (fun ls hl => ?_)
          refine lv_iload hx hb dX2_soonest_40 (lv_at hl 0 rfl) ?_
          refine lv_if_eq (tgt := 67) hx hb dX2_soonest_42 rfl (fun _ => ?_) (fun c => absurd (by decide) c)
          refine lv_iinc (v := iZ (i + 1)) (lv' := [(3, .int (iZ (i + 1))), (4, .int (iZ 0)), (2, .int (iZ m1)), (0, .ref hn1), (1, .int (iZ t))]) hx hb dX2_soonest_67 hl (k := 1) rfl (iZ_add i 1) (by decide) rfl (fun ls hl => ?_)
          refine lv_goto (tgt := 4) hx hb dX2_soonest_70 rfl ?_
          exact ih1  _ _ _ (by omega) (by omega) (by omega) (by omega) (by omega) (lv_sub hl [0, 2, 3, 4] rfl)
        ·
          have c_4 := mt (zeq (x := iZ (gz kf i)) (y := iZ (-1)) rfl rfl (gz_rg kf i) wn_m1).mpr c_4
          refine lv_iload_n hx hb dX2_soonest_25 rfl (lv_at hl 3 rfl) ?_
          refine lv_iload_n hx hb dX2_soonest_26 rfl (lv_at hl 0 rfl) ?_
          refine lv_ishr hx hb dX2_soonest_27 ?_
          refine lv_topi (fun x_7 ex_7 => ?_)
          obtain ⟨z_6, hz_6, hz_6a, hz_6b⟩ := i32_z x_7
          subst hz_6
          refine lv_iconst (v := iZ 1) hx hb dX2_soonest_28 rfl ?_
          refine lv_iand hx hb dX2_soonest_29 ?_
          refine lv_topi (fun x_9 ex_9 => ?_)
          obtain ⟨z_8, hz_8, hz_8a, hz_8b⟩ := i32_z x_9
          subst hz_8
          refine lv_if_ne (tgt := 37) hx hb dX2_soonest_30 rfl (fun c_10 => ?_) (fun c_10 => ?_)
          ·
            have c_10 := mt (zeq (x := iZ z_8) (y := iZ 0) rfl rfl ⟨by omega, by omega⟩ wn_0).mpr c_10
            refine lv_iconst (v := iZ 0) hx hb dX2_soonest_37 rfl ?_
            refine lv_istore (lv' := [(4, .int (iZ 0)), (3, .int (iZ i)), (2, .int (iZ m1)), (0, .ref hn1), (1, .int (iZ t))]) hx hb dX2_soonest_38 hl (bl rfl) rfl (fun ls hl => ?_)
            refine lv_iload hx hb dX2_soonest_40 (lv_at hl 0 rfl) ?_
            refine lv_if_eq (tgt := 67) hx hb dX2_soonest_42 rfl (fun _ => ?_) (fun c => absurd (by decide) c)
            refine lv_iinc (v := iZ (i + 1)) (lv' := [(3, .int (iZ (i + 1))), (4, .int (iZ 0)), (2, .int (iZ m1)), (0, .ref hn1), (1, .int (iZ t))]) hx hb dX2_soonest_67 hl (k := 1) rfl (iZ_add i 1) (by decide) rfl (fun ls hl => ?_)
            refine lv_goto (tgt := 4) hx hb dX2_soonest_70 rfl ?_
            exact ih1  _ _ _ (by omega) (by omega) (by omega) (by omega) (by omega) (lv_sub hl [0, 2, 3, 4] rfl)
          ·
            have c_10 := (zeq (x := iZ z_8) (y := iZ 0) rfl rfl ⟨by omega, by omega⟩ wn_0).mp c_10
            refine lv_iconst (v := iZ 1) hx hb dX2_soonest_33 rfl ?_
            refine lv_goto (tgt := 38) hx hb dX2_soonest_34 rfl ?_
            refine lv_istore (lv' := [(4, .int (iZ 1)), (3, .int (iZ i)), (2, .int (iZ m1)), (0, .ref hn1), (1, .int (iZ t))]) hx hb dX2_soonest_38 hl (bl rfl) rfl (fun ls hl => ?_)
            refine lv_iload hx hb dX2_soonest_40 (lv_at hl 0 rfl) ?_
            refine lv_if_eq (tgt := 67) hx hb dX2_soonest_42 rfl (fun c => absurd c (by decide)) (fun _ => ?_)
            refine lv_iload_n hx hb dX2_soonest_45 rfl (lv_at hl 2 rfl) ?_
            refine lv_iconst (v := iZ (-1)) hx hb dX2_soonest_46 rfl ?_
            refine lv_icmp_eq (tgt := 65) hx hb dX2_soonest_47 rfl (fun c_13 => ?_) (fun c_13 => ?_)
            ·
              have c_13 := (zeq (x := iZ m1) (y := iZ (-1)) rfl rfl ⟨by omega, by omega⟩ wn_m1).mp c_13
              refine lv_iload_n hx hb dX2_soonest_65 rfl (lv_at hl 1 rfl) ?_
              refine lv_istore_n (lv' := [(2, .int (iZ i)), (4, .int (iZ 1)), (3, .int (iZ i)), (0, .ref hn1), (1, .int (iZ t))]) hx hb dX2_soonest_66 rfl hl (bl rfl) rfl (fun ls hl => ?_)
              refine lv_iinc (v := iZ (i + 1)) (lv' := [(3, .int (iZ (i + 1))), (2, .int (iZ i)), (4, .int (iZ 1)), (0, .ref hn1), (1, .int (iZ t))]) hx hb dX2_soonest_67 hl (k := 2) rfl (iZ_add i 1) (by decide) rfl (fun ls hl => ?_)
              refine lv_goto (tgt := 4) hx hb dX2_soonest_70 rfl ?_
              exact ih1  _ _ _ (by omega) (by omega) (by omega) (by omega) (by omega) (lv_sub hl [0, 1, 3, 4] rfl)
            ·
              have c_13 := mt (zeq (x := iZ m1) (y := iZ (-1)) rfl rfl ⟨by omega, by omega⟩ wn_m1).mpr c_13
              refine lv_aload_n hx hb dX2_soonest_50 rfl (lv_at hl 3 rfl) ?_
              refine va_get (D := D) (ci := 2) (v := .ref kn) (C := RX2) (T := TX2) (N := 6) hx hb hts iX2 hown hK hP 0 rfl rfl 2 (bl rfl) (hts _ qf_X2_9) (fun _ h => h) rfl dX2_soonest_51 ?_
              refine lv_iload_n hx hb dX2_soonest_54 rfl (lv_at hl 1 rfl) ?_
              refine va_iald hx hb hK hP 2 1 rfl rfl (zin (e := i) (n := 6) ⟨by omega, by omega⟩ (bl rfl)) dX2_soonest_55 ?_
              refine lv_topi (fun x_14 ex_14 => ?_)
              obtain rfl : x_14 = iZ (gz kf i) := ex_14.trans (gz_eq ⟨by omega, by omega⟩)
              have h_15 := rgk i (by omega) (by omega)
              refine lv_aload_n hx hb dX2_soonest_56 rfl (lv_at hl 3 rfl) ?_
              refine va_get (D := D) (ci := 2) (v := .ref kn) (C := RX2) (T := TX2) (N := 6) hx hb hts iX2 hown hK hP 0 rfl rfl 2 (bl rfl) (hts _ qf_X2_9) (fun _ h => h) rfl dX2_soonest_57 ?_
              refine lv_iload_n hx hb dX2_soonest_60 rfl (lv_at hl 2 rfl) ?_
              refine va_iald hx hb hK hP 2 1 rfl rfl (zin (e := m1) (n := 6) ⟨by omega, by omega⟩ (bl rfl)) dX2_soonest_61 ?_
              refine lv_topi (fun x_16 ex_16 => ?_)
              obtain rfl : x_16 = iZ (gz kf m1) := ex_16.trans (gz_eq ⟨by omega, by omega⟩)
              have h_17 := rgk m1 (by omega) (by omega)
              refine lv_icmp_ge (tgt := 67) hx hb dX2_soonest_62 rfl (fun c_18 => ?_) (fun c_18 => ?_)
              ·
                have c_18 := (zle (x := iZ (gz kf m1)) (y := iZ (gz kf i)) rfl rfl (gz_rg kf m1) (gz_rg kf i)).mp c_18
                refine lv_iinc (v := iZ (i + 1)) (lv' := [(3, .int (iZ (i + 1))), (4, .int (iZ 1)), (2, .int (iZ m1)), (0, .ref hn1), (1, .int (iZ t))]) hx hb dX2_soonest_67 hl (k := 1) rfl (iZ_add i 1) (by decide) rfl (fun ls hl => ?_)
                refine lv_goto (tgt := 4) hx hb dX2_soonest_70 rfl ?_
                exact ih1  _ _ _ (by omega) (by omega) (by omega) (by omega) (by omega) (lv_sub hl [0, 2, 3, 4] rfl)
              ·
                have c_18 := mt (zle (x := iZ (gz kf m1)) (y := iZ (gz kf i)) rfl rfl (gz_rg kf m1) (gz_rg kf i)).mpr c_18
                refine lv_iload_n hx hb dX2_soonest_65 rfl (lv_at hl 1 rfl) ?_
                refine lv_istore_n (lv' := [(2, .int (iZ i)), (4, .int (iZ 1)), (3, .int (iZ i)), (0, .ref hn1), (1, .int (iZ t))]) hx hb dX2_soonest_66 rfl hl (bl rfl) rfl (fun ls hl => ?_)
                refine lv_iinc (v := iZ (i + 1)) (lv' := [(3, .int (iZ (i + 1))), (2, .int (iZ i)), (4, .int (iZ 1)), (0, .ref hn1), (1, .int (iZ t))]) hx hb dX2_soonest_67 hl (k := 2) rfl (iZ_add i 1) (by decide) rfl (fun ls hl => ?_)
                refine lv_goto (tgt := 4) hx hb dX2_soonest_70 rfl ?_
                exact ih1  _ _ _ (by omega) (by omega) (by omega) (by omega) (by omega) (lv_sub hl [0, 1, 3, 4] rfl)
  exact HL1 8 _ _ _ (by omega) (by omega) (by omega) (by omega) (by omega) (lv_sub hl [0, 1, 2, 3] rfl)
set_option maxHeartbeats 4000000 in
set_option maxRecDepth 100000 in
theorem k_lastToKnow (l : Launch) (D : va_G) (k : Nat → ClassId) (hn1 kn te ho co : Nat) (hs h : Nat) (fs : List Value) (n : Int) (f3 : fs[3]? = some (.int (iZ n))) (hn : 0 ≤ n ∧ n ≤ 6) (kf : Nat → Int32) (rgk : rgI kf (-1) 420 6) : RP l yX2_lastToKnow cX2_lastToKnow 3 (some .int) 0 D k [.ref hn1] [(hn1, .inr (2, [.ref hs, .ref h, .ref kn, .ref te, .ref ho, .ref co])), (hs, .inr (5, fs)), (kn, .inl (k 1, 6, .inl kf))] (fun z => -1 ≤ z ∧ z ≤ 5) := by
  refine MRP (by decide) (Nat.le_of_ble_eq_true rfl) (fun p e s m below meth c ls hx hb hml hr hlocks hts hown hKK hP hl => ?_)
  have hK := hKK.1
  have hl : lv_has ls 3 [(0, .ref hn1)] := hl
  refine lv_iconst (v := iZ 0) hx hb dX2_lastToKnow_0 rfl ?_
  refine lv_istore_n (lv' := [(1, .int (iZ 0)), (0, .ref hn1)]) hx hb dX2_lastToKnow_1 rfl hl (bl rfl) rfl (fun ls hl => ?_)
  refine lv_iconst (v := iZ 0) hx hb dX2_lastToKnow_2 rfl ?_
  refine lv_istore_n (lv' := [(2, .int (iZ 0)), (1, .int (iZ 0)), (0, .ref hn1)]) hx hb dX2_lastToKnow_3 rfl hl (bl rfl) rfl (fun ls hl => ?_)
  have HL1 : ∀ (fu : Nat) (i m1 : Int) (ls : Array Slot), (n + 1 - i) < (fu : Int) → 0 ≤ i → i ≤ n → 0 ≤ m1 → m1 ≤ 5 → lv_has ls 3 [(2, .int (iZ i)), (1, .int (iZ m1)), (0, .ref hn1)] → W p l e (rj 0 0 0) s m [.ref hn1].toArray below meth c s.heap [] 0 0 (MQ below (QcP (fun z => -1 ≤ z ∧ z ≤ 5)) [.ref hn1].toArray s 0 0 (fun _ => False)) (F0 m 4 ls []) := by
    intro fu
    induction fu with
    | zero => intro i m1 ls hμ1 hi1 hi2 hm1 hm2 hl; exact absurd hμ1 (by omega)
    | succ fu ih1 =>
      intro i m1 ls hμ1 hi1 hi2 hm1 hm2 hl
      refine lv_iload_n hx hb dX2_lastToKnow_4 rfl (lv_at hl 0 rfl) ?_
      refine lv_aload_n hx hb dX2_lastToKnow_5 rfl (lv_at hl 2 rfl) ?_
      refine va_get (D := D) (ci := 2) (v := .ref hs) (C := RX2) (T := TX2) (N := 6) hx hb hts iX2 hown hK hP 0 rfl rfl 0 (bl rfl) (hts _ qf_X2_24) (fun _ h => h) rfl dX2_lastToKnow_6 ?_
      refine va_get (D := D) (ci := 5) (v := .int (iZ n)) (C := RX5) (T := TX5) (N := 7) hx hb hts iX5 hown hK hP 1 rfl rfl 3 (bl rfl) (hts _ qf_X2_38) (fun _ h => h) f3 dX2_lastToKnow_9 ?_
      refine lv_icmp_ge (tgt := 50) hx hb dX2_lastToKnow_12 rfl (fun c_1 => ?_) (fun c_1 => ?_)
      ·
        have c_1 := (zle (x := iZ n) (y := iZ i) rfl rfl ⟨by omega, by omega⟩ ⟨by omega, by omega⟩).mp c_1
        refine lv_iload_n hx hb dX2_lastToKnow_50 rfl (lv_at hl 1 rfl) ?_
        exact EPi hx hb hr hlocks (by omega) dX2_lastToKnow_51
      ·
        have c_1 := mt (zle (x := iZ n) (y := iZ i) rfl rfl ⟨by omega, by omega⟩ ⟨by omega, by omega⟩).mpr c_1
        refine lv_aload_n hx hb dX2_lastToKnow_15 rfl (lv_at hl 2 rfl) ?_
        refine va_get (D := D) (ci := 2) (v := .ref kn) (C := RX2) (T := TX2) (N := 6) hx hb hts iX2 hown hK hP 0 rfl rfl 2 (bl rfl) (hts _ qf_X2_9) (fun _ h => h) rfl dX2_lastToKnow_16 ?_
        refine lv_iload_n hx hb dX2_lastToKnow_19 rfl (lv_at hl 0 rfl) ?_
        refine va_iald hx hb hK hP 2 1 rfl rfl (zin (e := i) (n := 6) ⟨by omega, by omega⟩ (bl rfl)) dX2_lastToKnow_20 ?_
        refine lv_topi (fun x_2 ex_2 => ?_)
        obtain rfl : x_2 = iZ (gz kf i) := ex_2.trans (gz_eq ⟨by omega, by omega⟩)
        have h_3 := rgk i (by omega) (by omega)
        refine lv_iconst (v := iZ (-1)) hx hb dX2_lastToKnow_21 rfl ?_
        refine lv_icmp_ne (tgt := 27) hx hb dX2_lastToKnow_22 rfl (fun c_4 => ?_) (fun c_4 => ?_)
        ·
          have c_4 := mt (zeq (x := iZ (gz kf i)) (y := iZ (-1)) rfl rfl (gz_rg kf i) wn_m1).mpr c_4
          refine lv_aload_n hx hb dX2_lastToKnow_27 rfl (lv_at hl 2 rfl) ?_
          refine va_get (D := D) (ci := 2) (v := .ref kn) (C := RX2) (T := TX2) (N := 6) hx hb hts iX2 hown hK hP 0 rfl rfl 2 (bl rfl) (hts _ qf_X2_9) (fun _ h => h) rfl dX2_lastToKnow_28 ?_
          refine lv_iload_n hx hb dX2_lastToKnow_31 rfl (lv_at hl 0 rfl) ?_
          refine va_iald hx hb hK hP 2 1 rfl rfl (zin (e := i) (n := 6) ⟨by omega, by omega⟩ (bl rfl)) dX2_lastToKnow_32 ?_
          refine lv_topi (fun x_5 ex_5 => ?_)
          obtain rfl : x_5 = iZ (gz kf i) := ex_5.trans (gz_eq ⟨by omega, by omega⟩)
          have h_6 := rgk i (by omega) (by omega)
          refine lv_aload_n hx hb dX2_lastToKnow_33 rfl (lv_at hl 2 rfl) ?_
          refine va_get (D := D) (ci := 2) (v := .ref kn) (C := RX2) (T := TX2) (N := 6) hx hb hts iX2 hown hK hP 0 rfl rfl 2 (bl rfl) (hts _ qf_X2_9) (fun _ h => h) rfl dX2_lastToKnow_34 ?_
          refine lv_iload_n hx hb dX2_lastToKnow_37 rfl (lv_at hl 1 rfl) ?_
          refine va_iald hx hb hK hP 2 1 rfl rfl (zin (e := m1) (n := 6) ⟨by omega, by omega⟩ (bl rfl)) dX2_lastToKnow_38 ?_
          refine lv_topi (fun x_7 ex_7 => ?_)
          obtain rfl : x_7 = iZ (gz kf m1) := ex_7.trans (gz_eq ⟨by omega, by omega⟩)
          have h_8 := rgk m1 (by omega) (by omega)
          refine lv_icmp_le (tgt := 44) hx hb dX2_lastToKnow_39 rfl (fun c_9 => ?_) (fun c_9 => ?_)
          ·
            have c_9 := (zle (x := iZ (gz kf i)) (y := iZ (gz kf m1)) rfl rfl (gz_rg kf i) (gz_rg kf m1)).mp c_9
            refine lv_iinc (v := iZ (i + 1)) (lv' := [(2, .int (iZ (i + 1))), (1, .int (iZ m1)), (0, .ref hn1)]) hx hb dX2_lastToKnow_44 hl (k := 0) rfl (iZ_add i 1) (by decide) rfl (fun ls hl => ?_)
            refine lv_goto (tgt := 4) hx hb dX2_lastToKnow_47 rfl ?_
            exact ih1  _ _ _ (by omega) (by omega) (by omega) (by omega) (by omega) (lv_sub hl [0, 1, 2] rfl)
          ·
            have c_9 := mt (zle (x := iZ (gz kf i)) (y := iZ (gz kf m1)) rfl rfl (gz_rg kf i) (gz_rg kf m1)).mpr c_9
            refine lv_iload_n hx hb dX2_lastToKnow_42 rfl (lv_at hl 0 rfl) ?_
            refine lv_istore_n (lv' := [(1, .int (iZ i)), (2, .int (iZ i)), (0, .ref hn1)]) hx hb dX2_lastToKnow_43 rfl hl (bl rfl) rfl (fun ls hl => ?_)
            refine lv_iinc (v := iZ (i + 1)) (lv' := [(2, .int (iZ (i + 1))), (1, .int (iZ i)), (0, .ref hn1)]) hx hb dX2_lastToKnow_44 hl (k := 1) rfl (iZ_add i 1) (by decide) rfl (fun ls hl => ?_)
            refine lv_goto (tgt := 4) hx hb dX2_lastToKnow_47 rfl ?_
            exact ih1  _ _ _ (by omega) (by omega) (by omega) (by omega) (by omega) (lv_sub hl [0, 1, 2] rfl)
        ·
          have c_4 := (zeq (x := iZ (gz kf i)) (y := iZ (-1)) rfl rfl (gz_rg kf i) wn_m1).mp c_4
          refine lv_iconst (v := iZ (-1)) hx hb dX2_lastToKnow_25 rfl ?_
          exact EPi hx hb hr hlocks (by omega) dX2_lastToKnow_26
  exact HL1 8 _ _ _ (by omega) (by omega) (by omega) (by omega) (by omega) (lv_sub hl [0, 1, 2] rfl)
set_option maxHeartbeats 4000000 in
set_option maxRecDepth 100000 in
theorem k_tellOn (l : Launch) (D : va_G) (k : Nat → ClassId) (hn1 kn te ho co : Nat) (h hs : Nat) (r0 : Ry) (hRT : RT k r0) (fs : List Value) (hf hg : Nat) (f1 : fs[1]? = some (.ref hf)) (f2 : fs[2]? = some (.ref hg)) (f g : Nat → Int32) (n : Int) (hn : n ≤ 6) (hx0 : FXI f n) (ni : Int) (f4 : fs[4]? = some (.int (iZ ni))) (hni : 0 ≤ ni ∧ ni ≤ 8) (f3 : fs[3]? = some (.int (iZ n))) (hn0 : 0 ≤ n) (kf tf : Nat → Int32) (rgk : rgI kf (-1) 420 6) (rgt : rgI tf (-1) 5 6) (a : Int) (ha0 : 0 ≤ a ∧ a < n) : XD (σ := (Int × Ry × (Nat → Nat → Int32))) l yX2_tellOn cX2_tellOn 5 none 2 r0 D k [.ref hn1, .int (iZ a)] [(hn1, .inr (2, [.ref hs, .ref h, .ref kn, .ref te, .ref ho, .ref co])), (h, .inr (3, [.ref hs, .long r0.op, r0.vA, r0.vL])), (kn, .inl (k 1, 6, .inl kf)), (te, .inl (k 1, 6, .inl tf)), (hs, .inr (5, fs)), (hf, .inl (k 1, 36, .inl f)), (hg, .inl (k 1, 32, .inl g))] (fun u => u.2.1) (fun _ => none) (fun u => RT k u.2.1 ∧ rgI (u.2.2 0) (-1) 420 6 ∧ rgI (u.2.2 1) (-1) 5 6) (fun u => [(hn1, .inr (2, [.ref hs, .ref h, .ref kn, .ref te, .ref ho, .ref co])), (h, .inr (3, [.ref hs, .long u.2.1.op, u.2.1.vA, u.2.1.vL])), (kn, .inl (k 1, 6, .inl (u.2.2 0))), (te, .inl (k 1, 6, .inl (u.2.2 1))), (hs, .inr (5, fs)), (hf, .inl (k 1, 36, .inl f)), (hg, .inl (k 1, 32, .inl g))]) := by
  refine MX (by decide) (Nat.le_of_ble_eq_true rfl) (fun p e s m below meth c ls A hx hb hml hr hlocks hin hts hown hKK hP hD hS hA hl => ?_)
  have hK := hKK.1
  have hl : lv_has ls 5 [(0, .ref hn1), (1, .int (iZ a))] := hl
  refine lv_iconst (v := iZ 0) hx hb dX2_tellOn_0 rfl ?_
  refine lv_istore_n (lv' := [(2, .int (iZ 0)), (0, .ref hn1), (1, .int (iZ a))]) hx hb dX2_tellOn_1 rfl hl (bl rfl) rfl (fun ls hl => ?_)
  have HL1 : ∀ (fu : Nat) (r2 : Ry) (i : Int) (k2 : Nat → Int32) (t2 : Nat → Int32) (H : Heap) (locs : List Loc) (ls : Array Slot), (n + 1 - i) < (fu : Int) → RT k r2 → (r2.b = true → r0.b = true) → 0 ≤ i → i ≤ n → rgI k2 (-1) 420 6 → rgI t2 (-1) 5 6 → va_P D vwCl ((hn1, .inr (2, [.ref hs, .ref h, .ref kn, .ref te, .ref ho, .ref co])) :: (h, .inr (3, [.ref hs, .long r2.op, r2.vA, r2.vL])) :: (kn, .inl (k 1, 6, .inl k2)) :: (te, .inl (k 1, 6, .inl t2)) :: (hs, .inr (5, fs)) :: (hf, .inl (k 1, 36, .inl f)) :: (hg, .inl (k 1, 32, .inl g)) :: r2.tl) H → va_D A ((hn1, .inr (2, [.ref hs, .ref h, .ref kn, .ref te, .ref ho, .ref co])) :: (h, .inr (3, [.ref hs, .long r2.op, r2.vA, r2.vL])) :: (kn, .inl (k 1, 6, .inl k2)) :: (te, .inl (k 1, 6, .inl t2)) :: (hs, .inr (5, fs)) :: (hf, .inl (k 1, 36, .inl f)) :: (hg, .inl (k 1, 32, .inl g)) :: r2.tl) → va_S A s.heap H locs → lv_has ls 5 [(2, .int (iZ i)), (0, .ref hn1), (1, .int (iZ a))] → W p l e (rj 2 (rcN r0.b) (rsN r0.b)) s m [.ref hn1, .int (iZ a)].toArray below meth c H locs (cz r0.b r2.b) (sz r0.b r2.b) (MQ below (QX (σ := (Int × Ry × (Nat → Nat → Int32))) r0.b (fun u => u.2.1) (fun _ => none) (fun u => RT k u.2.1 ∧ rgI (u.2.2 0) (-1) 420 6 ∧ rgI (u.2.2 1) (-1) 5 6) (fun u => [(hn1, .inr (2, [.ref hs, .ref h, .ref kn, .ref te, .ref ho, .ref co])), (h, .inr (3, [.ref hs, .long u.2.1.op, u.2.1.vA, u.2.1.vL])), (kn, .inl (k 1, 6, .inl (u.2.2 0))), (te, .inl (k 1, 6, .inl (u.2.2 1))), (hs, .inr (5, fs)), (hf, .inl (k 1, 36, .inl f)), (hg, .inl (k 1, 32, .inl g))]) D A) [.ref hn1, .int (iZ a)].toArray s (rcN r0.b) (rsN r0.b) A) (F0 m 2 ls []) := by
    intro fu
    induction fu with
    | zero => intro r2 i k2 t2 H locs ls hμ1 rtr2 hbr2 hi1 hi2 rgk2 rgt2 hP hD hS hl; exact absurd hμ1 (by omega)
    | succ fu ih1 =>
      intro r2 i k2 t2 H locs ls hμ1 rtr2 hbr2 hi1 hi2 rgk2 rgt2 hP hD hS hl
      refine lv_iload_n hx hb dX2_tellOn_2 rfl (lv_at hl 0 rfl) ?_
      refine lv_aload_n hx hb dX2_tellOn_3 rfl (lv_at hl 1 rfl) ?_
      refine va_get (D := D) (ci := 2) (v := .ref hs) (C := RX2) (T := TX2) (N := 6) hx hb hts iX2 hown hK hP 0 rfl rfl 0 (bl rfl) (hts _ qf_X2_24) (fun _ h => h) rfl dX2_tellOn_4 ?_
      refine va_get (D := D) (ci := 5) (v := .int (iZ n)) (C := RX5) (T := TX5) (N := 7) hx hb hts iX5 hown hK hP 4 rfl rfl 3 (bl rfl) (hts _ qf_X2_38) (fun _ h => h) f3 dX2_tellOn_7 ?_
      refine lv_icmp_ge (tgt := 115) hx hb dX2_tellOn_10 rfl (fun c_1 => ?_) (fun c_1 => ?_)
      ·
        have c_1 := (zle (x := iZ n) (y := iZ i) rfl rfl ⟨by omega, by omega⟩ ⟨by omega, by omega⟩).mp c_1
        exact EXv hx hb hr hlocks hbr2 hS (0, r2, fun i => [k2, t2].getD i (fun _ => 0)) rfl rfl ⟨rtr2, rgk2, rgt2⟩ (va_P.subT (pre := [(hn1, .inr (2, [.ref hs, .ref h, .ref kn, .ref te, .ref ho, .ref co])), (h, .inr (3, [.ref hs, .long r2.op, r2.vA, r2.vL])), (kn, .inl (k 1, 6, .inl k2)), (te, .inl (k 1, 6, .inl t2)), (hs, .inr (5, fs)), (hf, .inl (k 1, 36, .inl f)), (hg, .inl (k 1, 32, .inl g))]) (pre' := [(hn1, .inr (2, [.ref hs, .ref h, .ref kn, .ref te, .ref ho, .ref co])), (h, .inr (3, [.ref hs, .long r2.op, r2.vA, r2.vL])), (kn, .inl (k 1, 6, .inl k2)), (te, .inl (k 1, 6, .inl t2)), (hs, .inr (5, fs)), (hf, .inl (k 1, 36, .inl f)), (hg, .inl (k 1, 32, .inl g))]) (tl := r2.tl) hP [0, 1, 2, 3, 4, 5, 6] rfl) (va_D.subT (pre := [(hn1, .inr (2, [.ref hs, .ref h, .ref kn, .ref te, .ref ho, .ref co])), (h, .inr (3, [.ref hs, .long r2.op, r2.vA, r2.vL])), (kn, .inl (k 1, 6, .inl k2)), (te, .inl (k 1, 6, .inl t2)), (hs, .inr (5, fs)), (hf, .inl (k 1, 36, .inl f)), (hg, .inl (k 1, 32, .inl g))]) (pre' := [(hn1, .inr (2, [.ref hs, .ref h, .ref kn, .ref te, .ref ho, .ref co])), (h, .inr (3, [.ref hs, .long r2.op, r2.vA, r2.vL])), (kn, .inl (k 1, 6, .inl k2)), (te, .inl (k 1, 6, .inl t2)), (hs, .inr (5, fs)), (hf, .inl (k 1, 36, .inl f)), (hg, .inl (k 1, 32, .inl g))]) (tl := r2.tl) hD [0, 1, 2, 3, 4, 5, 6] rfl rfl) dX2_tellOn_115
      ·
        have c_1 := mt (zle (x := iZ n) (y := iZ i) rfl rfl ⟨by omega, by omega⟩ ⟨by omega, by omega⟩).mpr c_1
        refine lv_iload_n hx hb dX2_tellOn_13 rfl (lv_at hl 0 rfl) ?_
        refine lv_iload_n hx hb dX2_tellOn_14 rfl (lv_at hl 2 rfl) ?_
        refine lv_icmp_ne (tgt := 22) hx hb dX2_tellOn_15 rfl (fun c_2 => ?_) (fun c_2 => ?_)
        ·
          have c_2 := mt (zeq (x := iZ i) (y := iZ a) rfl rfl ⟨by omega, by omega⟩ ⟨by omega, by omega⟩).mpr c_2
          refine lv_aload_n hx hb dX2_tellOn_22 rfl (lv_at hl 1 rfl) ?_
          refine va_get (D := D) (ci := 2) (v := .ref h) (C := RX2) (T := TX2) (N := 6) hx hb hts iX2 hown hK hP 0 rfl rfl 1 (bl rfl) (hts _ qf_X2_28) (fun _ h => h) rfl dX2_tellOn_23 ?_
          refine lv_iload_n hx hb dX2_tellOn_26 rfl (lv_at hl 2 rfl) ?_
          refine lv_aload_n hx hb dX2_tellOn_27 rfl (lv_at hl 1 rfl) ?_
          refine va_get (D := D) (ci := 2) (v := .ref kn) (C := RX2) (T := TX2) (N := 6) hx hb hts iX2 hown hK hP 0 rfl rfl 2 (bl rfl) (hts _ qf_X2_9) (fun _ h => h) rfl dX2_tellOn_28 ?_
          refine lv_iload_n hx hb dX2_tellOn_31 rfl (lv_at hl 2 rfl) ?_
          refine va_iald hx hb hK hP 2 1 rfl rfl (zin (e := a) (n := 6) ⟨by omega, by omega⟩ (bl rfl)) dX2_tellOn_32 ?_
          refine lv_topi (fun x_3 ex_3 => ?_)
          obtain rfl : x_3 = iZ (gz k2 a) := ex_3.trans (gz_eq ⟨by omega, by omega⟩)
          have h_4 := rgk2 a (by omega) (by omega)
          refine lv_iload_n hx hb dX2_tellOn_33 rfl (lv_at hl 0 rfl) ?_
          refine CXV (r := r2) (b0 := r0.b) (As := [.int (iZ a), .int (iZ (gz k2 a)), .int (iZ i)]) (rest := []) (ws := [(hn1, .inr (2, [.ref hs, .ref h, .ref kn, .ref te, .ref ho, .ref co])), (h, .inr (3, [.ref hs, .long r2.op, r2.vA, r2.vL])), (kn, .inl (k 1, 6, .inl k2)), (te, .inl (k 1, 6, .inl t2)), (hs, .inr (5, fs)), (hf, .inl (k 1, 36, .inl f)), (hg, .inl (k 1, 32, .inl g))]) (wc := _) (wr := [(hn1, .inr (2, [.ref hs, .ref h, .ref kn, .ref te, .ref ho, .ref co])), (kn, .inl (k 1, 6, .inl k2)), (te, .inl (k 1, 6, .inl t2))]) hx hb hml hown hts hKK hP hD hS hA hbr2 (k_arrival l D k h hs r2 rtr2 fs hf hg f1 f2 f g n hn hx0 ni f4 hni a (gz k2 a) i ⟨by omega, by omega⟩ ⟨by omega, by omega⟩ ⟨by omega, by omega⟩) ci_X3_arrival qm_X2_52 ⟨Nat.le_of_ble_eq_true rfl, Nat.le_of_ble_eq_true rfl⟩ ⟨rfl, rfl⟩ [1, 4, 5, 6] [0, 2, 3] rfl rfl rfl rfl rfl (dj rfl) 0 rfl rfl rfl hl.1 rfl (Nat.le_of_ble_eq_true rfl) dX2_tellOn_34 (fun u_5 H locs hφ hP hD hS hb1 => ?_)
          obtain ⟨z_7, r_8⟩ := u_5
          obtain ⟨hz_7, rtr_8⟩ := hφ
          dsimp only at hz_7
          have rtr_8 : RT k r_8 := rtr_8
          have hbh_6 : r_8.b = true → r0.b = true := fun h => hbr2 (hb1 h)
          refine W.ceq (cells' := cz r0.b r_8.b) (slots' := sz r0.b r_8.b) rfl rfl ?_
          refine W.eq (g2 := F0 m 37 ls [.int (iZ z_7)]) rfl ?_
          refine lv_istore_n (lv' := [(3, .int (iZ z_7)), (2, .int (iZ i)), (0, .ref hn1), (1, .int (iZ a))]) hx hb dX2_tellOn_37 rfl hl (bl rfl) rfl (fun ls hl => ?_)
          refine lv_iload_n hx hb dX2_tellOn_38 rfl (lv_at hl 0 rfl) ?_
          refine lv_iconst (v := iZ (-1)) hx hb dX2_tellOn_39 rfl ?_
          refine lv_icmp_eq (tgt := 109) hx hb dX2_tellOn_40 rfl (fun c_9 => ?_) (fun c_9 => ?_)
          ·
            have c_9 := (zeq (x := iZ z_7) (y := iZ (-1)) rfl rfl ⟨by omega, by omega⟩ wn_m1).mp c_9
            refine lv_iinc (v := iZ (i + 1)) (lv' := [(2, .int (iZ (i + 1))), (3, .int (iZ z_7)), (0, .ref hn1), (1, .int (iZ a))]) hx hb dX2_tellOn_109 hl (k := 1) rfl (iZ_add i 1) (by decide) rfl (fun ls hl => ?_)
            refine lv_goto (tgt := 2) hx hb dX2_tellOn_112 rfl ?_
            exact ih1  r_8 _ _ _ _ _ _ (by omega) rtr_8 hbh_6 (by omega) (by omega) rgk2 rgt2 (va_P.subT (pre := [(hn1, .inr (2, [.ref hs, .ref h, .ref kn, .ref te, .ref ho, .ref co])), (kn, .inl (k 1, 6, .inl k2)), (te, .inl (k 1, 6, .inl t2)), (h, .inr (3, [.ref hs, .long r_8.op, r_8.vA, r_8.vL])), (hs, .inr (5, fs)), (hf, .inl (k 1, 36, .inl f)), (hg, .inl (k 1, 32, .inl g))]) (pre' := [(hn1, .inr (2, [.ref hs, .ref h, .ref kn, .ref te, .ref ho, .ref co])), (h, .inr (3, [.ref hs, .long r_8.op, r_8.vA, r_8.vL])), (kn, .inl (k 1, 6, .inl k2)), (te, .inl (k 1, 6, .inl t2)), (hs, .inr (5, fs)), (hf, .inl (k 1, 36, .inl f)), (hg, .inl (k 1, 32, .inl g))]) (tl := r_8.tl) hP [0, 3, 1, 2, 4, 5, 6] rfl) (va_D.subT (pre := [(hn1, .inr (2, [.ref hs, .ref h, .ref kn, .ref te, .ref ho, .ref co])), (kn, .inl (k 1, 6, .inl k2)), (te, .inl (k 1, 6, .inl t2)), (h, .inr (3, [.ref hs, .long r_8.op, r_8.vA, r_8.vL])), (hs, .inr (5, fs)), (hf, .inl (k 1, 36, .inl f)), (hg, .inl (k 1, 32, .inl g))]) (pre' := [(hn1, .inr (2, [.ref hs, .ref h, .ref kn, .ref te, .ref ho, .ref co])), (h, .inr (3, [.ref hs, .long r_8.op, r_8.vA, r_8.vL])), (kn, .inl (k 1, 6, .inl k2)), (te, .inl (k 1, 6, .inl t2)), (hs, .inr (5, fs)), (hf, .inl (k 1, 36, .inl f)), (hg, .inl (k 1, 32, .inl g))]) (tl := r_8.tl) hD [0, 3, 1, 2, 4, 5, 6] rfl rfl) hS (lv_sub hl [0, 2, 3] rfl)
          ·
            have c_9 := mt (zeq (x := iZ z_7) (y := iZ (-1)) rfl rfl ⟨by omega, by omega⟩ wn_m1).mpr c_9
            refine lv_aload_n hx hb dX2_tellOn_43 rfl (lv_at hl 2 rfl) ?_
            refine va_get (D := D) (ci := 2) (v := .ref kn) (C := RX2) (T := TX2) (N := 6) hx hb hts iX2 hown hK hP 0 rfl rfl 2 (bl rfl) (hts _ qf_X2_9) (fun _ h => h) rfl dX2_tellOn_44 ?_
            refine lv_iload_n hx hb dX2_tellOn_47 rfl (lv_at hl 1 rfl) ?_
            refine va_iald hx hb hK hP 1 1 rfl rfl (zin (e := i) (n := 6) ⟨by omega, by omega⟩ (bl rfl)) dX2_tellOn_48 ?_
            refine lv_topi (fun x_10 ex_10 => ?_)
            obtain rfl : x_10 = iZ (gz k2 i) := ex_10.trans (gz_eq ⟨by omega, by omega⟩)
            have h_11 := rgk2 i (by omega) (by omega)
            refine lv_iconst (v := iZ (-1)) hx hb dX2_tellOn_49 rfl ?_
            refine lv_icmp_eq (tgt := 63) hx hb dX2_tellOn_50 rfl (fun c_12 => ?_) (fun c_12 => ?_)
            ·
              have c_12 := (zeq (x := iZ (gz k2 i)) (y := iZ (-1)) rfl rfl (gz_rg k2 i) wn_m1).mp c_12
              refine lv_iconst (v := iZ 1) hx hb dX2_tellOn_63 rfl ?_
              refine lv_goto (tgt := 68) hx hb dX2_tellOn_64 rfl ?_
              refine lv_istore (lv' := [(4, .int (iZ 1)), (3, .int (iZ z_7)), (2, .int (iZ i)), (0, .ref hn1), (1, .int (iZ a))]) hx hb dX2_tellOn_68 hl (bl rfl) rfl (fun ls hl => ?_)
              refine lv_iload hx hb dX2_tellOn_70 (lv_at hl 0 rfl) ?_
              refine lv_if_ne (tgt := 95) hx hb dX2_tellOn_72 rfl (fun _ => ?_) (fun c => absurd c (by decide))
              refine lv_aload_n hx hb dX2_tellOn_95 rfl (lv_at hl 3 rfl) ?_
              refine va_get (D := D) (ci := 2) (v := .ref kn) (C := RX2) (T := TX2) (N := 6) hx hb hts iX2 hown hK hP 0 rfl rfl 2 (bl rfl) (hts _ qf_X2_9) (fun _ h => h) rfl dX2_tellOn_96 ?_
              refine lv_iload_n hx hb dX2_tellOn_99 rfl (lv_at hl 2 rfl) ?_
              refine lv_iload_n hx hb dX2_tellOn_100 rfl (lv_at hl 1 rfl) ?_
              refine va_iast hx hb hK hP hD hS 1 1 rfl rfl (zin (e := i) (n := 6) ⟨by omega, by omega⟩ (bl rfl)) dX2_tellOn_101 (fun H locs hP hD hS => ?_)
              obtain ⟨f_14, hf_14⟩ : ∃ gg9, gg9 = upd k2 (iZ i).toNatClampNeg (iZ z_7) := ⟨_, rfl⟩
              rw [← hf_14] at hP hD
              have rgf_14 := rg_upd rgk2 hf_14 (by omega) ⟨by omega, by omega⟩ ⟨by omega, by omega⟩
              refine lv_aload_n hx hb dX2_tellOn_102 rfl (lv_at hl 3 rfl) ?_
              refine va_get (D := D) (ci := 2) (v := .ref te) (C := RX2) (T := TX2) (N := 6) hx hb hts iX2 hown hK hP 0 rfl rfl 3 (bl rfl) (hts _ qf_X2_15) (fun _ h => h) rfl dX2_tellOn_103 ?_
              refine lv_iload_n hx hb dX2_tellOn_106 rfl (lv_at hl 2 rfl) ?_
              refine lv_iload_n hx hb dX2_tellOn_107 rfl (lv_at hl 4 rfl) ?_
              refine va_iast hx hb hK hP hD hS 2 1 rfl rfl (zin (e := i) (n := 6) ⟨by omega, by omega⟩ (bl rfl)) dX2_tellOn_108 (fun H locs hP hD hS => ?_)
              obtain ⟨f_15, hf_15⟩ : ∃ gg9, gg9 = upd t2 (iZ i).toNatClampNeg (iZ a) := ⟨_, rfl⟩
              rw [← hf_15] at hP hD
              have rgf_15 := rg_upd rgt2 hf_15 (by omega) ⟨by omega, by omega⟩ ⟨by omega, by omega⟩
              refine lv_iinc (v := iZ (i + 1)) (lv' := [(2, .int (iZ (i + 1))), (4, .int (iZ 1)), (3, .int (iZ z_7)), (0, .ref hn1), (1, .int (iZ a))]) hx hb dX2_tellOn_109 hl (k := 2) rfl (iZ_add i 1) (by decide) rfl (fun ls hl => ?_)
              refine lv_goto (tgt := 2) hx hb dX2_tellOn_112 rfl ?_
              exact ih1  r_8 _ _ _ _ _ _ (by omega) rtr_8 hbh_6 (by omega) (by omega) rgf_14 rgf_15 (va_P.subT (pre := [(hn1, .inr (2, [.ref hs, .ref h, .ref kn, .ref te, .ref ho, .ref co])), (kn, .inl (k 1, 6, .inl f_14)), (te, .inl (k 1, 6, .inl f_15)), (h, .inr (3, [.ref hs, .long r_8.op, r_8.vA, r_8.vL])), (hs, .inr (5, fs)), (hf, .inl (k 1, 36, .inl f)), (hg, .inl (k 1, 32, .inl g))]) (pre' := [(hn1, .inr (2, [.ref hs, .ref h, .ref kn, .ref te, .ref ho, .ref co])), (h, .inr (3, [.ref hs, .long r_8.op, r_8.vA, r_8.vL])), (kn, .inl (k 1, 6, .inl f_14)), (te, .inl (k 1, 6, .inl f_15)), (hs, .inr (5, fs)), (hf, .inl (k 1, 36, .inl f)), (hg, .inl (k 1, 32, .inl g))]) (tl := r_8.tl) hP [0, 3, 1, 2, 4, 5, 6] rfl) (va_D.subT (pre := [(hn1, .inr (2, [.ref hs, .ref h, .ref kn, .ref te, .ref ho, .ref co])), (kn, .inl (k 1, 6, .inl f_14)), (te, .inl (k 1, 6, .inl f_15)), (h, .inr (3, [.ref hs, .long r_8.op, r_8.vA, r_8.vL])), (hs, .inr (5, fs)), (hf, .inl (k 1, 36, .inl f)), (hg, .inl (k 1, 32, .inl g))]) (pre' := [(hn1, .inr (2, [.ref hs, .ref h, .ref kn, .ref te, .ref ho, .ref co])), (h, .inr (3, [.ref hs, .long r_8.op, r_8.vA, r_8.vL])), (kn, .inl (k 1, 6, .inl f_14)), (te, .inl (k 1, 6, .inl f_15)), (hs, .inr (5, fs)), (hf, .inl (k 1, 36, .inl f)), (hg, .inl (k 1, 32, .inl g))]) (tl := r_8.tl) hD [0, 3, 1, 2, 4, 5, 6] rfl rfl) hS (lv_sub hl [0, 3, 4] rfl)
            ·
              have c_12 := mt (zeq (x := iZ (gz k2 i)) (y := iZ (-1)) rfl rfl (gz_rg k2 i) wn_m1).mpr c_12
              refine lv_iload_n hx hb dX2_tellOn_53 rfl (lv_at hl 0 rfl) ?_
              refine lv_aload_n hx hb dX2_tellOn_54 rfl (lv_at hl 2 rfl) ?_
              refine va_get (D := D) (ci := 2) (v := .ref kn) (C := RX2) (T := TX2) (N := 6) hx hb hts iX2 hown hK hP 0 rfl rfl 2 (bl rfl) (hts _ qf_X2_9) (fun _ h => h) rfl dX2_tellOn_55 ?_
              refine lv_iload_n hx hb dX2_tellOn_58 rfl (lv_at hl 1 rfl) ?_
              refine va_iald hx hb hK hP 1 1 rfl rfl (zin (e := i) (n := 6) ⟨by omega, by omega⟩ (bl rfl)) dX2_tellOn_59 ?_
              refine lv_topi (fun x_16 ex_16 => ?_)
              obtain rfl : x_16 = iZ (gz k2 i) := ex_16.trans (gz_eq ⟨by omega, by omega⟩)
              have h_17 := rgk2 i (by omega) (by omega)
              refine lv_icmp_ge (tgt := 67) hx hb dX2_tellOn_60 rfl (fun c_18 => ?_) (fun c_18 => ?_)
              ·
                have c_18 := (zle (x := iZ (gz k2 i)) (y := iZ z_7) rfl rfl (gz_rg k2 i) ⟨by omega, by omega⟩).mp c_18
                refine lv_iconst (v := iZ 0) hx hb dX2_tellOn_67 rfl ?_
                refine lv_istore (lv' := [(4, .int (iZ 0)), (3, .int (iZ z_7)), (2, .int (iZ i)), (0, .ref hn1), (1, .int (iZ a))]) hx hb dX2_tellOn_68 hl (bl rfl) rfl (fun ls hl => ?_)
                refine lv_iload hx hb dX2_tellOn_70 (lv_at hl 0 rfl) ?_
                refine lv_if_ne (tgt := 95) hx hb dX2_tellOn_72 rfl (fun c => absurd (by decide) c) (fun _ => ?_)
                refine lv_iload_n hx hb dX2_tellOn_75 rfl (lv_at hl 1 rfl) ?_
                refine lv_aload_n hx hb dX2_tellOn_76 rfl (lv_at hl 3 rfl) ?_
                refine va_get (D := D) (ci := 2) (v := .ref kn) (C := RX2) (T := TX2) (N := 6) hx hb hts iX2 hown hK hP 0 rfl rfl 2 (bl rfl) (hts _ qf_X2_9) (fun _ h => h) rfl dX2_tellOn_77 ?_
                refine lv_iload_n hx hb dX2_tellOn_80 rfl (lv_at hl 2 rfl) ?_
                refine va_iald hx hb hK hP 1 1 rfl rfl (zin (e := i) (n := 6) ⟨by omega, by omega⟩ (bl rfl)) dX2_tellOn_81 ?_
                refine lv_topi (fun x_20 ex_20 => ?_)
                obtain rfl : x_20 = iZ (gz k2 i) := ex_20.trans (gz_eq ⟨by omega, by omega⟩)
                have h_21 := rgk2 i (by omega) (by omega)
                refine lv_icmp_ne (tgt := 109) hx hb dX2_tellOn_82 rfl (fun c_22 => ?_) (fun c_22 => ?_)
                ·
                  have c_22 := mt (zeq (x := iZ z_7) (y := iZ (gz k2 i)) rfl rfl ⟨by omega, by omega⟩ (gz_rg k2 i)).mpr c_22
                  refine lv_iinc (v := iZ (i + 1)) (lv' := [(2, .int (iZ (i + 1))), (4, .int (iZ 0)), (3, .int (iZ z_7)), (0, .ref hn1), (1, .int (iZ a))]) hx hb dX2_tellOn_109 hl (k := 2) rfl (iZ_add i 1) (by decide) rfl (fun ls hl => ?_)
                  refine lv_goto (tgt := 2) hx hb dX2_tellOn_112 rfl ?_
                  exact ih1  r_8 _ _ _ _ _ _ (by omega) rtr_8 hbh_6 (by omega) (by omega) rgk2 rgt2 (va_P.subT (pre := [(hn1, .inr (2, [.ref hs, .ref h, .ref kn, .ref te, .ref ho, .ref co])), (kn, .inl (k 1, 6, .inl k2)), (te, .inl (k 1, 6, .inl t2)), (h, .inr (3, [.ref hs, .long r_8.op, r_8.vA, r_8.vL])), (hs, .inr (5, fs)), (hf, .inl (k 1, 36, .inl f)), (hg, .inl (k 1, 32, .inl g))]) (pre' := [(hn1, .inr (2, [.ref hs, .ref h, .ref kn, .ref te, .ref ho, .ref co])), (h, .inr (3, [.ref hs, .long r_8.op, r_8.vA, r_8.vL])), (kn, .inl (k 1, 6, .inl k2)), (te, .inl (k 1, 6, .inl t2)), (hs, .inr (5, fs)), (hf, .inl (k 1, 36, .inl f)), (hg, .inl (k 1, 32, .inl g))]) (tl := r_8.tl) hP [0, 3, 1, 2, 4, 5, 6] rfl) (va_D.subT (pre := [(hn1, .inr (2, [.ref hs, .ref h, .ref kn, .ref te, .ref ho, .ref co])), (kn, .inl (k 1, 6, .inl k2)), (te, .inl (k 1, 6, .inl t2)), (h, .inr (3, [.ref hs, .long r_8.op, r_8.vA, r_8.vL])), (hs, .inr (5, fs)), (hf, .inl (k 1, 36, .inl f)), (hg, .inl (k 1, 32, .inl g))]) (pre' := [(hn1, .inr (2, [.ref hs, .ref h, .ref kn, .ref te, .ref ho, .ref co])), (h, .inr (3, [.ref hs, .long r_8.op, r_8.vA, r_8.vL])), (kn, .inl (k 1, 6, .inl k2)), (te, .inl (k 1, 6, .inl t2)), (hs, .inr (5, fs)), (hf, .inl (k 1, 36, .inl f)), (hg, .inl (k 1, 32, .inl g))]) (tl := r_8.tl) hD [0, 3, 1, 2, 4, 5, 6] rfl rfl) hS (lv_sub hl [0, 3, 4] rfl)
                ·
                  have c_22 := (zeq (x := iZ z_7) (y := iZ (gz k2 i)) rfl rfl ⟨by omega, by omega⟩ (gz_rg k2 i)).mp c_22
                  refine lv_iload_n hx hb dX2_tellOn_85 rfl (lv_at hl 4 rfl) ?_
                  refine lv_aload_n hx hb dX2_tellOn_86 rfl (lv_at hl 3 rfl) ?_
                  refine va_get (D := D) (ci := 2) (v := .ref te) (C := RX2) (T := TX2) (N := 6) hx hb hts iX2 hown hK hP 0 rfl rfl 3 (bl rfl) (hts _ qf_X2_15) (fun _ h => h) rfl dX2_tellOn_87 ?_
                  refine lv_iload_n hx hb dX2_tellOn_90 rfl (lv_at hl 2 rfl) ?_
                  refine va_iald hx hb hK hP 2 1 rfl rfl (zin (e := i) (n := 6) ⟨by omega, by omega⟩ (bl rfl)) dX2_tellOn_91 ?_
                  refine lv_topi (fun x_23 ex_23 => ?_)
                  obtain rfl : x_23 = iZ (gz t2 i) := ex_23.trans (gz_eq ⟨by omega, by omega⟩)
                  have h_24 := rgt2 i (by omega) (by omega)
                  refine lv_icmp_ge (tgt := 109) hx hb dX2_tellOn_92 rfl (fun c_25 => ?_) (fun c_25 => ?_)
                  ·
                    have c_25 := (zle (x := iZ (gz t2 i)) (y := iZ a) rfl rfl (gz_rg t2 i) ⟨by omega, by omega⟩).mp c_25
                    refine lv_iinc (v := iZ (i + 1)) (lv' := [(2, .int (iZ (i + 1))), (4, .int (iZ 0)), (3, .int (iZ z_7)), (0, .ref hn1), (1, .int (iZ a))]) hx hb dX2_tellOn_109 hl (k := 2) rfl (iZ_add i 1) (by decide) rfl (fun ls hl => ?_)
                    refine lv_goto (tgt := 2) hx hb dX2_tellOn_112 rfl ?_
                    exact ih1  r_8 _ _ _ _ _ _ (by omega) rtr_8 hbh_6 (by omega) (by omega) rgk2 rgt2 (va_P.subT (pre := [(hn1, .inr (2, [.ref hs, .ref h, .ref kn, .ref te, .ref ho, .ref co])), (kn, .inl (k 1, 6, .inl k2)), (te, .inl (k 1, 6, .inl t2)), (h, .inr (3, [.ref hs, .long r_8.op, r_8.vA, r_8.vL])), (hs, .inr (5, fs)), (hf, .inl (k 1, 36, .inl f)), (hg, .inl (k 1, 32, .inl g))]) (pre' := [(hn1, .inr (2, [.ref hs, .ref h, .ref kn, .ref te, .ref ho, .ref co])), (h, .inr (3, [.ref hs, .long r_8.op, r_8.vA, r_8.vL])), (kn, .inl (k 1, 6, .inl k2)), (te, .inl (k 1, 6, .inl t2)), (hs, .inr (5, fs)), (hf, .inl (k 1, 36, .inl f)), (hg, .inl (k 1, 32, .inl g))]) (tl := r_8.tl) hP [0, 3, 1, 2, 4, 5, 6] rfl) (va_D.subT (pre := [(hn1, .inr (2, [.ref hs, .ref h, .ref kn, .ref te, .ref ho, .ref co])), (kn, .inl (k 1, 6, .inl k2)), (te, .inl (k 1, 6, .inl t2)), (h, .inr (3, [.ref hs, .long r_8.op, r_8.vA, r_8.vL])), (hs, .inr (5, fs)), (hf, .inl (k 1, 36, .inl f)), (hg, .inl (k 1, 32, .inl g))]) (pre' := [(hn1, .inr (2, [.ref hs, .ref h, .ref kn, .ref te, .ref ho, .ref co])), (h, .inr (3, [.ref hs, .long r_8.op, r_8.vA, r_8.vL])), (kn, .inl (k 1, 6, .inl k2)), (te, .inl (k 1, 6, .inl t2)), (hs, .inr (5, fs)), (hf, .inl (k 1, 36, .inl f)), (hg, .inl (k 1, 32, .inl g))]) (tl := r_8.tl) hD [0, 3, 1, 2, 4, 5, 6] rfl rfl) hS (lv_sub hl [0, 3, 4] rfl)
                  ·
                    have c_25 := mt (zle (x := iZ (gz t2 i)) (y := iZ a) rfl rfl (gz_rg t2 i) ⟨by omega, by omega⟩).mpr c_25
                    refine lv_aload_n hx hb dX2_tellOn_95 rfl (lv_at hl 3 rfl) ?_
                    refine va_get (D := D) (ci := 2) (v := .ref kn) (C := RX2) (T := TX2) (N := 6) hx hb hts iX2 hown hK hP 0 rfl rfl 2 (bl rfl) (hts _ qf_X2_9) (fun _ h => h) rfl dX2_tellOn_96 ?_
                    refine lv_iload_n hx hb dX2_tellOn_99 rfl (lv_at hl 2 rfl) ?_
                    refine lv_iload_n hx hb dX2_tellOn_100 rfl (lv_at hl 1 rfl) ?_
                    refine va_iast hx hb hK hP hD hS 1 1 rfl rfl (zin (e := i) (n := 6) ⟨by omega, by omega⟩ (bl rfl)) dX2_tellOn_101 (fun H locs hP hD hS => ?_)
                    obtain ⟨f_26, hf_26⟩ : ∃ gg9, gg9 = upd k2 (iZ i).toNatClampNeg (iZ z_7) := ⟨_, rfl⟩
                    rw [← hf_26] at hP hD
                    have rgf_26 := rg_upd rgk2 hf_26 (by omega) ⟨by omega, by omega⟩ ⟨by omega, by omega⟩
                    refine lv_aload_n hx hb dX2_tellOn_102 rfl (lv_at hl 3 rfl) ?_
                    refine va_get (D := D) (ci := 2) (v := .ref te) (C := RX2) (T := TX2) (N := 6) hx hb hts iX2 hown hK hP 0 rfl rfl 3 (bl rfl) (hts _ qf_X2_15) (fun _ h => h) rfl dX2_tellOn_103 ?_
                    refine lv_iload_n hx hb dX2_tellOn_106 rfl (lv_at hl 2 rfl) ?_
                    refine lv_iload_n hx hb dX2_tellOn_107 rfl (lv_at hl 4 rfl) ?_
                    refine va_iast hx hb hK hP hD hS 2 1 rfl rfl (zin (e := i) (n := 6) ⟨by omega, by omega⟩ (bl rfl)) dX2_tellOn_108 (fun H locs hP hD hS => ?_)
                    obtain ⟨f_27, hf_27⟩ : ∃ gg9, gg9 = upd t2 (iZ i).toNatClampNeg (iZ a) := ⟨_, rfl⟩
                    rw [← hf_27] at hP hD
                    have rgf_27 := rg_upd rgt2 hf_27 (by omega) ⟨by omega, by omega⟩ ⟨by omega, by omega⟩
                    refine lv_iinc (v := iZ (i + 1)) (lv' := [(2, .int (iZ (i + 1))), (4, .int (iZ 0)), (3, .int (iZ z_7)), (0, .ref hn1), (1, .int (iZ a))]) hx hb dX2_tellOn_109 hl (k := 2) rfl (iZ_add i 1) (by decide) rfl (fun ls hl => ?_)
                    refine lv_goto (tgt := 2) hx hb dX2_tellOn_112 rfl ?_
                    exact ih1  r_8 _ _ _ _ _ _ (by omega) rtr_8 hbh_6 (by omega) (by omega) rgf_26 rgf_27 (va_P.subT (pre := [(hn1, .inr (2, [.ref hs, .ref h, .ref kn, .ref te, .ref ho, .ref co])), (kn, .inl (k 1, 6, .inl f_26)), (te, .inl (k 1, 6, .inl f_27)), (h, .inr (3, [.ref hs, .long r_8.op, r_8.vA, r_8.vL])), (hs, .inr (5, fs)), (hf, .inl (k 1, 36, .inl f)), (hg, .inl (k 1, 32, .inl g))]) (pre' := [(hn1, .inr (2, [.ref hs, .ref h, .ref kn, .ref te, .ref ho, .ref co])), (h, .inr (3, [.ref hs, .long r_8.op, r_8.vA, r_8.vL])), (kn, .inl (k 1, 6, .inl f_26)), (te, .inl (k 1, 6, .inl f_27)), (hs, .inr (5, fs)), (hf, .inl (k 1, 36, .inl f)), (hg, .inl (k 1, 32, .inl g))]) (tl := r_8.tl) hP [0, 3, 1, 2, 4, 5, 6] rfl) (va_D.subT (pre := [(hn1, .inr (2, [.ref hs, .ref h, .ref kn, .ref te, .ref ho, .ref co])), (kn, .inl (k 1, 6, .inl f_26)), (te, .inl (k 1, 6, .inl f_27)), (h, .inr (3, [.ref hs, .long r_8.op, r_8.vA, r_8.vL])), (hs, .inr (5, fs)), (hf, .inl (k 1, 36, .inl f)), (hg, .inl (k 1, 32, .inl g))]) (pre' := [(hn1, .inr (2, [.ref hs, .ref h, .ref kn, .ref te, .ref ho, .ref co])), (h, .inr (3, [.ref hs, .long r_8.op, r_8.vA, r_8.vL])), (kn, .inl (k 1, 6, .inl f_26)), (te, .inl (k 1, 6, .inl f_27)), (hs, .inr (5, fs)), (hf, .inl (k 1, 36, .inl f)), (hg, .inl (k 1, 32, .inl g))]) (tl := r_8.tl) hD [0, 3, 1, 2, 4, 5, 6] rfl rfl) hS (lv_sub hl [0, 3, 4] rfl)
              ·
                have c_18 := mt (zle (x := iZ (gz k2 i)) (y := iZ z_7) rfl rfl (gz_rg k2 i) ⟨by omega, by omega⟩).mpr c_18
                refine lv_iconst (v := iZ 1) hx hb dX2_tellOn_63 rfl ?_
                refine lv_goto (tgt := 68) hx hb dX2_tellOn_64 rfl ?_
                refine lv_istore (lv' := [(4, .int (iZ 1)), (3, .int (iZ z_7)), (2, .int (iZ i)), (0, .ref hn1), (1, .int (iZ a))]) hx hb dX2_tellOn_68 hl (bl rfl) rfl (fun ls hl => ?_)
                refine lv_iload hx hb dX2_tellOn_70 (lv_at hl 0 rfl) ?_
                refine lv_if_ne (tgt := 95) hx hb dX2_tellOn_72 rfl (fun _ => ?_) (fun c => absurd c (by decide))
                refine lv_aload_n hx hb dX2_tellOn_95 rfl (lv_at hl 3 rfl) ?_
                refine va_get (D := D) (ci := 2) (v := .ref kn) (C := RX2) (T := TX2) (N := 6) hx hb hts iX2 hown hK hP 0 rfl rfl 2 (bl rfl) (hts _ qf_X2_9) (fun _ h => h) rfl dX2_tellOn_96 ?_
                refine lv_iload_n hx hb dX2_tellOn_99 rfl (lv_at hl 2 rfl) ?_
                refine lv_iload_n hx hb dX2_tellOn_100 rfl (lv_at hl 1 rfl) ?_
                refine va_iast hx hb hK hP hD hS 1 1 rfl rfl (zin (e := i) (n := 6) ⟨by omega, by omega⟩ (bl rfl)) dX2_tellOn_101 (fun H locs hP hD hS => ?_)
                obtain ⟨f_29, hf_29⟩ : ∃ gg9, gg9 = upd k2 (iZ i).toNatClampNeg (iZ z_7) := ⟨_, rfl⟩
                rw [← hf_29] at hP hD
                have rgf_29 := rg_upd rgk2 hf_29 (by omega) ⟨by omega, by omega⟩ ⟨by omega, by omega⟩
                refine lv_aload_n hx hb dX2_tellOn_102 rfl (lv_at hl 3 rfl) ?_
                refine va_get (D := D) (ci := 2) (v := .ref te) (C := RX2) (T := TX2) (N := 6) hx hb hts iX2 hown hK hP 0 rfl rfl 3 (bl rfl) (hts _ qf_X2_15) (fun _ h => h) rfl dX2_tellOn_103 ?_
                refine lv_iload_n hx hb dX2_tellOn_106 rfl (lv_at hl 2 rfl) ?_
                refine lv_iload_n hx hb dX2_tellOn_107 rfl (lv_at hl 4 rfl) ?_
                refine va_iast hx hb hK hP hD hS 2 1 rfl rfl (zin (e := i) (n := 6) ⟨by omega, by omega⟩ (bl rfl)) dX2_tellOn_108 (fun H locs hP hD hS => ?_)
                obtain ⟨f_30, hf_30⟩ : ∃ gg9, gg9 = upd t2 (iZ i).toNatClampNeg (iZ a) := ⟨_, rfl⟩
                rw [← hf_30] at hP hD
                have rgf_30 := rg_upd rgt2 hf_30 (by omega) ⟨by omega, by omega⟩ ⟨by omega, by omega⟩
                refine lv_iinc (v := iZ (i + 1)) (lv' := [(2, .int (iZ (i + 1))), (4, .int (iZ 1)), (3, .int (iZ z_7)), (0, .ref hn1), (1, .int (iZ a))]) hx hb dX2_tellOn_109 hl (k := 2) rfl (iZ_add i 1) (by decide) rfl (fun ls hl => ?_)
                refine lv_goto (tgt := 2) hx hb dX2_tellOn_112 rfl ?_
                exact ih1  r_8 _ _ _ _ _ _ (by omega) rtr_8 hbh_6 (by omega) (by omega) rgf_29 rgf_30 (va_P.subT (pre := [(hn1, .inr (2, [.ref hs, .ref h, .ref kn, .ref te, .ref ho, .ref co])), (kn, .inl (k 1, 6, .inl f_29)), (te, .inl (k 1, 6, .inl f_30)), (h, .inr (3, [.ref hs, .long r_8.op, r_8.vA, r_8.vL])), (hs, .inr (5, fs)), (hf, .inl (k 1, 36, .inl f)), (hg, .inl (k 1, 32, .inl g))]) (pre' := [(hn1, .inr (2, [.ref hs, .ref h, .ref kn, .ref te, .ref ho, .ref co])), (h, .inr (3, [.ref hs, .long r_8.op, r_8.vA, r_8.vL])), (kn, .inl (k 1, 6, .inl f_29)), (te, .inl (k 1, 6, .inl f_30)), (hs, .inr (5, fs)), (hf, .inl (k 1, 36, .inl f)), (hg, .inl (k 1, 32, .inl g))]) (tl := r_8.tl) hP [0, 3, 1, 2, 4, 5, 6] rfl) (va_D.subT (pre := [(hn1, .inr (2, [.ref hs, .ref h, .ref kn, .ref te, .ref ho, .ref co])), (kn, .inl (k 1, 6, .inl f_29)), (te, .inl (k 1, 6, .inl f_30)), (h, .inr (3, [.ref hs, .long r_8.op, r_8.vA, r_8.vL])), (hs, .inr (5, fs)), (hf, .inl (k 1, 36, .inl f)), (hg, .inl (k 1, 32, .inl g))]) (pre' := [(hn1, .inr (2, [.ref hs, .ref h, .ref kn, .ref te, .ref ho, .ref co])), (h, .inr (3, [.ref hs, .long r_8.op, r_8.vA, r_8.vL])), (kn, .inl (k 1, 6, .inl f_29)), (te, .inl (k 1, 6, .inl f_30)), (hs, .inr (5, fs)), (hf, .inl (k 1, 36, .inl f)), (hg, .inl (k 1, 32, .inl g))]) (tl := r_8.tl) hD [0, 3, 1, 2, 4, 5, 6] rfl rfl) hS (lv_sub hl [0, 3, 4] rfl)
        ·
          have c_2 := (zeq (x := iZ i) (y := iZ a) rfl rfl ⟨by omega, by omega⟩ ⟨by omega, by omega⟩).mp c_2
          refine lv_iconst (v := iZ (-1)) hx hb dX2_tellOn_18 rfl ?_
          refine lv_goto (tgt := 37) hx hb dX2_tellOn_19 rfl ?_
          refine lv_istore_n (lv' := [(3, .int (iZ (-1))), (2, .int (iZ i)), (0, .ref hn1), (1, .int (iZ a))]) hx hb dX2_tellOn_37 rfl hl (bl rfl) rfl (fun ls hl => ?_)
          refine lv_iload_n hx hb dX2_tellOn_38 rfl (lv_at hl 0 rfl) ?_
          refine lv_iconst (v := iZ (-1)) hx hb dX2_tellOn_39 rfl ?_
          refine lv_icmp_eq (tgt := 109) hx hb dX2_tellOn_40 rfl (fun _ => ?_) (fun c => absurd (by decide) c)
          refine lv_iinc (v := iZ (i + 1)) (lv' := [(2, .int (iZ (i + 1))), (3, .int (iZ (-1))), (0, .ref hn1), (1, .int (iZ a))]) hx hb dX2_tellOn_109 hl (k := 1) rfl (iZ_add i 1) (by decide) rfl (fun ls hl => ?_)
          refine lv_goto (tgt := 2) hx hb dX2_tellOn_112 rfl ?_
          exact ih1  r2 _ _ _ _ _ _ (by omega) rtr2 hbr2 (by omega) (by omega) rgk2 rgt2 (va_P.subT (pre := [(hn1, .inr (2, [.ref hs, .ref h, .ref kn, .ref te, .ref ho, .ref co])), (h, .inr (3, [.ref hs, .long r2.op, r2.vA, r2.vL])), (kn, .inl (k 1, 6, .inl k2)), (te, .inl (k 1, 6, .inl t2)), (hs, .inr (5, fs)), (hf, .inl (k 1, 36, .inl f)), (hg, .inl (k 1, 32, .inl g))]) (pre' := [(hn1, .inr (2, [.ref hs, .ref h, .ref kn, .ref te, .ref ho, .ref co])), (h, .inr (3, [.ref hs, .long r2.op, r2.vA, r2.vL])), (kn, .inl (k 1, 6, .inl k2)), (te, .inl (k 1, 6, .inl t2)), (hs, .inr (5, fs)), (hf, .inl (k 1, 36, .inl f)), (hg, .inl (k 1, 32, .inl g))]) (tl := r2.tl) hP [0, 1, 2, 3, 4, 5, 6] rfl) (va_D.subT (pre := [(hn1, .inr (2, [.ref hs, .ref h, .ref kn, .ref te, .ref ho, .ref co])), (h, .inr (3, [.ref hs, .long r2.op, r2.vA, r2.vL])), (kn, .inl (k 1, 6, .inl k2)), (te, .inl (k 1, 6, .inl t2)), (hs, .inr (5, fs)), (hf, .inl (k 1, 36, .inl f)), (hg, .inl (k 1, 32, .inl g))]) (pre' := [(hn1, .inr (2, [.ref hs, .ref h, .ref kn, .ref te, .ref ho, .ref co])), (h, .inr (3, [.ref hs, .long r2.op, r2.vA, r2.vL])), (kn, .inl (k 1, 6, .inl k2)), (te, .inl (k 1, 6, .inl t2)), (hs, .inr (5, fs)), (hf, .inl (k 1, 36, .inl f)), (hg, .inl (k 1, 32, .inl g))]) (tl := r2.tl) hD [0, 1, 2, 3, 4, 5, 6] rfl rfl) hS (lv_sub hl [0, 2, 3] rfl)
  exact HL1 8 r0 _ _ _ _ _ _ (by omega) hRT (fun h => h) (by omega) (by omega) rgk rgt (va_P.subT (pre := [(hn1, .inr (2, [.ref hs, .ref h, .ref kn, .ref te, .ref ho, .ref co])), (h, .inr (3, [.ref hs, .long r0.op, r0.vA, r0.vL])), (kn, .inl (k 1, 6, .inl kf)), (te, .inl (k 1, 6, .inl tf)), (hs, .inr (5, fs)), (hf, .inl (k 1, 36, .inl f)), (hg, .inl (k 1, 32, .inl g))]) (pre' := [(hn1, .inr (2, [.ref hs, .ref h, .ref kn, .ref te, .ref ho, .ref co])), (h, .inr (3, [.ref hs, .long r0.op, r0.vA, r0.vL])), (kn, .inl (k 1, 6, .inl kf)), (te, .inl (k 1, 6, .inl tf)), (hs, .inr (5, fs)), (hf, .inl (k 1, 36, .inl f)), (hg, .inl (k 1, 32, .inl g))]) (tl := r0.tl) hP [0, 1, 2, 3, 4, 5, 6] rfl) (va_D.subT (pre := [(hn1, .inr (2, [.ref hs, .ref h, .ref kn, .ref te, .ref ho, .ref co])), (h, .inr (3, [.ref hs, .long r0.op, r0.vA, r0.vL])), (kn, .inl (k 1, 6, .inl kf)), (te, .inl (k 1, 6, .inl tf)), (hs, .inr (5, fs)), (hf, .inl (k 1, 36, .inl f)), (hg, .inl (k 1, 32, .inl g))]) (pre' := [(hn1, .inr (2, [.ref hs, .ref h, .ref kn, .ref te, .ref ho, .ref co])), (h, .inr (3, [.ref hs, .long r0.op, r0.vA, r0.vL])), (kn, .inl (k 1, 6, .inl kf)), (te, .inl (k 1, 6, .inl tf)), (hs, .inr (5, fs)), (hf, .inl (k 1, 36, .inl f)), (hg, .inl (k 1, 32, .inl g))]) (tl := r0.tl) hD [0, 1, 2, 3, 4, 5, 6] rfl rfl) hS (lv_sub hl [0, 1, 2] rfl)
end
