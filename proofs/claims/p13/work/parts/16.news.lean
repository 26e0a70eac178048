section
theorem qf_X2_24 : Cond.fieldLink RX2 24 "SlowWorlds$News" "sky" "LSlowWorlds$Sky;" ∈ gw := tbt (tb2 (List.mem_of_getElem? (i := 109) rfl)) rfl
theorem iX2 : ∀ w ∈ u_ws RX2 TX2 6, w ∈ gw := by
  intro w hw
  obtain ⟨k, hk, rfl⟩ := List.mem_map.mp hw
  have hk := List.mem_range.mp hk
  match k, hk with
  | 0, _ => exact tbt (tb2 (List.mem_of_getElem? (i := 119) rfl)) rfl
  | 1, _ => exact tbt (tb2 (List.mem_of_getElem? (i := 121) rfl)) rfl
  | 2, _ => exact tbt (tb2 (List.mem_of_getElem? (i := 123) rfl)) rfl
  | 3, _ => exact tbt (tb2 (List.mem_of_getElem? (i := 125) rfl)) rfl
  | 4, _ => exact tbt (tb2 (List.mem_of_getElem? (i := 127) rfl)) rfl
  | 5, _ => exact tbt (tb2 (List.mem_of_getElem? (i := 129) rfl)) rfl
  | (k + 6), hk => exact absurd hk (by omega)
theorem qf_X2_38 : Cond.fieldLink RX2 38 "SlowWorlds$Sky" "rocks" "I" ∈ gw := tbt (tb1 (List.mem_of_getElem? (i := 52) rfl)) rfl
theorem qf_X2_9 : Cond.fieldLink RX2 9 "SlowWorlds$News" "known" "[I" ∈ gw := tbt (tb2 (List.mem_of_getElem? (i := 111) rfl)) rfl
theorem qf_X2_28 : Cond.fieldLink RX2 28 "SlowWorlds$News" "rays" "LSlowWorlds$Rays;" ∈ gw := tbt (tb2 (List.mem_of_getElem? (i := 110) rfl)) rfl
theorem qm_X2_52 : Cond.methodLink RX2 52 yX3_arrival ∈ gw := tbt (tb4 (List.mem_of_getElem? (i := 165) rfl)) rfl
theorem qf_X2_15 : Cond.fieldLink RX2 15 "SlowWorlds$News" "tellers" "[I" ∈ gw := tbt (tb2 (List.mem_of_getElem? (i := 114) rfl)) rfl
def fb_J7_fill_53178_0 : List UInt8 := [0x03, 0x3d, 0x2a, 0xbe, 0x3e, 0x1c, 0x1d, 0xa2, 0x00, 0x0d, 0x2a, 0x1c, 0x1b, 0x4f, 0x84, 0x02, 0x01, 0xa7, 0xff, 0xf4, 0xb1]
theorem fl_J7_fill_53178_0 {p j : Nat} {b : UInt8} (e : p = 0 + j) (h : fb_J7_fill_53178_0[j]? = some b) : cJ7_fill_53178.data.toList[p]? = some b := fq_l (n := 64) (show (cJ7_fill_53178.data.toList.drop 0).take 64 = fb_J7_fill_53178_0 by decide +kernel) e h
theorem dJ7_fill_53178_0 : decode cJ7_fill_53178 0 = .ok (.iconst 0, 1) := fq1_3 (fl_J7_fill_53178_0 (j := 0) rfl rfl)
theorem dJ7_fill_53178_1 : decode cJ7_fill_53178 1 = .ok (.istore_n 2, 1) := fq1_61 (fl_J7_fill_53178_0 (j := 1) rfl rfl)
theorem dJ7_fill_53178_2 : decode cJ7_fill_53178 2 = .ok (.aload_n 0, 1) := fq1_42 (fl_J7_fill_53178_0 (j := 2) rfl rfl)
theorem dJ7_fill_53178_3 : decode cJ7_fill_53178 3 = .ok (.arraylength, 1) := fq1_190 (fl_J7_fill_53178_0 (j := 3) rfl rfl)
theorem dJ7_fill_53178_4 : decode cJ7_fill_53178 4 = .ok (.istore_n 3, 1) := fq1_62 (fl_J7_fill_53178_0 (j := 4) rfl rfl)
theorem dJ7_fill_53178_5 : decode cJ7_fill_53178 5 = .ok (.iload_n 2, 1) := fq1_28 (fl_J7_fill_53178_0 (j := 5) rfl rfl)
theorem dJ7_fill_53178_6 : decode cJ7_fill_53178 6 = .ok (.iload_n 3, 1) := fq1_29 (fl_J7_fill_53178_0 (j := 6) rfl rfl)
theorem dJ7_fill_53178_7 : decode cJ7_fill_53178 7 = .ok (.if_icmp .ge 13, 3) := fq3_162 (fl_J7_fill_53178_0 (j := 7) rfl rfl) (fl_J7_fill_53178_0 (j := 8) rfl rfl) (fl_J7_fill_53178_0 (j := 9) rfl rfl) (s2p rfl (bl rfl))
theorem dJ7_fill_53178_10 : decode cJ7_fill_53178 10 = .ok (.aload_n 0, 1) := fq1_42 (fl_J7_fill_53178_0 (j := 10) rfl rfl)
theorem dJ7_fill_53178_11 : decode cJ7_fill_53178 11 = .ok (.iload_n 2, 1) := fq1_28 (fl_J7_fill_53178_0 (j := 11) rfl rfl)
theorem dJ7_fill_53178_12 : decode cJ7_fill_53178 12 = .ok (.iload_n 1, 1) := fq1_27 (fl_J7_fill_53178_0 (j := 12) rfl rfl)
theorem dJ7_fill_53178_13 : decode cJ7_fill_53178 13 = .ok (.iastore, 1) := fq1_79 (fl_J7_fill_53178_0 (j := 13) rfl rfl)
theorem dJ7_fill_53178_14 : decode cJ7_fill_53178 14 = .ok (.iinc 2 1, 3) := fq3_132 (fl_J7_fill_53178_0 (j := 14) rfl rfl) (fl_J7_fill_53178_0 (j := 15) rfl rfl) (fl_J7_fill_53178_0 (j := 16) rfl rfl) rfl (s1p rfl (bl rfl))
theorem dJ7_fill_53178_17 : decode cJ7_fill_53178 17 = .ok (.goto (-12), 3) := fq3_167 (fl_J7_fill_53178_0 (j := 17) rfl rfl) (fl_J7_fill_53178_0 (j := 18) rfl rfl) (fl_J7_fill_53178_0 (j := 19) rfl rfl) (by decide)
theorem dJ7_fill_53178_20 : decode cJ7_fill_53178 20 = .ok (.return_, 1) := fq1_177 (fl_J7_fill_53178_0 (j := 20) rfl rfl)
def fb_X2_lastToKnow_0 : List UInt8 := [0x03, 0x3c, 0x03, 0x3d, 0x1c, 0x2a, 0xb4, 0x00, 0x18, 0xb4, 0x00, 0x26, 0xa2, 0x00, 0x26, 0x2a, 0xb4, 0x00, 0x09, 0x1c, 0x2e, 0x02, 0xa0, 0x00, 0x05, 0x02, 0xac, 0x2a, 0xb4, 0x00, 0x09, 0x1c, 0x2e, 0x2a, 0xb4, 0x00, 0x09, 0x1b, 0x2e, 0xa4, 0x00, 0x05, 0x1c, 0x3c, 0x84, 0x02, 0x01, 0xa7, 0xff, 0xd5, 0x1b, 0xac]
theorem fl_X2_lastToKnow_0 {p j : Nat} {b : UInt8} (e : p = 0 + j) (h : fb_X2_lastToKnow_0[j]? = some b) : cX2_lastToKnow.data.toList[p]? = some b := fq_l (n := 64) (show (cX2_lastToKnow.data.toList.drop 0).take 64 = fb_X2_lastToKnow_0 by decide +kernel) e h
theorem dX2_lastToKnow_0 : decode cX2_lastToKnow 0 = .ok (.iconst 0, 1) := fq1_3 (fl_X2_lastToKnow_0 (j := 0) rfl rfl)
theorem dX2_lastToKnow_1 : decode cX2_lastToKnow 1 = .ok (.istore_n 1, 1) := fq1_60 (fl_X2_lastToKnow_0 (j := 1) rfl rfl)
theorem dX2_lastToKnow_2 : decode cX2_lastToKnow 2 = .ok (.iconst 0, 1) := fq1_3 (fl_X2_lastToKnow_0 (j := 2) rfl rfl)
theorem dX2_lastToKnow_3 : decode cX2_lastToKnow 3 = .ok (.istore_n 2, 1) := fq1_61 (fl_X2_lastToKnow_0 (j := 3) rfl rfl)
theorem dX2_lastToKnow_4 : decode cX2_lastToKnow 4 = .ok (.iload_n 2, 1) := fq1_28 (fl_X2_lastToKnow_0 (j := 4) rfl rfl)
theorem dX2_lastToKnow_5 : decode cX2_lastToKnow 5 = .ok (.aload_n 0, 1) := fq1_42 (fl_X2_lastToKnow_0 (j := 5) rfl rfl)
theorem dX2_lastToKnow_6 : decode cX2_lastToKnow 6 = .ok (.getfield 24, 3) := fq3_180 (fl_X2_lastToKnow_0 (j := 6) rfl rfl) (fl_X2_lastToKnow_0 (j := 7) rfl rfl) (fl_X2_lastToKnow_0 (j := 8) rfl rfl) rfl
theorem dX2_lastToKnow_9 : decode cX2_lastToKnow 9 = .ok (.getfield 38, 3) := fq3_180 (fl_X2_lastToKnow_0 (j := 9) rfl rfl) (fl_X2_lastToKnow_0 (j := 10) rfl rfl) (fl_X2_lastToKnow_0 (j := 11) rfl rfl) rfl
theorem dX2_lastToKnow_12 : decode cX2_lastToKnow 12 = .ok (.if_icmp .ge 38, 3) := fq3_162 (fl_X2_lastToKnow_0 (j := 12) rfl rfl) (fl_X2_lastToKnow_0 (j := 13) rfl rfl) (fl_X2_lastToKnow_0 (j := 14) rfl rfl) (s2p rfl (bl rfl))
theorem dX2_lastToKnow_15 : decode cX2_lastToKnow 15 = .ok (.aload_n 0, 1) := fq1_42 (fl_X2_lastToKnow_0 (j := 15) rfl rfl)
theorem dX2_lastToKnow_16 : decode cX2_lastToKnow 16 = .ok (.getfield 9, 3) := fq3_180 (fl_X2_lastToKnow_0 (j := 16) rfl rfl) (fl_X2_lastToKnow_0 (j := 17) rfl rfl) (fl_X2_lastToKnow_0 (j := 18) rfl rfl) rfl
theorem dX2_lastToKnow_19 : decode cX2_lastToKnow 19 = .ok (.iload_n 2, 1) := fq1_28 (fl_X2_lastToKnow_0 (j := 19) rfl rfl)
theorem dX2_lastToKnow_20 : decode cX2_lastToKnow 20 = .ok (.iaload, 1) := fq1_46 (fl_X2_lastToKnow_0 (j := 20) rfl rfl)
theorem dX2_lastToKnow_21 : decode cX2_lastToKnow 21 = .ok (.iconst (-1), 1) := fq1_2 (fl_X2_lastToKnow_0 (j := 21) rfl rfl)
theorem dX2_lastToKnow_22 : decode cX2_lastToKnow 22 = .ok (.if_icmp .ne 5, 3) := fq3_160 (fl_X2_lastToKnow_0 (j := 22) rfl rfl) (fl_X2_lastToKnow_0 (j := 23) rfl rfl) (fl_X2_lastToKnow_0 (j := 24) rfl rfl) (s2p rfl (bl rfl))
theorem dX2_lastToKnow_25 : decode cX2_lastToKnow 25 = .ok (.iconst (-1), 1) := fq1_2 (fl_X2_lastToKnow_0 (j := 25) rfl rfl)
theorem dX2_lastToKnow_26 : decode cX2_lastToKnow 26 = .ok (.ireturn, 1) := fq1_172 (fl_X2_lastToKnow_0 (j := 26) rfl rfl)
theorem dX2_lastToKnow_27 : decode cX2_lastToKnow 27 = .ok (.aload_n 0, 1) := fq1_42 (fl_X2_lastToKnow_0 (j := 27) rfl rfl)
theorem dX2_lastToKnow_28 : decode cX2_lastToKnow 28 = .ok (.getfield 9, 3) := fq3_180 (fl_X2_lastToKnow_0 (j := 28) rfl rfl) (fl_X2_lastToKnow_0 (j := 29) rfl rfl) (fl_X2_lastToKnow_0 (j := 30) rfl rfl) rfl
theorem dX2_lastToKnow_31 : decode cX2_lastToKnow 31 = .ok (.iload_n 2, 1) := fq1_28 (fl_X2_lastToKnow_0 (j := 31) rfl rfl)
theorem dX2_lastToKnow_32 : decode cX2_lastToKnow 32 = .ok (.iaload, 1) := fq1_46 (fl_X2_lastToKnow_0 (j := 32) rfl rfl)
theorem dX2_lastToKnow_33 : decode cX2_lastToKnow 33 = .ok (.aload_n 0, 1) := fq1_42 (fl_X2_lastToKnow_0 (j := 33) rfl rfl)
theorem dX2_lastToKnow_34 : decode cX2_lastToKnow 34 = .ok (.getfield 9, 3) := fq3_180 (fl_X2_lastToKnow_0 (j := 34) rfl rfl) (fl_X2_lastToKnow_0 (j := 35) rfl rfl) (fl_X2_lastToKnow_0 (j := 36) rfl rfl) rfl
theorem dX2_lastToKnow_37 : decode cX2_lastToKnow 37 = .ok (.iload_n 1, 1) := fq1_27 (fl_X2_lastToKnow_0 (j := 37) rfl rfl)
theorem dX2_lastToKnow_38 : decode cX2_lastToKnow 38 = .ok (.iaload, 1) := fq1_46 (fl_X2_lastToKnow_0 (j := 38) rfl rfl)
theorem dX2_lastToKnow_39 : decode cX2_lastToKnow 39 = .ok (.if_icmp .le 5, 3) := fq3_164 (fl_X2_lastToKnow_0 (j := 39) rfl rfl) (fl_X2_lastToKnow_0 (j := 40) rfl rfl) (fl_X2_lastToKnow_0 (j := 41) rfl rfl) (s2p rfl (bl rfl))
theorem dX2_lastToKnow_42 : decode cX2_lastToKnow 42 = .ok (.iload_n 2, 1) := fq1_28 (fl_X2_lastToKnow_0 (j := 42) rfl rfl)
theorem dX2_lastToKnow_43 : decode cX2_lastToKnow 43 = .ok (.istore_n 1, 1) := fq1_60 (fl_X2_lastToKnow_0 (j := 43) rfl rfl)
theorem dX2_lastToKnow_44 : decode cX2_lastToKnow 44 = .ok (.iinc 2 1, 3) := fq3_132 (fl_X2_lastToKnow_0 (j := 44) rfl rfl) (fl_X2_lastToKnow_0 (j := 45) rfl rfl) (fl_X2_lastToKnow_0 (j := 46) rfl rfl) rfl (s1p rfl (bl rfl))
theorem dX2_lastToKnow_47 : decode cX2_lastToKnow 47 = .ok (.goto (-43), 3) := fq3_167 (fl_X2_lastToKnow_0 (j := 47) rfl rfl) (fl_X2_lastToKnow_0 (j := 48) rfl rfl) (fl_X2_lastToKnow_0 (j := 49) rfl rfl) (by decide)
theorem dX2_lastToKnow_50 : decode cX2_lastToKnow 50 = .ok (.iload_n 1, 1) := fq1_27 (fl_X2_lastToKnow_0 (j := 50) rfl rfl)
theorem dX2_lastToKnow_51 : decode cX2_lastToKnow 51 = .ok (.ireturn, 1) := fq1_172 (fl_X2_lastToKnow_0 (j := 51) rfl rfl)
def fb_X2_soonest_0 : List UInt8 := [0x02, 0x3d, 0x03, 0x3e, 0x1d, 0x2a, 0xb4, 0x00, 0x18, 0xb4, 0x00, 0x26, 0xa2, 0x00, 0x3d, 0x2a, 0xb4, 0x00, 0x09, 0x1d, 0x2e, 0x02, 0x9f, 0x00, 0x0f, 0x1b, 0x1d, 0x7a, 0x04, 0x7e, 0x9a, 0x00, 0x07, 0x04, 0xa7, 0x00, 0x04, 0x03, 0x36, 0x04, 0x15, 0x04, 0x99, 0x00, 0x19, 0x1c, 0x02, 0x9f, 0x00, 0x12, 0x2a, 0xb4, 0x00, 0x09, 0x1d, 0x2e, 0x2a, 0xb4, 0x00, 0x09, 0x1c, 0x2e, 0xa2, 0x00]
theorem fl_X2_soonest_0 {p j : Nat} {b : UInt8} (e : p = 0 + j) (h : fb_X2_soonest_0[j]? = some b) : cX2_soonest.data.toList[p]? = some b := fq_l (n := 64) (show (cX2_soonest.data.toList.drop 0).take 64 = fb_X2_soonest_0 by decide +kernel) e h
theorem dX2_soonest_0 : decode cX2_soonest 0 = .ok (.iconst (-1), 1) := fq1_2 (fl_X2_soonest_0 (j := 0) rfl rfl)
theorem dX2_soonest_1 : decode cX2_soonest 1 = .ok (.istore_n 2, 1) := fq1_61 (fl_X2_soonest_0 (j := 1) rfl rfl)
theorem dX2_soonest_2 : decode cX2_soonest 2 = .ok (.iconst 0, 1) := fq1_3 (fl_X2_soonest_0 (j := 2) rfl rfl)
theorem dX2_soonest_3 : decode cX2_soonest 3 = .ok (.istore_n 3, 1) := fq1_62 (fl_X2_soonest_0 (j := 3) rfl rfl)
theorem dX2_soonest_4 : decode cX2_soonest 4 = .ok (.iload_n 3, 1) := fq1_29 (fl_X2_soonest_0 (j := 4) rfl rfl)
theorem dX2_soonest_5 : decode cX2_soonest 5 = .ok (.aload_n 0, 1) := fq1_42 (fl_X2_soonest_0 (j := 5) rfl rfl)
theorem dX2_soonest_6 : decode cX2_soonest 6 = .ok (.getfield 24, 3) := fq3_180 (fl_X2_soonest_0 (j := 6) rfl rfl) (fl_X2_soonest_0 (j := 7) rfl rfl) (fl_X2_soonest_0 (j := 8) rfl rfl) rfl
theorem dX2_soonest_9 : decode cX2_soonest 9 = .ok (.getfield 38, 3) := fq3_180 (fl_X2_soonest_0 (j := 9) rfl rfl) (fl_X2_soonest_0 (j := 10) rfl rfl) (fl_X2_soonest_0 (j := 11) rfl rfl) rfl
theorem dX2_soonest_12 : decode cX2_soonest 12 = .ok (.if_icmp .ge 61, 3) := fq3_162 (fl_X2_soonest_0 (j := 12) rfl rfl) (fl_X2_soonest_0 (j := 13) rfl rfl) (fl_X2_soonest_0 (j := 14) rfl rfl) (s2p rfl (bl rfl))
theorem dX2_soonest_15 : decode cX2_soonest 15 = .ok (.aload_n 0, 1) := fq1_42 (fl_X2_soonest_0 (j := 15) rfl rfl)
theorem dX2_soonest_16 : decode cX2_soonest 16 = .ok (.getfield 9, 3) := fq3_180 (fl_X2_soonest_0 (j := 16) rfl rfl) (fl_X2_soonest_0 (j := 17) rfl rfl) (fl_X2_soonest_0 (j := 18) rfl rfl) rfl
theorem dX2_soonest_19 : decode cX2_soonest 19 = .ok (.iload_n 3, 1) := fq1_29 (fl_X2_soonest_0 (j := 19) rfl rfl)
theorem dX2_soonest_20 : decode cX2_soonest 20 = .ok (.iaload, 1) := fq1_46 (fl_X2_soonest_0 (j := 20) rfl rfl)
theorem dX2_soonest_21 : decode cX2_soonest 21 = .ok (.iconst (-1), 1) := fq1_2 (fl_X2_soonest_0 (j := 21) rfl rfl)
theorem dX2_soonest_22 : decode cX2_soonest 22 = .ok (.if_icmp .eq 15, 3) := fq3_159 (fl_X2_soonest_0 (j := 22) rfl rfl) (fl_X2_soonest_0 (j := 23) rfl rfl) (fl_X2_soonest_0 (j := 24) rfl rfl) (s2p rfl (bl rfl))
theorem dX2_soonest_25 : decode cX2_soonest 25 = .ok (.iload_n 1, 1) := fq1_27 (fl_X2_soonest_0 (j := 25) rfl rfl)
theorem dX2_soonest_26 : decode cX2_soonest 26 = .ok (.iload_n 3, 1) := fq1_29 (fl_X2_soonest_0 (j := 26) rfl rfl)
theorem dX2_soonest_27 : decode cX2_soonest 27 = .ok (.ishr, 1) := fq1_122 (fl_X2_soonest_0 (j := 27) rfl rfl)
theorem dX2_soonest_28 : decode cX2_soonest 28 = .ok (.iconst 1, 1) := fq1_4 (fl_X2_soonest_0 (j := 28) rfl rfl)
theorem dX2_soonest_29 : decode cX2_soonest 29 = .ok (.iand, 1) := fq1_126 (fl_X2_soonest_0 (j := 29) rfl rfl)
theorem dX2_soonest_30 : decode cX2_soonest 30 = .ok (.ifCond .ne 7, 3) := fq3_154 (fl_X2_soonest_0 (j := 30) rfl rfl) (fl_X2_soonest_0 (j := 31) rfl rfl) (fl_X2_soonest_0 (j := 32) rfl rfl) (s2p rfl (bl rfl))
theorem dX2_soonest_33 : decode cX2_soonest 33 = .ok (.iconst 1, 1) := fq1_4 (fl_X2_soonest_0 (j := 33) rfl rfl)
theorem dX2_soonest_34 : decode cX2_soonest 34 = .ok (.goto 4, 3) := fq3_167 (fl_X2_soonest_0 (j := 34) rfl rfl) (fl_X2_soonest_0 (j := 35) rfl rfl) (fl_X2_soonest_0 (j := 36) rfl rfl) (s2p rfl (bl rfl))
theorem dX2_soonest_37 : decode cX2_soonest 37 = .ok (.iconst 0, 1) := fq1_3 (fl_X2_soonest_0 (j := 37) rfl rfl)
theorem dX2_soonest_38 : decode cX2_soonest 38 = .ok (.istore 4, 2) := fq2_54 (fl_X2_soonest_0 (j := 38) rfl rfl) (fl_X2_soonest_0 (j := 39) rfl rfl) rfl
theorem dX2_soonest_40 : decode cX2_soonest 40 = .ok (.iload 4, 2) := fq2_21 (fl_X2_soonest_0 (j := 40) rfl rfl) (fl_X2_soonest_0 (j := 41) rfl rfl) rfl
theorem dX2_soonest_42 : decode cX2_soonest 42 = .ok (.ifCond .eq 25, 3) := fq3_153 (fl_X2_soonest_0 (j := 42) rfl rfl) (fl_X2_soonest_0 (j := 43) rfl rfl) (fl_X2_soonest_0 (j := 44) rfl rfl) (s2p rfl (bl rfl))
theorem dX2_soonest_45 : decode cX2_soonest 45 = .ok (.iload_n 2, 1) := fq1_28 (fl_X2_soonest_0 (j := 45) rfl rfl)
theorem dX2_soonest_46 : decode cX2_soonest 46 = .ok (.iconst (-1), 1) := fq1_2 (fl_X2_soonest_0 (j := 46) rfl rfl)
theorem dX2_soonest_47 : decode cX2_soonest 47 = .ok (.if_icmp .eq 18, 3) := fq3_159 (fl_X2_soonest_0 (j := 47) rfl rfl) (fl_X2_soonest_0 (j := 48) rfl rfl) (fl_X2_soonest_0 (j := 49) rfl rfl) (s2p rfl (bl rfl))
theorem dX2_soonest_50 : decode cX2_soonest 50 = .ok (.aload_n 0, 1) := fq1_42 (fl_X2_soonest_0 (j := 50) rfl rfl)
theorem dX2_soonest_51 : decode cX2_soonest 51 = .ok (.getfield 9, 3) := fq3_180 (fl_X2_soonest_0 (j := 51) rfl rfl) (fl_X2_soonest_0 (j := 52) rfl rfl) (fl_X2_soonest_0 (j := 53) rfl rfl) rfl
theorem dX2_soonest_54 : decode cX2_soonest 54 = .ok (.iload_n 3, 1) := fq1_29 (fl_X2_soonest_0 (j := 54) rfl rfl)
theorem dX2_soonest_55 : decode cX2_soonest 55 = .ok (.iaload, 1) := fq1_46 (fl_X2_soonest_0 (j := 55) rfl rfl)
theorem dX2_soonest_56 : decode cX2_soonest 56 = .ok (.aload_n 0, 1) := fq1_42 (fl_X2_soonest_0 (j := 56) rfl rfl)
theorem dX2_soonest_57 : decode cX2_soonest 57 = .ok (.getfield 9, 3) := fq3_180 (fl_X2_soonest_0 (j := 57) rfl rfl) (fl_X2_soonest_0 (j := 58) rfl rfl) (fl_X2_soonest_0 (j := 59) rfl rfl) rfl
theorem dX2_soonest_60 : decode cX2_soonest 60 = .ok (.iload_n 2, 1) := fq1_28 (fl_X2_soonest_0 (j := 60) rfl rfl)
theorem dX2_soonest_61 : decode cX2_soonest 61 = .ok (.iaload, 1) := fq1_46 (fl_X2_soonest_0 (j := 61) rfl rfl)
def fb_X2_soonest_1 : List UInt8 := [0x05, 0x1d, 0x3d, 0x84, 0x03, 0x01, 0xa7, 0xff, 0xbe, 0x1c, 0xac]
theorem fl_X2_soonest_1 {p j : Nat} {b : UInt8} (e : p = 64 + j) (h : fb_X2_soonest_1[j]? = some b) : cX2_soonest.data.toList[p]? = some b := fq_l (n := 64) (show (cX2_soonest.data.toList.drop 64).take 64 = fb_X2_soonest_1 by decide +kernel) e h
theorem dX2_soonest_62 : decode cX2_soonest 62 = .ok (.if_icmp .ge 5, 3) := fq3_162 (fl_X2_soonest_0 (j := 62) rfl rfl) (fl_X2_soonest_0 (j := 63) rfl rfl) (fl_X2_soonest_1 (j := 0) rfl rfl) (s2p rfl (bl rfl))
theorem dX2_soonest_65 : decode cX2_soonest 65 = .ok (.iload_n 3, 1) := fq1_29 (fl_X2_soonest_1 (j := 1) rfl rfl)
theorem dX2_soonest_66 : decode cX2_soonest 66 = .ok (.istore_n 2, 1) := fq1_61 (fl_X2_soonest_1 (j := 2) rfl rfl)
theorem dX2_soonest_67 : decode cX2_soonest 67 = .ok (.iinc 3 1, 3) := fq3_132 (fl_X2_soonest_1 (j := 3) rfl rfl) (fl_X2_soonest_1 (j := 4) rfl rfl) (fl_X2_soonest_1 (j := 5) rfl rfl) rfl (s1p rfl (bl rfl))
theorem dX2_soonest_70 : decode cX2_soonest 70 = .ok (.goto (-66), 3) := fq3_167 (fl_X2_soonest_1 (j := 6) rfl rfl) (fl_X2_soonest_1 (j := 7) rfl rfl) (fl_X2_soonest_1 (j := 8) rfl rfl) (by decide)
theorem dX2_soonest_73 : decode cX2_soonest 73 = .ok (.iload_n 2, 1) := fq1_28 (fl_X2_soonest_1 (j := 9) rfl rfl)
theorem dX2_soonest_74 : decode cX2_soonest 74 = .ok (.ireturn, 1) := fq1_172 (fl_X2_soonest_1 (j := 10) rfl rfl)
def fb_X2_tellOn_0 : List UInt8 := [0x03, 0x3d, 0x1c, 0x2a, 0xb4, 0x00, 0x18, 0xb4, 0x00, 0x26, 0xa2, 0x00, 0x69, 0x1c, 0x1b, 0xa0, 0x00, 0x07, 0x02, 0xa7, 0x00, 0x12, 0x2a, 0xb4, 0x00, 0x1c, 0x1b, 0x2a, 0xb4, 0x00, 0x09, 0x1b, 0x2e, 0x1c, 0xb6, 0x00, 0x34, 0x3e, 0x1d, 0x02, 0x9f, 0x00, 0x45, 0x2a, 0xb4, 0x00, 0x09, 0x1c, 0x2e, 0x02, 0x9f, 0x00, 0x0d, 0x1d, 0x2a, 0xb4, 0x00, 0x09, 0x1c, 0x2e, 0xa2, 0x00, 0x07, 0x04]
theorem fl_X2_tellOn_0 {p j : Nat} {b : UInt8} (e : p = 0 + j) (h : fb_X2_tellOn_0[j]? = some b) : cX2_tellOn.data.toList[p]? = some b := fq_l (n := 64) (show (cX2_tellOn.data.toList.drop 0).take 64 = fb_X2_tellOn_0 by decide +kernel) e h
theorem dX2_tellOn_0 : decode cX2_tellOn 0 = .ok (.iconst 0, 1) := fq1_3 (fl_X2_tellOn_0 (j := 0) rfl rfl)
theorem dX2_tellOn_1 : decode cX2_tellOn 1 = .ok (.istore_n 2, 1) := fq1_61 (fl_X2_tellOn_0 (j := 1) rfl rfl)
theorem dX2_tellOn_2 : decode cX2_tellOn 2 = .ok (.iload_n 2, 1) := fq1_28 (fl_X2_tellOn_0 (j := 2) rfl rfl)
theorem dX2_tellOn_3 : decode cX2_tellOn 3 = .ok (.aload_n 0, 1) := fq1_42 (fl_X2_tellOn_0 (j := 3) rfl rfl)
theorem dX2_tellOn_4 : decode cX2_tellOn 4 = .ok (.getfield 24, 3) := fq3_180 (fl_X2_tellOn_0 (j := 4) rfl rfl) (fl_X2_tellOn_0 (j := 5) rfl rfl) (fl_X2_tellOn_0 (j := 6) rfl rfl) rfl
theorem dX2_tellOn_7 : decode cX2_tellOn 7 = .ok (.getfield 38, 3) := fq3_180 (fl_X2_tellOn_0 (j := 7) rfl rfl) (fl_X2_tellOn_0 (j := 8) rfl rfl) (fl_X2_tellOn_0 (j := 9) rfl rfl) rfl
theorem dX2_tellOn_10 : decode cX2_tellOn 10 = .ok (.if_icmp .ge 105, 3) := fq3_162 (fl_X2_tellOn_0 (j := 10) rfl rfl) (fl_X2_tellOn_0 (j := 11) rfl rfl) (fl_X2_tellOn_0 (j := 12) rfl rfl) (s2p rfl (bl rfl))
theorem dX2_tellOn_13 : decode cX2_tellOn 13 = .ok (.iload_n 2, 1) := fq1_28 (fl_X2_tellOn_0 (j := 13) rfl rfl)
theorem dX2_tellOn_14 : decode cX2_tellOn 14 = .ok (.iload_n 1, 1) := fq1_27 (fl_X2_tellOn_0 (j := 14) rfl rfl)
theorem dX2_tellOn_15 : decode cX2_tellOn 15 = .ok (.if_icmp .ne 7, 3) := fq3_160 (fl_X2_tellOn_0 (j := 15) rfl rfl) (fl_X2_tellOn_0 (j := 16) rfl rfl) (fl_X2_tellOn_0 (j := 17) rfl rfl) (s2p rfl (bl rfl))
theorem dX2_tellOn_18 : decode cX2_tellOn 18 = .ok (.iconst (-1), 1) := fq1_2 (fl_X2_tellOn_0 (j := 18) rfl rfl)
theorem dX2_tellOn_19 : decode cX2_tellOn 19 = .ok (.goto 18, 3) := fq3_167 (fl_X2_tellOn_0 (j := 19) rfl rfl) (fl_X2_tellOn_0 (j := 20) rfl rfl) (fl_X2_tellOn_0 (j := 21) rfl rfl) (s2p rfl (bl rfl))
theorem dX2_tellOn_22 : decode cX2_tellOn 22 = .ok (.aload_n 0, 1) := fq1_42 (fl_X2_tellOn_0 (j := 22) rfl rfl)
theorem dX2_tellOn_23 : decode cX2_tellOn 23 = .ok (.getfield 28, 3) := fq3_180 (fl_X2_tellOn_0 (j := 23) rfl rfl) (fl_X2_tellOn_0 (j := 24) rfl rfl) (fl_X2_tellOn_0 (j := 25) rfl rfl) rfl
theorem dX2_tellOn_26 : decode cX2_tellOn 26 = .ok (.iload_n 1, 1) := fq1_27 (fl_X2_tellOn_0 (j := 26) rfl rfl)
theorem dX2_tellOn_27 : decode cX2_tellOn 27 = .ok (.aload_n 0, 1) := fq1_42 (fl_X2_tellOn_0 (j := 27) rfl rfl)
theorem dX2_tellOn_28 : decode cX2_tellOn 28 = .ok (.getfield 9, 3) := fq3_180 (fl_X2_tellOn_0 (j := 28) rfl rfl) (fl_X2_tellOn_0 (j := 29) rfl rfl) (fl_X2_tellOn_0 (j := 30) rfl rfl) rfl
theorem dX2_tellOn_31 : decode cX2_tellOn 31 = .ok (.iload_n 1, 1) := fq1_27 (fl_X2_tellOn_0 (j := 31) rfl rfl)
theorem dX2_tellOn_32 : decode cX2_tellOn 32 = .ok (.iaload, 1) := fq1_46 (fl_X2_tellOn_0 (j := 32) rfl rfl)
theorem dX2_tellOn_33 : decode cX2_tellOn 33 = .ok (.iload_n 2, 1) := fq1_28 (fl_X2_tellOn_0 (j := 33) rfl rfl)
theorem dX2_tellOn_34 : decode cX2_tellOn 34 = .ok (.invokevirtual 52, 3) := fq3_182 (fl_X2_tellOn_0 (j := 34) rfl rfl) (fl_X2_tellOn_0 (j := 35) rfl rfl) (fl_X2_tellOn_0 (j := 36) rfl rfl) rfl
theorem dX2_tellOn_37 : decode cX2_tellOn 37 = .ok (.istore_n 3, 1) := fq1_62 (fl_X2_tellOn_0 (j := 37) rfl rfl)
theorem dX2_tellOn_38 : decode cX2_tellOn 38 = .ok (.iload_n 3, 1) := fq1_29 (fl_X2_tellOn_0 (j := 38) rfl rfl)
theorem dX2_tellOn_39 : decode cX2_tellOn 39 = .ok (.iconst (-1), 1) := fq1_2 (fl_X2_tellOn_0 (j := 39) rfl rfl)
theorem dX2_tellOn_40 : decode cX2_tellOn 40 = .ok (.if_icmp .eq 69, 3) := fq3_159 (fl_X2_tellOn_0 (j := 40) rfl rfl) (fl_X2_tellOn_0 (j := 41) rfl rfl) (fl_X2_tellOn_0 (j := 42) rfl rfl) (s2p rfl (bl rfl))
theorem dX2_tellOn_43 : decode cX2_tellOn 43 = .ok (.aload_n 0, 1) := fq1_42 (fl_X2_tellOn_0 (j := 43) rfl rfl)
theorem dX2_tellOn_44 : decode cX2_tellOn 44 = .ok (.getfield 9, 3) := fq3_180 (fl_X2_tellOn_0 (j := 44) rfl rfl) (fl_X2_tellOn_0 (j := 45) rfl rfl) (fl_X2_tellOn_0 (j := 46) rfl rfl) rfl
theorem dX2_tellOn_47 : decode cX2_tellOn 47 = .ok (.iload_n 2, 1) := fq1_28 (fl_X2_tellOn_0 (j := 47) rfl rfl)
theorem dX2_tellOn_48 : decode cX2_tellOn 48 = .ok (.iaload, 1) := fq1_46 (fl_X2_tellOn_0 (j := 48) rfl rfl)
theorem dX2_tellOn_49 : decode cX2_tellOn 49 = .ok (.iconst (-1), 1) := fq1_2 (fl_X2_tellOn_0 (j := 49) rfl rfl)
theorem dX2_tellOn_50 : decode cX2_tellOn 50 = .ok (.if_icmp .eq 13, 3) := fq3_159 (fl_X2_tellOn_0 (j := 50) rfl rfl) (fl_X2_tellOn_0 (j := 51) rfl rfl) (fl_X2_tellOn_0 (j := 52) rfl rfl) (s2p rfl (bl rfl))
theorem dX2_tellOn_53 : decode cX2_tellOn 53 = .ok (.iload_n 3, 1) := fq1_29 (fl_X2_tellOn_0 (j := 53) rfl rfl)
theorem dX2_tellOn_54 : decode cX2_tellOn 54 = .ok (.aload_n 0, 1) := fq1_42 (fl_X2_tellOn_0 (j := 54) rfl rfl)
theorem dX2_tellOn_55 : decode cX2_tellOn 55 = .ok (.getfield 9, 3) := fq3_180 (fl_X2_tellOn_0 (j := 55) rfl rfl) (fl_X2_tellOn_0 (j := 56) rfl rfl) (fl_X2_tellOn_0 (j := 57) rfl rfl) rfl
theorem dX2_tellOn_58 : decode cX2_tellOn 58 = .ok (.iload_n 2, 1) := fq1_28 (fl_X2_tellOn_0 (j := 58) rfl rfl)
theorem dX2_tellOn_59 : decode cX2_tellOn 59 = .ok (.iaload, 1) := fq1_46 (fl_X2_tellOn_0 (j := 59) rfl rfl)
theorem dX2_tellOn_60 : decode cX2_tellOn 60 = .ok (.if_icmp .ge 7, 3) := fq3_162 (fl_X2_tellOn_0 (j := 60) rfl rfl) (fl_X2_tellOn_0 (j := 61) rfl rfl) (fl_X2_tellOn_0 (j := 62) rfl rfl) (s2p rfl (bl rfl))
theorem dX2_tellOn_63 : decode cX2_tellOn 63 = .ok (.iconst 1, 1) := fq1_4 (fl_X2_tellOn_0 (j := 63) rfl rfl)
def fb_X2_tellOn_1 : List UInt8 := [0xa7, 0x00, 0x04, 0x03, 0x36, 0x04, 0x15, 0x04, 0x9a, 0x00, 0x17, 0x1d, 0x2a, 0xb4, 0x00, 0x09, 0x1c, 0x2e, 0xa0, 0x00, 0x1b, 0x1b, 0x2a, 0xb4, 0x00, 0x0f, 0x1c, 0x2e, 0xa2, 0x00, 0x11, 0x2a, 0xb4, 0x00, 0x09, 0x1c, 0x1d, 0x4f, 0x2a, 0xb4, 0x00, 0x0f, 0x1c, 0x1b, 0x4f, 0x84, 0x02, 0x01, 0xa7, 0xff, 0x92, 0xb1]
theorem fl_X2_tellOn_1 {p j : Nat} {b : UInt8} (e : p = 64 + j) (h : fb_X2_tellOn_1[j]? = some b) : cX2_tellOn.data.toList[p]? = some b := fq_l (n := 64) (show (cX2_tellOn.data.toList.drop 64).take 64 = fb_X2_tellOn_1 by decide +kernel) e h
theorem dX2_tellOn_64 : decode cX2_tellOn 64 = .ok (.goto 4, 3) := fq3_167 (fl_X2_tellOn_1 (j := 0) rfl rfl) (fl_X2_tellOn_1 (j := 1) rfl rfl) (fl_X2_tellOn_1 (j := 2) rfl rfl) (s2p rfl (bl rfl))
theorem dX2_tellOn_67 : decode cX2_tellOn 67 = .ok (.iconst 0, 1) := fq1_3 (fl_X2_tellOn_1 (j := 3) rfl rfl)
theorem dX2_tellOn_68 : decode cX2_tellOn 68 = .ok (.istore 4, 2) := fq2_54 (fl_X2_tellOn_1 (j := 4) rfl rfl) (fl_X2_tellOn_1 (j := 5) rfl rfl) rfl
theorem dX2_tellOn_70 : decode cX2_tellOn 70 = .ok (.iload 4, 2) := fq2_21 (fl_X2_tellOn_1 (j := 6) rfl rfl) (fl_X2_tellOn_1 (j := 7) rfl rfl) rfl
theorem dX2_tellOn_72 : decode cX2_tellOn 72 = .ok (.ifCond .ne 23, 3) := fq3_154 (fl_X2_tellOn_1 (j := 8) rfl rfl) (fl_X2_tellOn_1 (j := 9) rfl rfl) (fl_X2_tellOn_1 (j := 10) rfl rfl) (s2p rfl (bl rfl))
theorem dX2_tellOn_75 : decode cX2_tellOn 75 = .ok (.iload_n 3, 1) := fq1_29 (fl_X2_tellOn_1 (j := 11) rfl rfl)
theorem dX2_tellOn_76 : decode cX2_tellOn 76 = .ok (.aload_n 0, 1) := fq1_42 (fl_X2_tellOn_1 (j := 12) rfl rfl)
theorem dX2_tellOn_77 : decode cX2_tellOn 77 = .ok (.getfield 9, 3) := fq3_180 (fl_X2_tellOn_1 (j := 13) rfl rfl) (fl_X2_tellOn_1 (j := 14) rfl rfl) (fl_X2_tellOn_1 (j := 15) rfl rfl) rfl
theorem dX2_tellOn_80 : decode cX2_tellOn 80 = .ok (.iload_n 2, 1) := fq1_28 (fl_X2_tellOn_1 (j := 16) rfl rfl)
theorem dX2_tellOn_81 : decode cX2_tellOn 81 = .ok (.iaload, 1) := fq1_46 (fl_X2_tellOn_1 (j := 17) rfl rfl)
theorem dX2_tellOn_82 : decode cX2_tellOn 82 = .ok (.if_icmp .ne 27, 3) := fq3_160 (fl_X2_tellOn_1 (j := 18) rfl rfl) (fl_X2_tellOn_1 (j := 19) rfl rfl) (fl_X2_tellOn_1 (j := 20) rfl rfl) (s2p rfl (bl rfl))
theorem dX2_tellOn_85 : decode cX2_tellOn 85 = .ok (.iload_n 1, 1) := fq1_27 (fl_X2_tellOn_1 (j := 21) rfl rfl)
theorem dX2_tellOn_86 : decode cX2_tellOn 86 = .ok (.aload_n 0, 1) := fq1_42 (fl_X2_tellOn_1 (j := 22) rfl rfl)
theorem dX2_tellOn_87 : decode cX2_tellOn 87 = .ok (.getfield 15, 3) := fq3_180 (fl_X2_tellOn_1 (j := 23) rfl rfl) (fl_X2_tellOn_1 (j := 24) rfl rfl) (fl_X2_tellOn_1 (j := 25) rfl rfl) rfl
theorem dX2_tellOn_90 : decode cX2_tellOn 90 = .ok (.iload_n 2, 1) := fq1_28 (fl_X2_tellOn_1 (j := 26) rfl rfl)
theorem dX2_tellOn_91 : decode cX2_tellOn 91 = .ok (.iaload, 1) := fq1_46 (fl_X2_tellOn_1 (j := 27) rfl rfl)
theorem dX2_tellOn_92 : decode cX2_tellOn 92 = .ok (.if_icmp .ge 17, 3) := fq3_162 (fl_X2_tellOn_1 (j := 28) rfl rfl) (fl_X2_tellOn_1 (j := 29) rfl rfl) (fl_X2_tellOn_1 (j := 30) rfl rfl) (s2p rfl (bl rfl))
theorem dX2_tellOn_95 : decode cX2_tellOn 95 = .ok (.aload_n 0, 1) := fq1_42 (fl_X2_tellOn_1 (j := 31) rfl rfl)
theorem dX2_tellOn_96 : decode cX2_tellOn 96 = .ok (.getfield 9, 3) := fq3_180 (fl_X2_tellOn_1 (j := 32) rfl rfl) (fl_X2_tellOn_1 (j := 33) rfl rfl) (fl_X2_tellOn_1 (j := 34) rfl rfl) rfl
theorem dX2_tellOn_99 : decode cX2_tellOn 99 = .ok (.iload_n 2, 1) := fq1_28 (fl_X2_tellOn_1 (j := 35) rfl rfl)
theorem dX2_tellOn_100 : decode cX2_tellOn 100 = .ok (.iload_n 3, 1) := fq1_29 (fl_X2_tellOn_1 (j := 36) rfl rfl)
theorem dX2_tellOn_101 : decode cX2_tellOn 101 = .ok (.iastore, 1) := fq1_79 (fl_X2_tellOn_1 (j := 37) rfl rfl)
theorem dX2_tellOn_102 : decode cX2_tellOn 102 = .ok (.aload_n 0, 1) := fq1_42 (fl_X2_tellOn_1 (j := 38) rfl rfl)
theorem dX2_tellOn_103 : decode cX2_tellOn 103 = .ok (.getfield 15, 3) := fq3_180 (fl_X2_tellOn_1 (j := 39) rfl rfl) (fl_X2_tellOn_1 (j := 40) rfl rfl) (fl_X2_tellOn_1 (j := 41) rfl rfl) rfl
theorem dX2_tellOn_106 : decode cX2_tellOn 106 = .ok (.iload_n 2, 1) := fq1_28 (fl_X2_tellOn_1 (j := 42) rfl rfl)
theorem dX2_tellOn_107 : decode cX2_tellOn 107 = .ok (.iload_n 1, 1) := fq1_27 (fl_X2_tellOn_1 (j := 43) rfl rfl)
theorem dX2_tellOn_108 : decode cX2_tellOn 108 = .ok (.iastore, 1) := fq1_79 (fl_X2_tellOn_1 (j := 44) rfl rfl)
theorem dX2_tellOn_109 : decode cX2_tellOn 109 = .ok (.iinc 2 1, 3) := fq3_132 (fl_X2_tellOn_1 (j := 45) rfl rfl) (fl_X2_tellOn_1 (j := 46) rfl rfl) (fl_X2_tellOn_1 (j := 47) rfl rfl) rfl (s1p rfl (bl rfl))
theorem dX2_tellOn_112 : decode cX2_tellOn 112 = .ok (.goto (-110), 3) := fq3_167 (fl_X2_tellOn_1 (j := 48) rfl rfl) (fl_X2_tellOn_1 (j := 49) rfl rfl) (fl_X2_tellOn_1 (j := 50) rfl rfl) (by decide)
theorem dX2_tellOn_115 : decode cX2_tellOn 115 = .ok (.return_, 1) := fq1_177 (fl_X2_tellOn_1 (j := 51) rfl rfl)
end

section
/-- what is sent comes later, or never -/
def later (A : Int → Int → Int → Int) (n : Int) : Prop := ∀ r k o : Int, 0 ≤ r → r < n → 0 ≤ o → o < n → ¬ r = o → 0 ≤ k → k < 1000000 → k < A r k o ∧ A r k o ≤ 1000000
/-- the NEWS of a rock x in a week w: K when a rock knows it, L who told it, B over how many -/
def isNW (A : Int → Int → Int → Int) (n x w : Int) (K L B : Int → Int) : Prop := (K x = w ∧ L x = -1 ∧ B x = 0) ∧ (∀ o : Int, 0 ≤ o → o < n → 0 ≤ K o ∧ K o ≤ 1000000) ∧ (∀ o : Int, 0 ≤ o → o < n → ¬ o = x → (K o = 1000000 ∧ L o = -1) ∨ (K o < 1000000 ∧ (0 ≤ L o ∧ L o < n) ∧ ¬ L o = o ∧ K (L o) < 1000000 ∧ A (L o) (K (L o)) o = K o ∧ B o = B (L o) + 1)) ∧ ∀ r o : Int, 0 ≤ r → r < n → 0 ≤ o → o < n → ¬ r = o → ¬ o = x → K r < 1000000 → K o < A r (K r) o ∨ (K o = A r (K r) o ∧ L o ≤ r)
theorem nw_half {A : Int → Int → Int → Int} {n x w t : Int} {K L B K' L' B' : Int → Int} (hA : later A n) (h : isNW A n x w K L B) (h' : isNW A n x w K' L' B') (ih : ∀ o : Int, 0 ≤ o → o < n → (K o < t ∨ K' o < t) → K' o = K o ∧ L' o = L o ∧ B' o = B o) {o : Int} (h0 : 0 ≤ o) (hn : o < n) (hx : ¬ o = x) (ht : K o ≤ t) (hf : K o < 1000000) : K' o = K o ∧ L' o ≤ L o ∧ (0 ≤ L o ∧ L o < n) ∧ K (L o) < t ∧ B o = B (L o) + 1 := by
  rcases h.2.2.1 o h0 hn hx with ⟨a, -⟩ | ⟨-, b, c, d, e, f⟩
  · exact absurd a (by omega)
  · have g := (hA (L o) (K (L o)) o b.1 b.2 h0 hn c (h.2.1 _ b.1 b.2).1 d).1
    have i := ih (L o) b.1 b.2 (Or.inl (by omega))
    have j := h'.2.2.2 (L o) o b.1 b.2 h0 hn c hx (by omega)
    rw [i.1, e] at j
    rcases j with j | ⟨j, j2⟩
    · have k := ih o h0 hn (Or.inr (by omega))
      exact absurd k.1 (by omega)
    · exact ⟨j, j2, b, by omega, f⟩
theorem nw_step {A : Int → Int → Int → Int} {n x w t : Int} {K L B K' L' B' : Int → Int} (hA : later A n) (h : isNW A n x w K L B) (h' : isNW A n x w K' L' B') (ih : ∀ o : Int, 0 ≤ o → o < n → (K o < t ∨ K' o < t) → K' o = K o ∧ L' o = L o ∧ B' o = B o) (ht : t < 1000000) : ∀ o : Int, 0 ≤ o → o < n → (K o < t + 1 ∨ K' o < t + 1) → K' o = K o ∧ L' o = L o ∧ B' o = B o := by
  intro o h0 hn q
  by_cases hx : o = x
  · rw [hx]
    obtain ⟨⟨a1, a2, a3⟩, -⟩ := h
    obtain ⟨⟨b1, b2, b3⟩, -⟩ := h'
    exact ⟨by omega, by omega, by omega⟩
  · have ih2 : ∀ o : Int, 0 ≤ o → o < n → (K' o < t ∨ K o < t) → K o = K' o ∧ L o = L' o ∧ B o = B' o := fun o a b c => ⟨(ih o a b c.symm).1.symm, (ih o a b c.symm).2.1.symm, (ih o a b c.symm).2.2.symm⟩
    have e : K' o = K o := by
      rcases q with q | q
      · exact (nw_half hA h h' ih h0 hn hx (by omega) (by omega)).1
      · exact (nw_half hA h' h ih2 h0 hn hx (by omega) (by omega)).1.symm
    have q1 : K o ≤ t := by rcases q with q | q <;> omega
    obtain ⟨-, a2, a3, a4, a5⟩ := nw_half hA h h' ih h0 hn hx q1 (by omega)
    obtain ⟨-, b2, b3, b4, b5⟩ := nw_half hA h' h ih2 h0 hn hx (by omega) (by omega)
    have l : L' o = L o := by omega
    have i := (ih (L o) a3.1 a3.2 (Or.inl a4)).2.2
    rw [l] at b5
    exact ⟨e, l, by omega⟩
theorem nw_all {A : Int → Int → Int → Int} {n x w : Int} {K L B K' L' B' : Int → Int} (hA : later A n) (h : isNW A n x w K L B) (h' : isNW A n x w K' L' B') (m : Nat) : (m : Int) ≤ 1000000 → ∀ o : Int, 0 ≤ o → o < n → (K o < (m : Int) ∨ K' o < (m : Int)) → K' o = K o ∧ L' o = L o ∧ B' o = B o := by
  induction m with
  | zero =>
    intro _ o a b c
    have p := h.2.1 o a b
    have q := h'.2.1 o a b
    exact absurd c (by omega)
  | succ m ih =>
    intro hm
    exact fun o a b c => nw_step hA h h' (ih (by omega)) (by omega) o a b (by omega)
theorem nw_eq {A : Int → Int → Int → Int} {n x w : Int} {K L B K' L' B' : Int → Int} (hA : later A n) (h : isNW A n x w K L B) (h' : isNW A n x w K' L' B') {o : Int} (a : 0 ≤ o) (b : o < n) : K' o = K o ∧ L' o = L o ∧ (K o < 1000000 → B' o = B o) := by
  have p := h.2.1 o a b
  have q := h'.2.1 o a b
  by_cases c : K o < 1000000 ∨ K' o < 1000000
  · have r := nw_all hA h h' 1000000 (by decide) o a b (by omega)
    exact ⟨r.1, r.2.1, fun _ => r.2.2⟩
  · refine ⟨by omega, ?_, fun d => absurd d (by omega)⟩
    by_cases hx : o = x
    · rw [hx, h.1.2.1, h'.1.2.1]
    · rcases h.2.2.1 o a b hx with ⟨-, l⟩ | ⟨k, -⟩
      · rcases h'.2.2.1 o a b hx with ⟨-, l2⟩ | ⟨k, -⟩
        · rw [l, l2]
        · exact absurd k (by omega)
      · exact absurd k (by omega)
/-- the loops: T who has told it on, p the one that tells it now (-1: none), to those below u already -/
def nwI (A : Int → Int → Int → Int) (n x w : Int) (T : Int → Prop) (p u : Int) (K L B : Int → Int) : Prop := (K x = w ∧ L x = -1 ∧ B x = 0) ∧ (∀ o : Int, 0 ≤ o → o < n → 0 ≤ K o ∧ K o ≤ 1000000) ∧ (∀ o : Int, 0 ≤ o → o < n → ¬ o = x → (K o = 1000000 ∧ L o = -1) ∨ (K o < 1000000 ∧ (0 ≤ L o ∧ L o < n) ∧ T (L o) ∧ ¬ L o = o ∧ A (L o) (K (L o)) o = K o ∧ B o = B (L o) + 1)) ∧ (∀ r : Int, 0 ≤ r → r < n → T r → K r < 1000000) ∧ (∀ r o : Int, 0 ≤ r → r < n → 0 ≤ o → o < n → T r → ¬ T o → K r ≤ K o) ∧ (∀ r : Int, 0 ≤ r → r < n → T r → 0 ≤ p → K r ≤ K p) ∧ (¬ T x → ∀ o : Int, 0 ≤ o → o < n → ¬ o = x → K o = 1000000) ∧ ∀ r o : Int, 0 ≤ r → r < n → 0 ≤ o → o < n → T r → ¬ r = o → ¬ o = x → (r = p → o < u) → K o < A r (K r) o ∨ (K o = A r (K r) o ∧ L o ≤ r)
theorem nwI_0 {A : Int → Int → Int → Int} {n x w : Int} {T : Int → Prop} {K L B : Int → Int} (hw : 0 ≤ w ∧ w < 1000000) (hx : 0 ≤ x ∧ x < n) (hK : ∀ o : Int, 0 ≤ o → o < n → K o = if o = x then w else 1000000) (hL : ∀ o : Int, 0 ≤ o → o < n → L o = -1) (hB : B x = 0) (hT : ∀ r : Int, ¬ T r) : nwI A n x w T (-1) 0 K L B := by
  refine ⟨⟨?_, hL x hx.1 hx.2, hB⟩, fun o a b => ?_, fun o a b c => Or.inl ⟨?_, hL o a b⟩, fun r _ _ t => absurd t (hT r), fun r o _ _ _ _ t => absurd t (hT r), fun r _ _ t => absurd t (hT r), fun _ o a b c => ?_, fun r o _ _ _ _ t => absurd t (hT r)⟩
  · rw [hK x hx.1 hx.2, if_pos rfl]
  · rw [hK o a b]
    by_cases c : o = x
    · rw [if_pos c]; omega
    · rw [if_neg c]; omega
  · rw [hK o a b, if_neg c]
  · rw [hK o a b, if_neg c]
theorem nwI_p {A : Int → Int → Int → Int} {n x w p : Int} {T T' : Int → Prop} {K L B : Int → Int} (h : nwI A n x w T (-1) 0 K L B) (hp : 0 ≤ p ∧ p < n) (np : ¬ T p) (kp : K p < 1000000) (hs : ∀ o : Int, 0 ≤ o → o < n → ¬ T o → K p ≤ K o) (hT : ∀ r : Int, 0 ≤ r → r < n → (T' r ↔ T r ∨ r = p)) (hx : 0 ≤ x ∧ x < n) : nwI A n x w T' p 0 K L B := by
  obtain ⟨h1, h2, h3, h4, h5, -, h7, h8⟩ := h
  refine ⟨h1, h2, fun o a b c => ?_, fun r a b t => ?_, fun r o a b c d t u => ?_, fun r a b t _ => ?_, fun t => h7 (fun q => t ((hT x hx.1 hx.2).mpr (Or.inl q))), fun r o a b c d t e f g => ?_⟩
  · rcases h3 o a b c with q | ⟨q1, q2, q3, q4⟩
    · exact Or.inl q
    · exact Or.inr ⟨q1, q2, (hT _ q2.1 q2.2).mpr (Or.inl q3), q4⟩
  · rcases (hT r a b).mp t with q | q
    · exact h4 r a b q
    · rw [q]; exact kp
  · have v : ¬ T o := fun q => u ((hT o c d).mpr (Or.inl q))
    rcases (hT r a b).mp t with q | q
    · exact h5 r o a b c d q v
    · rw [q]; exact hs o c d v
  · rcases (hT r a b).mp t with q | q
    · exact h5 r p a b hp.1 hp.2 q np
    · rw [q]; exact Int.le_refl _
  · rcases (hT r a b).mp t with q | q
    · exact h8 r o a b c d q e f (fun z => absurd z (by omega))
    · exact absurd (g q) (by omega)
theorem nwI_n {A : Int → Int → Int → Int} {n x w p u : Int} {T : Int → Prop} {K L B : Int → Int} (h : nwI A n x w T p u K L B) (hA : later A n) (hp : 0 ≤ p ∧ p < n) (tp : T p) (hu : 0 ≤ u ∧ u < n) (c : u = p ∨ T u ∨ A p (K p) u = 1000000 ∨ K u < A p (K p) u ∨ (K u = A p (K p) u ∧ L u ≤ p)) : nwI A n x w T p (u + 1) K L B := by
  obtain ⟨h1, h2, h3, h4, h5, h6, h7, h8⟩ := h
  refine ⟨h1, h2, h3, h4, h5, h6, h7, fun r o a b d e t f g i => ?_⟩
  by_cases q : r = p ∧ o = u
  · obtain ⟨rfl, rfl⟩ := q
    have k4 := h4 r a b t
    have k2 := h2 o d e
    have k := hA r (K r) o a b d e f (h2 r a b).1 k4
    rcases c with c | c | c | c | c
    · exact absurd c.symm f
    · have := h6 o d e c a
      exact Or.inl (by omega)
    · rcases h3 o d e g with ⟨m1, m2⟩ | ⟨m1, -⟩
      · exact Or.inr ⟨by omega, by omega⟩
      · exact Or.inl (by omega)
    · exact Or.inl c
    · exact Or.inr c
  · exact h8 r o a b d e t f g (fun z => by have := i z; omega)
theorem nwI_u {A : Int → Int → Int → Int} {n x w p u : Int} {T : Int → Prop} {K L B K' L' B' : Int → Int} (h : nwI A n x w T p u K L B) (hA : later A n) (hx : 0 ≤ x ∧ x < n) (hp : 0 ≤ p ∧ p < n) (tp : T p) (hu : 0 ≤ u ∧ u < n) (nt : ¬ T u) (a : A p (K p) u < 1000000) (c : A p (K p) u < K u ∨ (A p (K p) u = K u ∧ p ≤ L u)) (hK : ∀ o : Int, 0 ≤ o → o < n → K' o = if o = u then A p (K p) u else K o) (hL : ∀ o : Int, 0 ≤ o → o < n → L' o = if o = u then p else L o) (hB : ∀ o : Int, 0 ≤ o → o < n → B' o = if o = u then B p + 1 else B o) : nwI A n x w T p (u + 1) K' L' B' := by
  obtain ⟨h1, h2, h3, h4, h5, h6, h7, h8⟩ := h
  have pu : ¬ p = u := fun e => nt (e ▸ tp)
  have kp := h4 p hp.1 hp.2 tp
  have tx : T x := by
    by_cases t : T x
    · exact t
    · have := h7 t p hp.1 hp.2 (fun e => t (e ▸ tp))
      exact absurd this (by omega)
  have xu : ¬ x = u := fun e => nt (e ▸ tx)
  have ap := hA p (K p) u hp.1 hp.2 hu.1 hu.2 pu (h2 p hp.1 hp.2).1 kp
  have kt : ∀ r : Int, 0 ≤ r → r < n → T r → K' r = K r ∧ L' r = L r ∧ B' r = B r := fun r a b t => by
    have e : ¬ r = u := fun e => nt (e ▸ t)
    rw [hK r a b, hL r a b, hB r a b, if_neg e, if_neg e, if_neg e]
    exact ⟨rfl, rfl, rfl⟩
  have ko : ∀ o : Int, 0 ≤ o → o < n → ¬ o = u → K' o = K o ∧ L' o = L o ∧ B' o = B o := fun o a b e => by
    rw [hK o a b, hL o a b, hB o a b, if_neg e, if_neg e, if_neg e]
    exact ⟨rfl, rfl, rfl⟩
  have ku : K' u = A p (K p) u ∧ L' u = p ∧ B' u = B p + 1 := by
    rw [hK u hu.1 hu.2, hL u hu.1 hu.2, hB u hu.1 hu.2, if_pos rfl, if_pos rfl, if_pos rfl]
    exact ⟨rfl, rfl, rfl⟩
  obtain ⟨ku1, ku2, ku3⟩ := ku
  obtain ⟨p1, p2, p3⟩ := kt p hp.1 hp.2 tp
  refine ⟨?_, fun o d e => ?_, fun o d e f => ?_, fun r d e t => ?_, fun r o d e f g t v => ?_, fun r d e t _ => ?_, fun t => absurd tx t, fun r o d e f g t i j k => ?_⟩
  · obtain ⟨x1, x2, x3⟩ := kt x hx.1 hx.2 tx
    rw [x1, x2, x3]
    exact h1
  · by_cases q : o = u
    · rw [q, ku1]
      have := (h2 p hp.1 hp.2).1
      omega
    · rw [(ko o d e q).1]
      exact h2 o d e
  · by_cases q : o = u
    · rw [q]
      refine Or.inr ⟨by omega, ?_⟩
      rw [ku2, ku1, ku3, p1, p3]
      exact ⟨hp, tp, pu, rfl, rfl⟩
    · obtain ⟨o1, o2, o3⟩ := ko o d e q
      rcases h3 o d e f with m | ⟨m1, m2, m3, m4, m5, m6⟩
      · exact Or.inl (by rw [o1, o2]; exact m)
      · obtain ⟨l1, l2, l3⟩ := kt (L o) m2.1 m2.2 m3
        refine Or.inr ?_
        rw [o1, o2, o3, l1, l3]
        exact ⟨m1, m2, m3, m4, m5, m6⟩
  · rw [(kt r d e t).1]
    exact h4 r d e t
  · rw [(kt r d e t).1]
    by_cases q : o = u
    · rw [q, ku1]
      have := h6 r d e t hp.1
      omega
    · rw [(ko o f g q).1]
      exact h5 r o d e f g t v
  · rw [(kt r d e t).1, p1]
    exact h6 r d e t hp.1
  · rw [(kt r d e t).1]
    by_cases q : o = u
    · rw [q, ku1, ku2]
      by_cases z : r = p
      · rw [z]
        exact Or.inr ⟨rfl, Int.le_refl _⟩
      · have y := h8 r u d e hu.1 hu.2 t (q ▸ i) (q ▸ j) (fun y => absurd y z)
        omega
    · obtain ⟨o1, o2, -⟩ := ko o f g q
      rw [o1, o2]
      exact h8 r o d e f g t i j (fun z => by have := k z; omega)
theorem nwI_e {A : Int → Int → Int → Int} {n x w p u : Int} {T : Int → Prop} {K L B : Int → Int} (h : nwI A n x w T p u K L B) (hu : n ≤ u) : nwI A n x w T (-1) 0 K L B := by
  obtain ⟨h1, h2, h3, h4, h5, h6, h7, h8⟩ := h
  exact ⟨h1, h2, h3, h4, h5, fun r _ _ _ z => absurd z (by decide), h7, fun r o a b c d t e f _ => h8 r o a b c d t e f (fun _ => by omega)⟩
theorem nwI_nw {A : Int → Int → Int → Int} {n x w : Int} {T : Int → Prop} {K L B : Int → Int} (h : nwI A n x w T (-1) 0 K L B) (he : ∀ o : Int, 0 ≤ o → o < n → ¬ T o → K o = 1000000) : isNW A n x w K L B := by
  obtain ⟨h1, h2, h3, h4, h5, h6, h7, h8⟩ := h
  refine ⟨h1, h2, fun o a b c => ?_, fun r o a b c d e f g => ?_⟩
  · rcases h3 o a b c with q | ⟨q1, q2, q3, q4, q5, q6⟩
    · exact Or.inl q
    · exact Or.inr ⟨q1, q2, q4, h4 _ q2.1 q2.2 q3, q5, q6⟩
  · have t : T r := by
      by_cases t : T r
      · exact t
      · exact absurd (he r a b t) (by omega)
    exact h8 r o a b c d t e f (fun z => absurd z (by omega))
/-- how many of the first k are told -/
def cntT (T : Int → Bool) : Nat → Nat
  | 0 => 0
  | k + 1 => cntT T k + if T (k : Int) then 1 else 0
theorem cntT_le (T : Int → Bool) (k : Nat) : cntT T k ≤ k := by
  induction k with
  | zero => exact Nat.le_refl _
  | succ k ih =>
    unfold cntT
    split <;> omega
theorem cntT_all {T : Int → Bool} {k : Nat} (h : cntT T k = k) : ∀ i : Nat, i < k → T (i : Int) = true := by
  induction k with
  | zero => intro i hi; exact absurd hi (by omega)
  | succ k ih =>
    intro i hi
    have l := cntT_le T k
    unfold cntT at h
    by_cases q : T (k : Int) = true
    · rw [if_pos q] at h
      rcases Nat.lt_or_eq_of_le (Nat.le_of_lt_succ hi) with z | z
      · exact ih (by omega) i z
      · rw [z]; exact q
    · rw [if_neg q] at h
      exact absurd h (by omega)
theorem cntT_add {T T' : Int → Bool} {p : Int} (hT : ∀ r : Int, T' r = (T r || decide (r = p))) (np : T p = false) (k : Nat) (hp : 0 ≤ p) : cntT T' k = cntT T k + if p < (k : Int) then 1 else 0 := by
  induction k with
  | zero => rw [if_neg (by omega)]; rfl
  | succ k ih =>
    have e0 : cntT T' (k + 1) = cntT T' k + (if T' (k : Int) = true then 1 else 0) := rfl
    have e1 : cntT T (k + 1) = cntT T k + (if T (k : Int) = true then 1 else 0) := rfl
    rw [e0, e1, ih]
    by_cases q : (k : Int) = p
    · have a : T' (k : Int) = true := by rw [hT, q]; simp
      have b : ¬ T (k : Int) = true := by rw [q, np]; exact Bool.false_ne_true
      rw [if_pos a, if_neg b, if_neg (show ¬ p < (k : Int) by omega), if_pos (show p < ((k + 1 : Nat) : Int) by omega)]
    · have a : T' (k : Int) = T (k : Int) := by rw [hT]; simp [q]
      rw [a]
      by_cases z : p < (k : Int)
      · rw [if_pos z, if_pos (show p < ((k + 1 : Nat) : Int) by omega)]; omega
      · rw [if_neg z, if_neg (show ¬ p < ((k + 1 : Nat) : Int) by omega)]; omega

/-- a set of at most six has not this one -/
def bt (s r : Int) : Prop := (iZ s >>> (iZ r &&& 31)) &&& 1 = 0
theorem bt_of {s r z1 z2 : Int} (h1 : iZ z1 = iZ s >>> (iZ r &&& 31)) (h2 : iZ z2 = iZ z1 &&& iZ 1) (h : z2 = 0) : bt s r := by
  unfold bt
  rw [← h1]
  exact h2.symm.trans (by rw [h]; rfl)
theorem bt_no {s r z1 z2 : Int} (h1 : iZ z1 = iZ s >>> (iZ r &&& 31)) (h2 : iZ z2 = iZ z1 &&& iZ 1) (hz : -2147483648 ≤ z2 ∧ z2 < 2147483648) (h : ¬ z2 = 0) : ¬ bt s r := by
  intro q
  unfold bt at q
  rw [← h1] at q
  have e : iZ z2 = iZ 0 := h2.trans q
  have a := congrArg Int32.toInt e
  rw [iZ_ti hz, iZ_ti (by omega)] at a
  exact h a
theorem bt_key : ∀ s : Fin 64, ∀ r : Fin 6, (Int32.ofNat s.val >>> (Int32.ofNat r.val &&& 31)) &&& 1 = 0 → (s.val : Int) < (Int32.ofNat s.val ||| (1 <<< (Int32.ofNat r.val &&& 31))).toInt ∧ (Int32.ofNat s.val ||| (1 <<< (Int32.ofNat r.val &&& 31))).toInt < 64 := by decide +kernel
theorem bt_set {s r z1 z2 : Int} (hs : 0 ≤ s ∧ s < 64) (hr : 0 ≤ r ∧ r < 6) (hb : bt s r) (h1 : iZ z1 = iZ 1 <<< (iZ r &&& 31)) (h2 : iZ z2 = iZ s ||| iZ z1) (hz : -2147483648 ≤ z2 ∧ z2 < 2147483648) : s < z2 ∧ z2 < 64 := by
  obtain ⟨a, rfl⟩ := Int.eq_ofNat_of_zero_le hs.1
  obtain ⟨b, rfl⟩ := Int.eq_ofNat_of_zero_le hr.1
  have k := bt_key ⟨a, by omega⟩ ⟨b, by omega⟩
  unfold bt at hb
  rw [iZ_nat, iZ_nat] at hb
  have k2 := k hb
  rw [h1] at h2
  have e : z2 = (Int32.ofNat a ||| (1 <<< (Int32.ofNat b &&& 31))).toInt := by
    rw [iZ_nat, iZ_nat] at h2
    rw [← iZ_ti hz, h2]
    rfl
  rw [e]
  exact k2
theorem bt_orK : ∀ s : Fin 64, ∀ p r : Fin 6, (((Int32.ofNat s.val ||| (1 <<< (Int32.ofNat p.val &&& 31))) >>> (Int32.ofNat r.val &&& 31)) &&& 1 = 0) ↔ ((Int32.ofNat s.val >>> (Int32.ofNat r.val &&& 31)) &&& 1 = 0 ∧ ¬ r.val = p.val) := by decide +kernel
theorem bt_or {s p r z1 z2 : Int} (hs : 0 ≤ s ∧ s < 64) (hp : 0 ≤ p ∧ p < 6) (hr : 0 ≤ r ∧ r < 6) (h1 : iZ z1 = iZ 1 <<< (iZ p &&& 31)) (h2 : iZ z2 = iZ s ||| iZ z1) : bt z2 r ↔ (bt s r ∧ ¬ r = p) := by
  obtain ⟨a, rfl⟩ := Int.eq_ofNat_of_zero_le hs.1
  obtain ⟨b, rfl⟩ := Int.eq_ofNat_of_zero_le hp.1
  obtain ⟨c, rfl⟩ := Int.eq_ofNat_of_zero_le hr.1
  have k := bt_orK ⟨a, by omega⟩ ⟨b, by omega⟩ ⟨c, by omega⟩
  unfold bt
  rw [h2, h1, iZ_nat, iZ_nat, iZ_nat]
  refine Iff.trans k ⟨fun h => ⟨h.1, fun e => h.2 ?_⟩, fun h => ⟨h.1, fun e => h.2 ?_⟩⟩
  · show c = b
    omega
  · have e : c = b := e
    omega
theorem bt_0K : ∀ r : Fin 6, ((Int32.ofNat 0) >>> (Int32.ofNat r.val &&& 31)) &&& 1 = 0 := by decide +kernel
theorem bt_0 {r : Int} (hr : 0 ≤ r ∧ r < 6) : bt 0 r := by
  obtain ⟨c, rfl⟩ := Int.eq_ofNat_of_zero_le hr.1
  have k := bt_0K ⟨c, by omega⟩
  unfold bt
  rw [iZ_nat]
  exact k
/-- who has told it on, by a set -/
noncomputable def Tb (t r : Int) : Bool := decide (0 ≤ r ∧ r < 6) && !(@decide (bt t r) (Classical.propDecidable _))
theorem Tb_iff {t r : Int} : Tb t r = true ↔ (0 ≤ r ∧ r < 6) ∧ ¬ bt t r := by
  unfold Tb
  rw [Bool.and_eq_true, decide_eq_true_iff, Bool.not_eq_true', decide_eq_false_iff_not]
theorem Tb_0 (r : Int) : ¬ Tb 0 r = true := fun h => (Tb_iff.mp h).2 (bt_0 (Tb_iff.mp h).1)
theorem Tb_or {s p z1 z2 : Int} (hs : 0 ≤ s ∧ s < 64) (hp : 0 ≤ p ∧ p < 6) (h1 : iZ z1 = iZ 1 <<< (iZ p &&& 31)) (h2 : iZ z2 = iZ s ||| iZ z1) (r : Int) : Tb z2 r = (Tb s r || decide (r = p)) := by
  rw [Bool.eq_iff_iff, Bool.or_eq_true, Tb_iff, Tb_iff, decide_eq_true_iff]
  constructor
  · intro h
    have b := mt (bt_or hs hp h.1 h1 h2).mpr h.2
    by_cases e : r = p
    · exact Or.inr e
    · exact Or.inl ⟨h.1, fun q => b ⟨q, e⟩⟩
  · intro h
    have hr : 0 ≤ r ∧ r < 6 := by
      rcases h with h | h
      · exact h.1
      · omega
    refine ⟨hr, fun q => ?_⟩
    have b := (bt_or hs hp hr h1 h2).mp q
    rcases h with h | h
    · exact h.2 b.1
    · exact b.2 h
theorem Tb_no {t r : Int} (hr : 0 ≤ r ∧ r < 6) (h : ¬ Tb t r = true) : bt t r := Classical.not_not.mp (fun q => h (Tb_iff.mpr ⟨hr, q⟩))
/-- the class's WEEK: -1 is never -/
def cF (v : Int) : Int := if v = -1 then 1000000 else v
def cK (f : Nat → Int32) (o : Int) : Int := cF (gz f o)
theorem cF_c (v : Int) : (v = -1 ∧ cF v = 1000000) ∨ (¬ v = -1 ∧ cF v = v) := by
  unfold cF
  by_cases h : v = -1
  · rw [if_pos h]; exact Or.inl ⟨h, rfl⟩
  · rw [if_neg h]; exact Or.inr ⟨h, rfl⟩
theorem cK_c (f : Nat → Int32) (o : Int) : (gz f o = -1 ∧ cK f o = 1000000) ∨ (¬ gz f o = -1 ∧ cK f o = gz f o) := cF_c _
theorem later_ar {f g : Nat → Int32} {n ni : Int} (hx : FXI f n) : later (arF f g ni) n := by
  intro r k o a b c d e h1 h2
  by_cases h : k ≤ 400
  · have := arF_c (g := g) (ni := ni) (w := k) hx ⟨a, b⟩ ⟨c, d⟩ e h
    omega
  · have := arF_o (f := f) (g := g) (ni := ni) (a := r) (w := k) (b := o) (by omega) e
    omega
/-- what tells, and to whom it came now -/
theorem ar_of {f g : Nat → Int32} {n ni a w b z : Int} (hx : FXI f n) (ha : 0 ≤ a ∧ a < n) (hb : 0 ≤ b ∧ b < n) (ne : ¬ a = b) (hw : 0 ≤ w) (hz : z = arN f g ni a w b) : (z = -1 ∧ arF f g ni a w b = 1000000) ∨ (¬ z = -1 ∧ arF f g ni a w b = z ∧ z < 1000000) := by
  by_cases h : w ≤ 400
  · have c := arN_c (f := f) (g := g) (ni := ni) (a := a) (b := b) ⟨hw, h⟩
    have d := arF_c (g := g) (ni := ni) (w := w) hx ha hb ne h
    omega
  · have c := arN_o (f := f) (g := g) (ni := ni) (a := a) (w := w) (b := b) (by omega)
    have d := arF_o (f := f) (g := g) (ni := ni) (a := a) (w := w) (b := b) (by omega) ne
    omega
abbrev NWT (f g : Nat → Int32) (ni n x w : Int) (T : Int → Prop) (p u : Int) (k t : Nat → Int32) (B : Int → Int) : Prop := nwI (arF f g ni) n x w T p u (cK k) (gz t) B
theorem nw_pk {f g k t : Nat → Int32} {ni n x w p u : Int} {T : Int → Prop} {B : Int → Int} (h : NWT f g ni n x w T p u k t B) (hp : 0 ≤ p ∧ p < n) (tp : T p) : cK k p = gz k p ∧ 0 ≤ gz k p ∧ gz k p < 1000000 := by
  have a := h.2.2.2.1 p hp.1 hp.2 tp
  have b := h.2.1 p hp.1 hp.2
  have c := cK_c k p
  omega
theorem te_n {f g k t : Nat → Int32} {ni n x w p i z : Int} {T : Int → Prop} {B : Int → Int} (h : NWT f g ni n x w T p i k t B) (hx : FXI f n) (hp : 0 ≤ p ∧ p < n) (tp : T p) (hi : 0 ≤ i ∧ i < n) (c : i = p ∨ (¬ i = p ∧ z = arN f g ni p (gz k p) i ∧ (z = -1 ∨ (¬ z = -1 ∧ ¬ gz k i = -1 ∧ (gz k i < z ∨ (gz k i = z ∧ gz t i ≤ p)))))) : NWT f g ni n x w T p (i + 1) k t B := by
  obtain ⟨k1, k2, k3⟩ := nw_pk h hp tp
  refine nwI_n h (later_ar hx) hp tp hi ?_
  rcases c with c | ⟨ne, hz, c⟩
  · exact Or.inl c
  · have a := ar_of hx hp hi (fun e => ne e.symm) k2 hz
    have b := cK_c k i
    rw [k1]
    rcases c with c | ⟨c1, c2, c3⟩
    · exact Or.inr (Or.inr (Or.inl (by omega)))
    · rcases c3 with c3 | c3
      · exact Or.inr (Or.inr (Or.inr (Or.inl (by omega))))
      · exact Or.inr (Or.inr (Or.inr (Or.inr ⟨by omega, c3.2⟩)))
theorem te_u {f g k t k' t' : Nat → Int32} {ni n x w p i z : Int} {T : Int → Prop} {B : Int → Int} (h : NWT f g ni n x w T p i k t B) (hx : FXI f n) (hn : n ≤ 6) (hX : 0 ≤ x ∧ x < n) (hp : 0 ≤ p ∧ p < n) (tp : T p) (hi : 0 ≤ i ∧ i < n) (ne : ¬ i = p) (hz : z = arN f g ni p (gz k p) i) (hz1 : ¬ z = -1) (hr : -2147483648 ≤ z ∧ z < 2147483648) (c : gz k i = -1 ∨ z < gz k i ∨ (z = gz k i ∧ p < gz t i)) (hk : k' = upd k (iZ i).toNatClampNeg (iZ z)) (ht : t' = upd t (iZ i).toNatClampNeg (iZ p)) : NWT f g ni n x w T p (i + 1) k' t' (fun o => if o = i then B p + 1 else B o) ∧ ¬ T i := by
  obtain ⟨k1, k2, k3⟩ := nw_pk h hp tp
  have a := ar_of hx hp hi (fun e => ne e.symm) k2 hz
  have b := cK_c k i
  have lt := later_ar (g := g) (ni := ni) hx p (gz k p) i hp.1 hp.2 hi.1 hi.2 (fun e => ne e.symm) k2 k3
  have c2 : arF f g ni p (cK k p) i < cK k i ∨ (arF f g ni p (cK k p) i = cK k i ∧ p ≤ gz t i) := by
    rw [k1]
    rcases c with c | c | c
    · exact Or.inl (by omega)
    · by_cases q : gz k i = -1
      · exact Or.inl (by omega)
      · exact Or.inl (by omega)
    · by_cases q : gz k i = -1
      · exact Or.inl (by omega)
      · exact Or.inr ⟨by omega, by omega⟩
  have nt : ¬ T i := fun q => by
    have d := h.2.2.2.2.2.1 i hi.1 hi.2 q hp.1
    rw [k1] at c2 d
    omega
  refine ⟨nwI_u h (later_ar hx) hX hp tp hi nt (by rw [k1]; omega) c2 (fun o h1 h2 => ?_) (fun o h1 h2 => ?_) (fun o _ _ => rfl), nt⟩
  · have e := gz_up hk (j := o) ⟨by omega, by omega⟩ hr h1
    show cF (gz k' o) = _
    rw [e]
    by_cases q : o = i
    · rw [if_pos q, if_pos q, k1]
      have := cF_c z
      omega
    · rw [if_neg q, if_neg q]
      rfl
  · have e := gz_up ht (j := o) ⟨by omega, by omega⟩ ⟨by omega, by omega⟩ h1
    show gz t' o = _
    rw [e]
/-- the one that is to tell next -/
def SB (k : Nat → Int32) (t i m : Int) : Prop := (m = -1 ∧ ∀ o : Int, 0 ≤ o → o < i → gz k o = -1 ∨ ¬ bt t o) ∨ ((0 ≤ m ∧ m < i) ∧ ¬ gz k m = -1 ∧ bt t m ∧ ∀ o : Int, 0 ≤ o → o < i → bt t o → ¬ gz k o = -1 → gz k m ≤ gz k o)
theorem SB_0 {k : Nat → Int32} {t : Int} : SB k t 0 (-1) := Or.inl ⟨rfl, fun o a b => absurd a (by omega)⟩
theorem SB_n {k : Nat → Int32} {t i m : Int} (h : SB k t i m) (c : (gz k i = -1 ∨ ¬ bt t i) ∨ (¬ m = -1 ∧ gz k m ≤ gz k i)) : SB k t (i + 1) m := by
  rcases h with ⟨h1, h2⟩ | ⟨h1, h2, h3, h4⟩
  · refine Or.inl ⟨h1, fun o a b => ?_⟩
    rcases Int.lt_or_eq_of_le (show o ≤ i by omega) with d | d
    · exact h2 o a d
    · rw [d]
      rcases c with c | c
      · exact c
      · exact absurd h1 c.1
  · refine Or.inr ⟨⟨h1.1, by omega⟩, h2, h3, fun o a b e g => ?_⟩
    rcases Int.lt_or_eq_of_le (show o ≤ i by omega) with d | d
    · exact h4 o a d e g
    · rw [d] at e g ⊢
      rcases c with (c | c) | c
      · exact absurd c g
      · exact absurd e c
      · exact c.2
theorem SB_u {k : Nat → Int32} {t i m : Int} (h : SB k t i m) (hi : 0 ≤ i) (h1 : ¬ gz k i = -1) (h2 : bt t i) (c : m = -1 ∨ gz k i < gz k m) : SB k t (i + 1) i := by
  refine Or.inr ⟨⟨hi, by omega⟩, h1, h2, fun o a b e g => ?_⟩
  rcases Int.lt_or_eq_of_le (show o ≤ i by omega) with d | d
  · rcases h with ⟨m1, m2⟩ | ⟨m1, m2, m3, m4⟩
    · rcases m2 o a d with q | q
      · exact absurd q g
      · exact absurd e q
    · have := m4 o a d e g
      rcases c with c | c
      · omega
      · omega
  · rw [d]; exact Int.le_refl _
/-- between two that tell: t the set of those that told, c how many -/
def NWS (f g : Nat → Int32) (ni n x w t c : Int) (k l h : Nat → Int32) (B : Int → Int) : Prop := NWT f g ni n x w (fun r => Tb t r = true) (-1) 0 k l B ∧ (∀ r : Int, 0 ≤ r → r < n → (Tb t r = true → gz h r = B r) ∧ (¬ Tb t r = true → gz h r = -1)) ∧ (0 ≤ t ∧ t < 64) ∧ (cntT (Tb t) n.toNat : Int) = c
theorem NWS_0 {f g k l h : Nat → Int32} {ni n x w : Int} (hw : 0 ≤ w ∧ w < 1000000) (hx : 0 ≤ x ∧ x < n) (hn : n ≤ 6) (hk : ∀ o : Int, 0 ≤ o → o < 6 → gz k o = if o = x then w else -1) (hl : ∀ o : Int, 0 ≤ o → o < 6 → gz l o = -1) (hh : ∀ o : Int, 0 ≤ o → o < 6 → gz h o = -1) : NWS f g ni n x w 0 0 k l h (fun _ => 0) := by
  refine ⟨nwI_0 hw hx (fun o a b => ?_) (fun o a b => hl o a (by omega)) rfl Tb_0, fun r a b => ⟨fun q => absurd q (Tb_0 r), fun _ => hh r a (by omega)⟩, ⟨by omega, by omega⟩, ?_⟩
  · show cF (gz k o) = _
    rw [hk o a (by omega)]
    by_cases e : o = x
    · rw [if_pos e, if_pos e]
      have := cF_c w
      omega
    · rw [if_neg e, if_neg e]
      rfl
  · have : ∀ m : Nat, cntT (Tb 0) m = 0 := by
      intro m
      induction m with
      | zero => rfl
      | succ m ih =>
        unfold cntT
        rw [ih, if_neg (Tb_0 _)]
    rw [this]
    rfl
theorem NWS_p {f g k l h : Nat → Int32} {ni n x w t c p z1 z2 : Int} {B : Int → Int} (q : NWS f g ni n x w t c k l h B) (hn : n ≤ 6) (hx : 0 ≤ x ∧ x < n) (hp : 0 ≤ p) (sb : SB k t n p) (rg : rgI k (-1) 420 6) (h1 : iZ z1 = iZ 1 <<< (iZ p &&& 31)) (h2 : iZ z2 = iZ t ||| iZ z1) : NWT f g ni n x w (fun r => Tb z2 r = true) p 0 k l B := by
  obtain ⟨q1, -, q3, -⟩ := q
  rcases sb with ⟨m1, -⟩ | ⟨m1, m2, m3, m4⟩
  · exact absurd m1 (by omega)
  · have np : ¬ Tb t p = true := fun e => (Tb_iff.mp e).2 m3
    refine nwI_p q1 m1 np ?_ (fun o a b e => ?_) (fun r a b => ?_) hx
    · have a := cK_c k p
      have b := q1.2.1 p m1.1 m1.2
      have b2 := rg p m1.1 (by omega)
      omega
    · have d := Tb_no ⟨a, by omega⟩ e
      have b1 := cK_c k p
      have b2 := cK_c k o
      by_cases g : gz k o = -1
      · have b3 := q1.2.1 p m1.1 m1.2
        omega
      · have := m4 o a b d g
        omega
    · show Tb z2 r = true ↔ Tb t r = true ∨ r = p
      rw [Tb_or q3 ⟨m1.1, by omega⟩ h1 h2 r, Bool.or_eq_true, decide_eq_true_iff]
theorem SB_m1 {k : Nat → Int32} {t n m : Int} (h : SB k t n m) (e : m = -1) : ∀ o : Int, 0 ≤ o → o < n → gz k o = -1 ∨ ¬ bt t o := by
  rcases h with ⟨-, h2⟩ | ⟨h1, -⟩
  · exact h2
  · exact absurd h1.1 (by omega)
theorem NWS_t {f g k l h k' l' h' : Nat → Int32} {ni n x w t c p z1 z2 v : Int} {B B' : Int → Int} (q : NWS f g ni n x w t c k l h B) (hn : n ≤ 6) (hp : 0 ≤ p) (sb : SB k t n p) (rg : rgI k (-1) 420 6) (h1 : iZ z1 = iZ 1 <<< (iZ p &&& 31)) (h2 : iZ z2 = iZ t ||| iZ z1) (hz : -2147483648 ≤ z2 ∧ z2 < 2147483648) (b : NWT f g ni n x w (fun r => Tb z2 r = true) (-1) 0 k' l' B') (hB : ∀ r : Int, Tb z2 r = true → 0 ≤ r → r < n → B' r = B r) (hv : (gz l p = -1 ∧ v = 0) ∨ (¬ gz l p = -1 ∧ v = gz h (gz l p) + 1)) (hh : h' = upd h (iZ p).toNatClampNeg (iZ v)) (hr : -2147483648 ≤ v ∧ v < 2147483648) : NWS f g ni n x w z2 (c + 1) k' l' h' B' := by
  obtain ⟨q1, q2, q3, q4⟩ := q
  rcases sb with ⟨m1, -⟩ | ⟨m1, m2, m3, m4⟩
  · exact absurd m1 (by omega)
  · have np : ¬ Tb t p = true := fun e => (Tb_iff.mp e).2 m3
    have hp6 : 0 ≤ p ∧ p < 6 := ⟨m1.1, by omega⟩
    have vb : v = B p := by
      by_cases e : p = x
      · obtain ⟨-, a2, a3⟩ := q1.1
        have a2 : gz l x = -1 := a2
        rw [e] at hv ⊢
        omega
      · rcases q1.2.2.1 p m1.1 m1.2 e with ⟨d, -⟩ | ⟨-, d1, d2, -, -, d5⟩
        · have c1 := cK_c k p
          have c2 := rg p m1.1 (by omega)
          omega
        · have d1 : 0 ≤ gz l p ∧ gz l p < n := d1
          have d2 : Tb t (gz l p) = true := d2
          have d5 : B p = B (gz l p) + 1 := d5
          have c1 := (q2 (gz l p) d1.1 d1.2).1 d2
          omega
    have st := bt_set q3 hp6 m3 h1 h2 hz
    refine ⟨b, fun r a d => ?_, ⟨by omega, st.2⟩, ?_⟩
    · have e := gz_up hh (j := r) ⟨by omega, by omega⟩ hr a
      have o := Tb_or q3 hp6 h1 h2 r
      constructor
      · intro y
        rw [hB r y a d, e]
        by_cases z : r = p
        · rw [if_pos z, z]; exact vb
        · rw [if_neg z]
          rw [o, Bool.or_eq_true, decide_eq_true_iff] at y
          exact (q2 r a d).1 (y.resolve_right z)
      · intro y
        rw [o, Bool.or_eq_true, decide_eq_true_iff] at y
        rw [e, if_neg (fun z => y (Or.inr z))]
        exact (q2 r a d).2 (fun z => y (Or.inl z))
    · have := cntT_add (T := Tb t) (T' := Tb z2) (p := p) (fun r => Tb_or q3 hp6 h1 h2 r) (by cases y : Tb t p with | false => rfl | true => exact absurd y np) n.toNat m1.1
      rw [if_pos (by omega)] at this
      omega
theorem NWS_e {f g k l h : Nat → Int32} {ni n x w t c : Int} {B : Int → Int} (q : NWS f g ni n x w t c k l h B) (hn : 0 ≤ n ∧ n ≤ 6) (rg : rgI k (-1) 420 6) (he : (∀ o : Int, 0 ≤ o → o < n → gz k o = -1 ∨ ¬ bt t o) ∨ c = n) : isNW (arF f g ni) n x w (cK k) (gz l) B ∧ ∀ o : Int, 0 ≤ o → o < n → (gz k o = -1 → gz h o = -1) ∧ (¬ gz k o = -1 → gz h o = B o) := by
  obtain ⟨q1, q2, q3, q4⟩ := q
  have hT : ∀ o : Int, 0 ≤ o → o < n → ¬ Tb t o = true → cK k o = 1000000 := by
    intro o a b d
    rcases he with he | he
    · rcases he o a b with y | y
      · have := cK_c k o
        omega
      · exact absurd (Tb_no ⟨a, by omega⟩ d) y
    · have := cntT_all (T := Tb t) (k := n.toNat) (by omega) o.toNat (by omega)
      rw [show (o.toNat : Int) = o by omega] at this
      exact absurd this d
  refine ⟨nwI_nw q1 hT, fun o a b => ?_⟩
  have c1 := cK_c k o
  have c2 := rg o a (by omega)
  constructor
  · intro y
    refine (q2 o a b).2 (fun z => ?_)
    have := q1.2.2.2.1 o a b z
    omega
  · intro y
    refine (q2 o a b).1 ?_
    by_cases z : Tb t o = true
    · exact z
    · have := hT o a b z
      omega
theorem Tb_p {s p z1 z2 : Int} (hs : 0 ≤ s ∧ s < 64) (hp : 0 ≤ p ∧ p < 6) (h1 : iZ z1 = iZ 1 <<< (iZ p &&& 31)) (h2 : iZ z2 = iZ s ||| iZ z1) : Tb z2 p = true := by
  rw [Tb_or hs hp h1 h2 p, Bool.or_eq_true, decide_eq_true_iff]
  exact Or.inr rfl
theorem isNW_like {A A' : Int → Int → Int → Int} {n x w : Int} {K L B : Int → Int} (h : isNW A n x w K L B) (e : ∀ r k o : Int, 0 ≤ r → r < n → 0 ≤ o → o < n → A r k o = A' r k o) : isNW A' n x w K L B := by
  obtain ⟨h1, h2, h3, h4⟩ := h
  refine ⟨h1, h2, fun o a b c => ?_, fun r o a b c d i j k => ?_⟩
  · rcases h3 o a b c with q | ⟨q1, q2, q3, q4, q5, q6⟩
    · exact Or.inl q
    · exact Or.inr ⟨q1, q2, q3, q4, by rw [← e _ _ _ q2.1 q2.2 a b]; exact q5, q6⟩
  · rw [← e _ _ _ a b c d]
    exact h4 r o a b c d i j k
/-- a set of rocks by a row of answers -/
def cS (b : Nat → Bool) : Nat → Int32
  | 0 => 0
  | k + 1 => if b k = true then cS b k ||| (1 <<< (iZ (k : Int) &&& 31)) else cS b k
noncomputable def bS (P : Int → Prop) (k : Nat) : Int32 := cS (fun j => @decide (P (j : Int)) (Classical.propDecidable _)) k
theorem bS_y {P : Int → Prop} {k : Nat} (p : P (k : Int)) : bS P (k + 1) = bS P k ||| (1 <<< (iZ (k : Int) &&& 31)) := by
  have e : @decide (P (k : Int)) (Classical.propDecidable _) = true := @decide_eq_true _ (Classical.propDecidable _) p
  show (if @decide (P (k : Int)) (Classical.propDecidable _) = true then _ else _) = _
  rw [if_pos e]
  rfl
theorem bS_n {P : Int → Prop} {k : Nat} (p : ¬ P (k : Int)) : bS P (k + 1) = bS P k := by
  have e : ¬ @decide (P (k : Int)) (Classical.propDecidable _) = true := fun h => p (@of_decide_eq_true _ (Classical.propDecidable _) h)
  show (if @decide (P (k : Int)) (Classical.propDecidable _) = true then _ else _) = _
  rw [if_neg e]
  rfl
theorem sB_0 {P : Int → Prop} : iZ 0 = bS P (0 : Int).toNat := rfl
theorem sB_y {P : Int → Prop} {s i z1 z2 : Int} (h : iZ s = bS P i.toNat) (hi : 0 ≤ i) (p : P i) (h1 : iZ z1 = iZ 1 <<< (iZ i &&& 31)) (h2 : iZ z2 = iZ s ||| iZ z1) : iZ z2 = bS P (i + 1).toNat := by
  obtain ⟨k, rfl⟩ := Int.eq_ofNat_of_zero_le hi
  rw [show ((k : Int)).toNat = k from rfl] at h
  rw [show ((k : Int) + 1).toNat = k + 1 by omega, bS_y p, h2, h, h1]
  rfl
theorem sB_n {P : Int → Prop} {s i : Int} (h : iZ s = bS P i.toNat) (hi : 0 ≤ i) (p : ¬ P i) : iZ s = bS P (i + 1).toNat := by
  obtain ⟨k, rfl⟩ := Int.eq_ofNat_of_zero_le hi
  rw [show ((k : Int)).toNat = k from rfl] at h
  rw [show ((k : Int) + 1).toNat = k + 1 by omega, bS_n p]
  exact h
theorem sB_r {P : Int → Prop} {s i z2 : Int} (h : iZ s = bS P i.toNat) (hi : 0 ≤ i) (p : ¬ P i) (h2 : iZ z2 = iZ s ||| iZ 0) : iZ z2 = bS P (i + 1).toNat := by
  rw [h2, show iZ 0 = (0 : Int32) from rfl, Int32.or_zero]
  exact sB_n h hi p
/-- when a rock knows it: the one row that there can be -/
noncomputable def nwK (A : Int → Int → Int → Int) (n x w : Int) : Int → Int := Classical.epsilon (fun K => ∃ L B : Int → Int, isNW A n x w K L B)
theorem nwK_eq {A : Int → Int → Int → Int} {n x w o : Int} {K L B : Int → Int} (hA : later A n) (h : isNW A n x w K L B) (a : 0 ≤ o) (b : o < n) : K o = nwK A n x w o := by
  obtain ⟨L', B', h'⟩ : ∃ L B : Int → Int, isNW A n x w (nwK A n x w) L B := Classical.epsilon_spec (p := fun K => ∃ L B : Int → Int, isNW A n x w K L B) ⟨K, L, B, h⟩
  exact (nw_eq hA h h' a b).1.symm
set_option maxHeartbeats 4000000 in
set_option maxRecDepth 100000 in
theorem k_fillI (l : Launch) (D : va_G) (k : Nat → ClassId) (h n : Nat) (hn : n < 2000000) (f : Nat → Int32) (v : Int) (hv : -2147483648 ≤ v ∧ v < 2147483648) : WD (σ := (Nat → Int32)) l yJ7_fill_53178 cJ7_fill_53178 4 none 0 0 0 D k [.ref h, .int (iZ v)] [(h, .inl (k 1, n, .inl f))] (fun _ => none) (fun g => ∀ e : Int, 0 ≤ e → e < (n : Int) → gz g e = v) (fun g => [(h, .inl (k 1, n, .inl g))]) := by
  refine MW (by decide) (Nat.le_of_ble_eq_true rfl) (fun p e s m below meth c ls A hx hb hml hr hlocks hin hts hown hKK hP hD hS hA hl => ?_)
  have hK := hKK.1
  have hl : lv_has ls 4 [(0, .ref h), (1, .int (iZ v))] := hl
  refine lv_iconst (v := iZ 0) hx hb dJ7_fill_53178_0 rfl ?_
  refine lv_istore_n (lv' := [(2, .int (iZ 0)), (0, .ref h), (1, .int (iZ v))]) hx hb dJ7_fill_53178_1 rfl hl (bl rfl) rfl (fun ls hl => ?_)
  refine lv_aload_n hx hb dJ7_fill_53178_2 rfl (lv_at hl 1 rfl) ?_
  refine va_alen (v := iZ (n : Int)) hx hb hK hP 0 1 rfl (ty := .int) rfl (iZ_nat n).symm dJ7_fill_53178_3 ?_
  refine lv_istore_n (lv' := [(3, .int (iZ (n : Int))), (2, .int (iZ 0)), (0, .ref h), (1, .int (iZ v))]) hx hb dJ7_fill_53178_4 rfl hl (bl rfl) rfl (fun ls hl => ?_)
  have HL1 : ∀ (fu : Nat) (i : Int) (g : Nat → Int32) (H : Heap) (locs : List Loc) (ls : Array Slot), ((n : Int) + 1 - i) < (fu : Int) → 0 ≤ i → i ≤ (n : Int) → (∀ e : Int, 0 ≤ e → e < i → gz g e = v) → va_P D vwCl [(h, .inl (k 1, n, .inl g))] H → va_D A [(h, .inl (k 1, n, .inl g))] → va_S A s.heap H locs → lv_has ls 4 [(3, .int (iZ (n : Int))), (2, .int (iZ i)), (0, .ref h), (1, .int (iZ v))] → W p l e (rj 0 0 0) s m [.ref h, .int (iZ v)].toArray below meth c H locs 0 0 (MQ below (QW (σ := (Nat → Int32)) (fun _ => none) (fun g => ∀ e : Int, 0 ≤ e → e < (n : Int) → gz g e = v) (fun g => [(h, .inl (k 1, n, .inl g))]) D A) [.ref h, .int (iZ v)].toArray s 0 0 A) (F0 m 5 ls []) := by
    intro fu
    induction fu with
    | zero => intro i g H locs ls hμ1 hi1 hi2 hi3 hP hD hS hl; exact absurd hμ1 (by omega)
    | succ fu ih1 =>
      intro i g H locs ls hμ1 hi1 hi2 hi3 hP hD hS hl
      refine lv_iload_n hx hb dJ7_fill_53178_5 rfl (lv_at hl 1 rfl) ?_
      refine lv_iload_n hx hb dJ7_fill_53178_6 rfl (lv_at hl 0 rfl) ?_
      refine lv_icmp_ge (tgt := 20) hx hb dJ7_fill_53178_7 rfl (fun c_1 => ?_) (fun c_1 => ?_)
      ·
        have c_1 := (zle (x := iZ (n : Int)) (y := iZ i) rfl rfl ⟨by omega, by omega⟩ ⟨by omega, by omega⟩).mp c_1
        exact EWv hx hb hr hlocks hS g rfl (fun e h1 h2 => hi3 e h1 (by omega)) hP hD dJ7_fill_53178_20
      ·
        have c_1 := mt (zle (x := iZ (n : Int)) (y := iZ i) rfl rfl ⟨by omega, by omega⟩ ⟨by omega, by omega⟩).mpr c_1
        refine lv_aload_n hx hb dJ7_fill_53178_10 rfl (lv_at hl 2 rfl) ?_
        refine lv_iload_n hx hb dJ7_fill_53178_11 rfl (lv_at hl 1 rfl) ?_
        refine lv_iload_n hx hb dJ7_fill_53178_12 rfl (lv_at hl 3 rfl) ?_
        refine va_iast hx hb hK hP hD hS 0 1 rfl rfl (zin (e := i) (n := n) ⟨by omega, by omega⟩ (by omega)) dJ7_fill_53178_13 (fun H locs hP hD hS => ?_)
        obtain ⟨f_2, hf_2⟩ : ∃ gg9, gg9 = upd g (iZ i).toNatClampNeg (iZ v) := ⟨_, rfl⟩
        rw [← hf_2] at hP hD
        refine lv_iinc (v := iZ (i + 1)) (lv' := [(2, .int (iZ (i + 1))), (3, .int (iZ (n : Int))), (0, .ref h), (1, .int (iZ v))]) hx hb dJ7_fill_53178_14 hl (k := 1) rfl (iZ_add i 1) (by decide) rfl (fun ls hl => ?_)
        refine lv_goto (tgt := 5) hx hb dJ7_fill_53178_17 rfl ?_
        exact ih1  (i + 1) _ _ _ _ (by omega) (by omega) (by omega) (by intro e h1 h2; rw [gz_up hf_2 ⟨by omega, by omega⟩ ⟨by omega, by omega⟩ h1]; split; rfl; exact hi3 e h1 (by omega)) (hP.sub [0] rfl) (hD.sub [0] rfl rfl) hS (lv_sub hl [1, 0, 2, 3] rfl)
  exact HL1 (n + 2) 0 _ _ _ _ (by omega) (by omega) (by omega) (fun e h1 h2 => absurd h1 (by omega)) (hP.sub [0] rfl) (hD.sub [0] rfl rfl) hS (lv_sub hl [0, 1, 2, 3] rfl)
set_option maxHeartbeats 4000000 in
set_option maxRecDepth 100000 in
theorem k_soonest (l : Launch) (D : va_G) (k : Nat → ClassId) (hn1 kn te ho co : Nat) (hs h : Nat) (fs : List Value) (n : Int) (f3 : fs[3]? = some (.int (iZ n))) (hn : 0 ≤ n ∧ n ≤ 6) (kf : Nat → Int32) (rgk : rgI kf (-1) 420 6) (t : Int) : RP l yX2_soonest cX2_soonest 5 (some .int) 0 D k [.ref hn1, .int (iZ t)] [(hn1, .inr (2, [.ref hs, .ref h, .ref kn, .ref te, .ref ho, .ref co])), (hs, .inr (5, fs)), (kn, .inl (k 1, 6, .inl kf))] (fun z => (-1 ≤ z ∧ z < n) ∧ SB kf t n z) := by
  refine MRP (by decide) (Nat.le_of_ble_eq_true rfl) (fun p e s m below meth c ls hx hb hml hr hlocks hts hown hKK hP hl => ?_)
  have hK := hKK.1
  have hl : lv_has ls 5 [(0, .ref hn1), (1, .int (iZ t))] := hl
  refine lv_iconst (v := iZ (-1)) hx hb dX2_soonest_0 rfl ?_
  refine lv_istore_n (lv' := [(2, .int (iZ (-1))), (0, .ref hn1), (1, .int (iZ t))]) hx hb dX2_soonest_1 rfl hl (bl rfl) rfl (fun ls hl => ?_)
  refine lv_iconst (v := iZ 0) hx hb dX2_soonest_2 rfl ?_
  refine lv_istore_n (lv' := [(3, .int (iZ 0)), (2, .int (iZ (-1))), (0, .ref hn1), (1, .int (iZ t))]) hx hb dX2_soonest_3 rfl hl (bl rfl) rfl (fun ls hl => ?_)
  have HL1 : ∀ (fu : Nat) (i m1 : Int) (ls : Array Slot), (n + 1 - i) < (fu : Int) → 0 ≤ i → i ≤ n → -1 ≤ m1 → m1 < n → SB kf t i m1 → lv_has ls 5 [(3, .int (iZ i)), (2, .int (iZ m1)), (0, .ref hn1), (1, .int (iZ t))] → W p l e (rj 0 0 0) s m [.ref hn1, .int (iZ t)].toArray below meth c s.heap [] 0 0 (MQ below (QcP (fun z => (-1 ≤ z ∧ z < n) ∧ SB kf t n z)) [.ref hn1, .int (iZ t)].toArray s 0 0 (fun _ => False)) (F0 m 4 ls []) := by
    intro fu
    induction fu with
    | zero => intro i m1 ls hμ1 hi1 hi2 hm1 hm2 hsb hl; exact absurd hμ1 (by omega)
    | succ fu ih1 =>
      intro i m1 ls hμ1 hi1 hi2 hm1 hm2 hsb hl
      refine lv_iload_n hx hb dX2_soonest_4 rfl (lv_at hl 0 rfl) ?_
      refine lv_aload_n hx hb dX2_soonest_5 rfl (lv_at hl 2 rfl) ?_
      refine va_get (D := D) (ci := 2) (v := .ref hs) (C := RX2) (T := TX2) (N := 6) hx hb hts iX2 hown hK hP 0 rfl rfl 0 (bl rfl) (hts _ qf_X2_24) (fun _ h => h) rfl dX2_soonest_6 ?_
      refine va_get (D := D) (ci := 5) (v := .int (iZ n)) (C := RX5) (T := TX5) (N := 7) hx hb hts iX5 hown hK hP 1 rfl rfl 3 (bl rfl) (hts _ qf_X2_38) (fun _ h => h) f3 dX2_soonest_9 ?_
      refine lv_icmp_ge (tgt := 73) hx hb dX2_soonest_12 rfl (fun c_1 => ?_) (fun c_1 => ?_)
      ·
        have c_1 := (zle (x := iZ n) (y := iZ i) rfl rfl ⟨by omega, by omega⟩ ⟨by omega, by omega⟩).mp c_1
        refine lv_iload_n hx hb dX2_soonest_73 rfl (lv_at hl 1 rfl) ?_
        exact EPi hx hb hr hlocks ⟨⟨by omega, by omega⟩, by rw [show n = i from (by omega)]; exact hsb⟩ dX2_soonest_74
      ·
        have c_1 := mt (zle (x := iZ n) (y := iZ i) rfl rfl ⟨by omega, by omega⟩ ⟨by omega, by omega⟩).mpr c_1
        refine lv_aload_n hx hb dX2_soonest_15 rfl (lv_at hl 2 rfl) ?_
        refine va_get (D := D) (ci := 2) (v := .ref kn) (C := RX2) (T := TX2) (N := 6) hx hb hts iX2 hown hK hP 0 rfl rfl 2 (bl rfl) (hts _ qf_X2_9) (fun _ h => h) rfl dX2_soonest_16 ?_
        refine lv_iload_n hx hb dX2_soonest_19 rfl (lv_at hl 0 rfl) ?_
        refine va_iald hx hb hK hP 2 1 rfl rfl (zin (e := i) (n := 6) ⟨by omega, by omega⟩ (bl rfl)) dX2_soonest_20 ?_
        refine lv_topi (fun x_2 ex_2 => ?_)
        obtain rfl : x_2 = iZ (gz kf i) := ex_2.trans (gz_eq ⟨by omega, by omega⟩)
        have h_3 := rgk i (by omega) (by omega)
        refine lv_iconst (v := iZ (-1)) hx hb dX2_soonest_21 rfl ?_
        refine lv_icmp_eq (tgt := 37) hx hb dX2_soonest_22 rfl (fun c_4 => ?_) (fun c_4 => ?_)
        ·
          have c_4 := (zeq (x := iZ (gz kf i)) (y := iZ (-1)) rfl rfl (gz_rg kf i) wn_m1).mp c_4
          refine lv_iconst (v := iZ 0) hx hb dX2_soonest_37 rfl ?_
          refine lv_istore (lv' := [(4, .int (iZ 0)), (3, .int (iZ i)), (2, .int (iZ m1)), (0, .ref hn1), (1, .int (iZ t))]) hx hb dX2_soonest_38 hl (bl rfl) rfl (fun ls hl => ?_)
          refine lv_iload hx hb dX2_soonest_40 (lv_at hl 0 rfl) ?_
          refine lv_if_eq (tgt := 67) hx hb dX2_soonest_42 rfl (fun _ => ?_) (fun c => absurd (by decide) c)
          refine lv_iinc (v := iZ (i + 1)) (lv' := [(3, .int (iZ (i + 1))), (4, .int (iZ 0)), (2, .int (iZ m1)), (0, .ref hn1), (1, .int (iZ t))]) hx hb dX2_soonest_67 hl (k := 1) rfl (iZ_add i 1) (by decide) rfl (fun ls hl => ?_)
          refine lv_goto (tgt := 4) hx hb dX2_soonest_70 rfl ?_
          exact ih1  _ _ _ (by omega) (by omega) (by omega) (by omega) (by omega) (SB_n hsb (Or.inl (Or.inl (by omega)))) (lv_sub hl [0, 2, 3, 4] rfl)
        ·
          have c_4 := mt (zeq (x := iZ (gz kf i)) (y := iZ (-1)) rfl rfl (gz_rg kf i) wn_m1).mpr c_4
          refine lv_iload_n hx hb dX2_soonest_25 rfl (lv_at hl 3 rfl) ?_
          refine lv_iload_n hx hb dX2_soonest_26 rfl (lv_at hl 0 rfl) ?_
          refine lv_ishr hx hb dX2_soonest_27 ?_
          refine lv_topi (fun x_7 ex_7 => ?_)
          obtain ⟨z_6, hz_6, hz_6a, hz_6b⟩ := i32_z x_7
          subst hz_6
          refine lv_iconst (v := iZ 1) hx hb dX2_soonest_28 rfl ?_
          refine lv_iand hx hb dX2_soonest_29 ?_
          refine lv_topi (fun x_9 ex_9 => ?_)
          obtain ⟨z_8, hz_8, hz_8a, hz_8b⟩ := i32_z x_9
          subst hz_8
          refine lv_if_ne (tgt := 37) hx hb dX2_soonest_30 rfl (fun c_10 => ?_) (fun c_10 => ?_)
          ·
            have c_10 := mt (zeq (x := iZ z_8) (y := iZ 0) rfl rfl ⟨by omega, by omega⟩ wn_0).mpr c_10
            refine lv_iconst (v := iZ 0) hx hb dX2_soonest_37 rfl ?_
            refine lv_istore (lv' := [(4, .int (iZ 0)), (3, .int (iZ i)), (2, .int (iZ m1)), (0, .ref hn1), (1, .int (iZ t))]) hx hb dX2_soonest_38 hl (bl rfl) rfl (fun ls hl => ?_)
            refine lv_iload hx hb dX2_soonest_40 (lv_at hl 0 rfl) ?_
            refine lv_if_eq (tgt := 67) hx hb dX2_soonest_42 rfl (fun _ => ?_) (fun c => absurd (by decide) c)
            refine lv_iinc (v := iZ (i + 1)) (lv' := [(3, .int (iZ (i + 1))), (4, .int (iZ 0)), (2, .int (iZ m1)), (0, .ref hn1), (1, .int (iZ t))]) hx hb dX2_soonest_67 hl (k := 1) rfl (iZ_add i 1) (by decide) rfl (fun ls hl => ?_)
            refine lv_goto (tgt := 4) hx hb dX2_soonest_70 rfl ?_
            exact ih1  _ _ _ (by omega) (by omega) (by omega) (by omega) (by omega) (SB_n hsb (by first | exact Or.inl (Or.inl (by omega)) | exact Or.inl (Or.inr (bt_no ex_7 ex_9 ⟨hz_8a, hz_8b⟩ (by omega))) | exact Or.inr ⟨by omega, by omega⟩)) (lv_sub hl [0, 2, 3, 4] rfl)
          ·
            have c_10 := (zeq (x := iZ z_8) (y := iZ 0) rfl rfl ⟨by omega, by omega⟩ wn_0).mp c_10
            refine lv_iconst (v := iZ 1) hx hb dX2_soonest_33 rfl ?_
            refine lv_goto (tgt := 38) hx hb dX2_soonest_34 rfl ?_
            refine lv_istore (lv' := [(4, .int (iZ 1)), (3, .int (iZ i)), (2, .int (iZ m1)), (0, .ref hn1), (1, .int (iZ t))]) hx hb dX2_soonest_38 hl (bl rfl) rfl (fun ls hl => ?_)
            refine lv_iload hx hb dX2_soonest_40 (lv_at hl 0 rfl) ?_
            refine lv_if_eq (tgt := 67) hx hb dX2_soonest_42 rfl (fun c => absurd c (by decide)) (fun _ => ?_)
            refine lv_iload_n hx hb dX2_soonest_45 rfl (lv_at hl 2 rfl) ?_
            refine lv_iconst (v := iZ (-1)) hx hb dX2_soonest_46 rfl ?_
            refine lv_icmp_eq (tgt := 65) hx hb dX2_soonest_47 rfl (fun c_13 => ?_) (fun c_13 => ?_)
            ·
              have c_13 := (zeq (x := iZ m1) (y := iZ (-1)) rfl rfl ⟨by omega, by omega⟩ wn_m1).mp c_13
              refine lv_iload_n hx hb dX2_soonest_65 rfl (lv_at hl 1 rfl) ?_
              refine lv_istore_n (lv' := [(2, .int (iZ i)), (4, .int (iZ 1)), (3, .int (iZ i)), (0, .ref hn1), (1, .int (iZ t))]) hx hb dX2_soonest_66 rfl hl (bl rfl) rfl (fun ls hl => ?_)
              refine lv_iinc (v := iZ (i + 1)) (lv' := [(3, .int (iZ (i + 1))), (2, .int (iZ i)), (4, .int (iZ 1)), (0, .ref hn1), (1, .int (iZ t))]) hx hb dX2_soonest_67 hl (k := 2) rfl (iZ_add i 1) (by decide) rfl (fun ls hl => ?_)
              refine lv_goto (tgt := 4) hx hb dX2_soonest_70 rfl ?_
              exact ih1  _ _ _ (by omega) (by omega) (by omega) (by omega) (by omega) (SB_u hsb (by omega) (by omega) (bt_of ex_7 ex_9 (by omega)) (by omega)) (lv_sub hl [0, 1, 3, 4] rfl)
            ·
              have c_13 := mt (zeq (x := iZ m1) (y := iZ (-1)) rfl rfl ⟨by omega, by omega⟩ wn_m1).mpr c_13
              refine lv_aload_n hx hb dX2_soonest_50 rfl (lv_at hl 3 rfl) ?_
              refine va_get (D := D) (ci := 2) (v := .ref kn) (C := RX2) (T := TX2) (N := 6) hx hb hts iX2 hown hK hP 0 rfl rfl 2 (bl rfl) (hts _ qf_X2_9) (fun _ h => h) rfl dX2_soonest_51 ?_
              refine lv_iload_n hx hb dX2_soonest_54 rfl (lv_at hl 1 rfl) ?_
              refine va_iald hx hb hK hP 2 1 rfl rfl (zin (e := i) (n := 6) ⟨by omega, by omega⟩ (bl rfl)) dX2_soonest_55 ?_
              refine lv_topi (fun x_14 ex_14 => ?_)
              obtain rfl : x_14 = iZ (gz kf i) := ex_14.trans (gz_eq ⟨by omega, by omega⟩)
              have h_15 := rgk i (by omega) (by omega)
              refine lv_aload_n hx hb dX2_soonest_56 rfl (lv_at hl 3 rfl) ?_
              refine va_get (D := D) (ci := 2) (v := .ref kn) (C := RX2) (T := TX2) (N := 6) hx hb hts iX2 hown hK hP 0 rfl rfl 2 (bl rfl) (hts _ qf_X2_9) (fun _ h => h) rfl dX2_soonest_57 ?_
              refine lv_iload_n hx hb dX2_soonest_60 rfl (lv_at hl 2 rfl) ?_
              refine va_iald hx hb hK hP 2 1 rfl rfl (zin (e := m1) (n := 6) ⟨by omega, by omega⟩ (bl rfl)) dX2_soonest_61 ?_
              refine lv_topi (fun x_16 ex_16 => ?_)
              obtain rfl : x_16 = iZ (gz kf m1) := ex_16.trans (gz_eq ⟨by omega, by omega⟩)
              have h_17 := rgk m1 (by omega) (by omega)
              refine lv_icmp_ge (tgt := 67) hx hb dX2_soonest_62 rfl (fun c_18 => ?_) (fun c_18 => ?_)
              ·
                have c_18 := (zle (x := iZ (gz kf m1)) (y := iZ (gz kf i)) rfl rfl (gz_rg kf m1) (gz_rg kf i)).mp c_18
                refine lv_iinc (v := iZ (i + 1)) (lv' := [(3, .int (iZ (i + 1))), (4, .int (iZ 1)), (2, .int (iZ m1)), (0, .ref hn1), (1, .int (iZ t))]) hx hb dX2_soonest_67 hl (k := 1) rfl (iZ_add i 1) (by decide) rfl (fun ls hl => ?_)
                refine lv_goto (tgt := 4) hx hb dX2_soonest_70 rfl ?_
                exact ih1  _ _ _ (by omega) (by omega) (by omega) (by omega) (by omega) (SB_n hsb (by first | exact Or.inl (Or.inl (by omega)) | exact Or.inl (Or.inr (bt_no ex_7 ex_9 ⟨hz_8a, hz_8b⟩ (by omega))) | exact Or.inr ⟨by omega, by omega⟩)) (lv_sub hl [0, 2, 3, 4] rfl)
              ·
                have c_18 := mt (zle (x := iZ (gz kf m1)) (y := iZ (gz kf i)) rfl rfl (gz_rg kf m1) (gz_rg kf i)).mpr c_18
                refine lv_iload_n hx hb dX2_soonest_65 rfl (lv_at hl 1 rfl) ?_
                refine lv_istore_n (lv' := [(2, .int (iZ i)), (4, .int (iZ 1)), (3, .int (iZ i)), (0, .ref hn1), (1, .int (iZ t))]) hx hb dX2_soonest_66 rfl hl (bl rfl) rfl (fun ls hl => ?_)
                refine lv_iinc (v := iZ (i + 1)) (lv' := [(3, .int (iZ (i + 1))), (2, .int (iZ i)), (4, .int (iZ 1)), (0, .ref hn1), (1, .int (iZ t))]) hx hb dX2_soonest_67 hl (k := 2) rfl (iZ_add i 1) (by decide) rfl (fun ls hl => ?_)
                refine lv_goto (tgt := 4) hx hb dX2_soonest_70 rfl ?_
                exact ih1  _ _ _ (by omega) (by omega) (by omega) (by omega) (by omega) (SB_u hsb (by omega) (by omega) (bt_of ex_7 ex_9 (by omega)) (by omega)) (lv_sub hl [0, 1, 3, 4] rfl)
  exact HL1 8 _ _ _ (by omega) (by omega) (by omega) (by omega) (by omega) SB_0 (lv_sub hl [0, 1, 2, 3] rfl)
set_option maxHeartbeats 4000000 in
set_option maxRecDepth 100000 in
theorem k_lastToKnow (l : Launch) (D : va_G) (k : Nat → ClassId) (hn1 kn te ho co : Nat) (hs h : Nat) (fs : List Value) (n : Int) (f3 : fs[3]? = some (.int (iZ n))) (hn : 0 ≤ n ∧ n ≤ 6) (kf : Nat → Int32) (rgk : rgI kf (-1) 420 6) : RP l yX2_lastToKnow cX2_lastToKnow 3 (some .int) 0 D k [.ref hn1] [(hn1, .inr (2, [.ref hs, .ref h, .ref kn, .ref te, .ref ho, .ref co])), (hs, .inr (5, fs)), (kn, .inl (k 1, 6, .inl kf))] (fun z => -1 ≤ z ∧ z ≤ 5) := by
  refine MRP (by decide) (Nat.le_of_ble_eq_true rfl) (fun p e s m below meth c ls hx hb hml hr hlocks hts hown hKK hP hl => ?_)
  have hK := hKK.1
  have hl : lv_has ls 3 [(0, .ref hn1)] := hl
  refine lv_iconst (v := iZ 0) hx hb dX2_lastToKnow_0 rfl ?_
  refine lv_istore_n (lv' := [(1, .int (iZ 0)), (0, .ref hn1)]) hx hb dX2_lastToKnow_1 rfl hl (bl rfl) rfl (fun ls hl => ?_)
  refine lv_iconst (v := iZ 0) hx hb dX2_lastToKnow_2 rfl ?_
  refine lv_istore_n (lv' := [(2, .int (iZ 0)), (1, .int (iZ 0)), (0, .ref hn1)]) hx hb dX2_lastToKnow_3 rfl hl (bl rfl) rfl (fun ls hl => ?_)
  have HL1 : ∀ (fu : Nat) (i m1 : Int) (ls : Array Slot), (n + 1 - i) < (fu : Int) → 0 ≤ i → i ≤ n → 0 ≤ m1 → m1 ≤ 5 → lv_has ls 3 [(2, .int (iZ i)), (1, .int (iZ m1)), (0, .ref hn1)] → W p l e (rj 0 0 0) s m [.ref hn1].toArray below meth c s.heap [] 0 0 (MQ below (QcP (fun z => -1 ≤ z ∧ z ≤ 5)) [.ref hn1].toArray s 0 0 (fun _ => False)) (F0 m 4 ls []) := by
    intro fu
    induction fu with
    | zero => intro i m1 ls hμ1 hi1 hi2 hm1 hm2 hl; exact absurd hμ1 (by omega)
    | succ fu ih1 =>
      intro i m1 ls hμ1 hi1 hi2 hm1 hm2 hl
      refine lv_iload_n hx hb dX2_lastToKnow_4 rfl (lv_at hl 0 rfl) ?_
      refine lv_aload_n hx hb dX2_lastToKnow_5 rfl (lv_at hl 2 rfl) ?_
      refine va_get (D := D) (ci := 2) (v := .ref hs) (C := RX2) (T := TX2) (N := 6) hx hb hts iX2 hown hK hP 0 rfl rfl 0 (bl rfl) (hts _ qf_X2_24) (fun _ h => h) rfl dX2_lastToKnow_6 ?_
      refine va_get (D := D) (ci := 5) (v := .int (iZ n)) (C := RX5) (T := TX5) (N := 7) hx hb hts iX5 hown hK hP 1 rfl rfl 3 (bl rfl) (hts _ qf_X2_38) (fun _ h => h) f3 dX2_lastToKnow_9 ?_
      refine lv_icmp_ge (tgt := 50) hx hb dX2_lastToKnow_12 rfl (fun c_1 => ?_) (fun c_1 => ?_)
      ·
        have c_1 := (zle (x := iZ n) (y := iZ i) rfl rfl ⟨by omega, by omega⟩ ⟨by omega, by omega⟩).mp c_1
        refine lv_iload_n hx hb dX2_lastToKnow_50 rfl (lv_at hl 1 rfl) ?_
        exact EPi hx hb hr hlocks (by omega) dX2_lastToKnow_51
      ·
        have c_1 := mt (zle (x := iZ n) (y := iZ i) rfl rfl ⟨by omega, by omega⟩ ⟨by omega, by omega⟩).mpr c_1
        refine lv_aload_n hx hb dX2_lastToKnow_15 rfl (lv_at hl 2 rfl) ?_
        refine va_get (D := D) (ci := 2) (v := .ref kn) (C := RX2) (T := TX2) (N := 6) hx hb hts iX2 hown hK hP 0 rfl rfl 2 (bl rfl) (hts _ qf_X2_9) (fun _ h => h) rfl dX2_lastToKnow_16 ?_
        refine lv_iload_n hx hb dX2_lastToKnow_19 rfl (lv_at hl 0 rfl) ?_
        refine va_iald hx hb hK hP 2 1 rfl rfl (zin (e := i) (n := 6) ⟨by omega, by omega⟩ (bl rfl)) dX2_lastToKnow_20 ?_
        refine lv_topi (fun x_2 ex_2 => ?_)
        obtain rfl : x_2 = iZ (gz kf i) := ex_2.trans (gz_eq ⟨by omega, by omega⟩)
        have h_3 := rgk i (by omega) (by omega)
        refine lv_iconst (v := iZ (-1)) hx hb dX2_lastToKnow_21 rfl ?_
        refine lv_icmp_ne (tgt := 27) hx hb dX2_lastToKnow_22 rfl (fun c_4 => ?_) (fun c_4 => ?_)
        ·
          have c_4 := mt (zeq (x := iZ (gz kf i)) (y := iZ (-1)) rfl rfl (gz_rg kf i) wn_m1).mpr c_4
          refine lv_aload_n hx hb dX2_lastToKnow_27 rfl (lv_at hl 2 rfl) ?_
          refine va_get (D := D) (ci := 2) (v := .ref kn) (C := RX2) (T := TX2) (N := 6) hx hb hts iX2 hown hK hP 0 rfl rfl 2 (bl rfl) (hts _ qf_X2_9) (fun _ h => h) rfl dX2_lastToKnow_28 ?_
          refine lv_iload_n hx hb dX2_lastToKnow_31 rfl (lv_at hl 0 rfl) ?_
          refine va_iald hx hb hK hP 2 1 rfl rfl (zin (e := i) (n := 6) ⟨by omega, by omega⟩ (bl rfl)) dX2_lastToKnow_32 ?_
          refine lv_topi (fun x_5 ex_5 => ?_)
          obtain rfl : x_5 = iZ (gz kf i) := ex_5.trans (gz_eq ⟨by omega, by omega⟩)
          have h_6 := rgk i (by omega) (by omega)
          refine lv_aload_n hx hb dX2_lastToKnow_33 rfl (lv_at hl 2 rfl) ?_
          refine va_get (D := D) (ci := 2) (v := .ref kn) (C := RX2) (T := TX2) (N := 6) hx hb hts iX2 hown hK hP 0 rfl rfl 2 (bl rfl) (hts _ qf_X2_9) (fun _ h => h) rfl dX2_lastToKnow_34 ?_
          refine lv_iload_n hx hb dX2_lastToKnow_37 rfl (lv_at hl 1 rfl) ?_
          refine va_iald hx hb hK hP 2 1 rfl rfl (zin (e := m1) (n := 6) ⟨by omega, by omega⟩ (bl rfl)) dX2_lastToKnow_38 ?_
          refine lv_topi (fun x_7 ex_7 => ?_)
          obtain rfl : x_7 = iZ (gz kf m1) := ex_7.trans (gz_eq ⟨by omega, by omega⟩)
          have h_8 := rgk m1 (by omega) (by omega)
          refine lv_icmp_le (tgt := 44) hx hb dX2_lastToKnow_39 rfl (fun c_9 => ?_) (fun c_9 => ?_)
          ·
            have c_9 := (zle (x := iZ (gz kf i)) (y := iZ (gz kf m1)) rfl rfl (gz_rg kf i) (gz_rg kf m1)).mp c_9
            refine lv_iinc (v := iZ (i + 1)) (lv' := [(2, .int (iZ (i + 1))), (1, .int (iZ m1)), (0, .ref hn1)]) hx hb dX2_lastToKnow_44 hl (k := 0) rfl (iZ_add i 1) (by decide) rfl (fun ls hl => ?_)
            refine lv_goto (tgt := 4) hx hb dX2_lastToKnow_47 rfl ?_
            exact ih1  _ _ _ (by omega) (by omega) (by omega) (by omega) (by omega) (lv_sub hl [0, 1, 2] rfl)
          ·
            have c_9 := mt (zle (x := iZ (gz kf i)) (y := iZ (gz kf m1)) rfl rfl (gz_rg kf i) (gz_rg kf m1)).mpr c_9
            refine lv_iload_n hx hb dX2_lastToKnow_42 rfl (lv_at hl 0 rfl) ?_
            refine lv_istore_n (lv' := [(1, .int (iZ i)), (2, .int (iZ i)), (0, .ref hn1)]) hx hb dX2_lastToKnow_43 rfl hl (bl rfl) rfl (fun ls hl => ?_)
            refine lv_iinc (v := iZ (i + 1)) (lv' := [(2, .int (iZ (i + 1))), (1, .int (iZ i)), (0, .ref hn1)]) hx hb dX2_lastToKnow_44 hl (k := 1) rfl (iZ_add i 1) (by decide) rfl (fun ls hl => ?_)
            refine lv_goto (tgt := 4) hx hb dX2_lastToKnow_47 rfl ?_
            exact ih1  _ _ _ (by omega) (by omega) (by omega) (by omega) (by omega) (lv_sub hl [0, 1, 2] rfl)
        ·
          have c_4 := (zeq (x := iZ (gz kf i)) (y := iZ (-1)) rfl rfl (gz_rg kf i) wn_m1).mp c_4
          refine lv_iconst (v := iZ (-1)) hx hb dX2_lastToKnow_25 rfl ?_
          exact EPi hx hb hr hlocks (by omega) dX2_lastToKnow_26
  exact HL1 8 _ _ _ (by omega) (by omega) (by omega) (by omega) (by omega) (lv_sub hl [0, 1, 2] rfl)
set_option maxHeartbeats 4000000 in
set_option maxRecDepth 100000 in
theorem k_tellOn (l : Launch) (D : va_G) (k : Nat → ClassId) (hn1 kn te ho co : Nat) (h hs : Nat) (r0 : Ry) {P0 : RP_} (hRT : (RT k) P0 r0) (fs : List Value) (hf hg : Nat) (f1 : fs[1]? = some (.ref hf)) (f2 : fs[2]? = some (.ref hg)) (f g : Nat → Int32) (n : Int) (hn : n ≤ 6) (hx0 : FXI f n) (ni : Int) (f4 : fs[4]? = some (.int (iZ ni))) (hni : 0 ≤ ni ∧ ni ≤ 8) (hQ0 : P0 = RX f g n ni) (f3 : fs[3]? = some (.int (iZ n))) (hn0 : 0 ≤ n) (kf tf : Nat → Int32) (rgk : rgI kf (-1) 420 6) (rgt : rgI tf (-1) 5 6) (a : Int) (ha0 : 0 ≤ a ∧ a < n) (x9 w9 : Int) (T9 : Int → Prop) (B9 : Int → Int) (hX9 : 0 ≤ x9 ∧ x9 < n) (hT9 : T9 a) (hq9 : NWT f g ni n x9 w9 T9 a 0 kf tf B9) : XD (σ := (Int × Ry × (Nat → Nat → Int32))) l yX2_tellOn cX2_tellOn 5 none 2 r0 D k [.ref hn1, .int (iZ a)] [(hn1, .inr (2, [.ref hs, .ref h, .ref kn, .ref te, .ref ho, .ref co])), (h, .inr (3, [.ref hs, .long r0.op, r0.vA, r0.vL])), (kn, .inl (k 1, 6, .inl kf)), (te, .inl (k 1, 6, .inl tf)), (hs, .inr (5, fs)), (hf, .inl (k 1, 36, .inl f)), (hg, .inl (k 1, 32, .inl g))] (fun u => u.2.1) (fun _ => none) (fun u => RT k (RX f g n ni) u.2.1 ∧ rgI (u.2.2 0) (-1) 420 6 ∧ rgI (u.2.2 1) (-1) 5 6 ∧ ∃ B9' : Int → Int, NWT f g ni n x9 w9 T9 (-1) 0 (u.2.2 0) (u.2.2 1) B9' ∧ ∀ r : Int, T9 r → 0 ≤ r → r < n → B9' r = B9 r) (fun u => [(hn1, .inr (2, [.ref hs, .ref h, .ref kn, .ref te, .ref ho, .ref co])), (h, .inr (3, [.ref hs, .long u.2.1.op, u.2.1.vA, u.2.1.vL])), (kn, .inl (k 1, 6, .inl (u.2.2 0))), (te, .inl (k 1, 6, .inl (u.2.2 1))), (hs, .inr (5, fs)), (hf, .inl (k 1, 36, .inl f)), (hg, .inl (k 1, 32, .inl g))]) := by
  refine MX (by decide) (Nat.le_of_ble_eq_true rfl) (fun p e s m below meth c ls A hx hb hml hr hlocks hin hts hown hKK hP hD hS hA hl => ?_)
  have hK := hKK.1
  have hl : lv_has ls 5 [(0, .ref hn1), (1, .int (iZ a))] := hl
  subst hQ0
  refine lv_iconst (v := iZ 0) hx hb dX2_tellOn_0 rfl ?_
  refine lv_istore_n (lv' := [(2, .int (iZ 0)), (0, .ref hn1), (1, .int (iZ a))]) hx hb dX2_tellOn_1 rfl hl (bl rfl) rfl (fun ls hl => ?_)
  have HL1 : ∀ (fu : Nat) (r2 : Ry) (i : Int) (B2 : Int → Int) (k2 : Nat → Int32) (t2 : Nat → Int32) (H : Heap) (locs : List Loc) (ls : Array Slot), (n + 1 - i) < (fu : Int) → RT k (RX f g n ni) r2 → (r2.b = true → r0.b = true) → 0 ≤ i → i ≤ n → (NWT f g ni n x9 w9 T9 a i k2 t2 B2 ∧ ∀ r : Int, T9 r → 0 ≤ r → r < n → B2 r = B9 r) → rgI k2 (-1) 420 6 → rgI t2 (-1) 5 6 → va_P D vwCl ((hn1, .inr (2, [.ref hs, .ref h, .ref kn, .ref te, .ref ho, .ref co])) :: (h, .inr (3, [.ref hs, .long r2.op, r2.vA, r2.vL])) :: (kn, .inl (k 1, 6, .inl k2)) :: (te, .inl (k 1, 6, .inl t2)) :: (hs, .inr (5, fs)) :: (hf, .inl (k 1, 36, .inl f)) :: (hg, .inl (k 1, 32, .inl g)) :: r2.tl) H → va_D A ((hn1, .inr (2, [.ref hs, .ref h, .ref kn, .ref te, .ref ho, .ref co])) :: (h, .inr (3, [.ref hs, .long r2.op, r2.vA, r2.vL])) :: (kn, .inl (k 1, 6, .inl k2)) :: (te, .inl (k 1, 6, .inl t2)) :: (hs, .inr (5, fs)) :: (hf, .inl (k 1, 36, .inl f)) :: (hg, .inl (k 1, 32, .inl g)) :: r2.tl) → va_S A s.heap H locs → lv_has ls 5 [(2, .int (iZ i)), (0, .ref hn1), (1, .int (iZ a))] → W p l e (rj 2 (rcN r0.b) (rsN r0.b)) s m [.ref hn1, .int (iZ a)].toArray below meth c H locs (cz r0.b r2.b) (sz r0.b r2.b) (MQ below (QX (σ := (Int × Ry × (Nat → Nat → Int32))) r0.b (fun u => u.2.1) (fun _ => none) (fun u => RT k (RX f g n ni) u.2.1 ∧ rgI (u.2.2 0) (-1) 420 6 ∧ rgI (u.2.2 1) (-1) 5 6 ∧ ∃ B9' : Int → Int, NWT f g ni n x9 w9 T9 (-1) 0 (u.2.2 0) (u.2.2 1) B9' ∧ ∀ r : Int, T9 r → 0 ≤ r → r < n → B9' r = B9 r) (fun u => [(hn1, .inr (2, [.ref hs, .ref h, .ref kn, .ref te, .ref ho, .ref co])), (h, .inr (3, [.ref hs, .long u.2.1.op, u.2.1.vA, u.2.1.vL])), (kn, .inl (k 1, 6, .inl (u.2.2 0))), (te, .inl (k 1, 6, .inl (u.2.2 1))), (hs, .inr (5, fs)), (hf, .inl (k 1, 36, .inl f)), (hg, .inl (k 1, 32, .inl g))]) D A) [.ref hn1, .int (iZ a)].toArray s (rcN r0.b) (rsN r0.b) A) (F0 m 2 ls []) := by
    intro fu
    induction fu with
    | zero => intro r2 i B2 k2 t2 H locs ls hμ1 rtr2 hbr2 hi1 hi2 hqb rgk2 rgt2 hP hD hS hl; exact absurd hμ1 (by omega)
    | succ fu ih1 =>
      intro r2 i B2 k2 t2 H locs ls hμ1 rtr2 hbr2 hi1 hi2 hqb rgk2 rgt2 hP hD hS hl
      obtain ⟨hq2, hb2⟩ := id hqb
      refine lv_iload_n hx hb dX2_tellOn_2 rfl (lv_at hl 0 rfl) ?_
      refine lv_aload_n hx hb dX2_tellOn_3 rfl (lv_at hl 1 rfl) ?_
      refine va_get (D := D) (ci := 2) (v := .ref hs) (C := RX2) (T := TX2) (N := 6) hx hb hts iX2 hown hK hP 0 rfl rfl 0 (bl rfl) (hts _ qf_X2_24) (fun _ h => h) rfl dX2_tellOn_4 ?_
      refine va_get (D := D) (ci := 5) (v := .int (iZ n)) (C := RX5) (T := TX5) (N := 7) hx hb hts iX5 hown hK hP 4 rfl rfl 3 (bl rfl) (hts _ qf_X2_38) (fun _ h => h) f3 dX2_tellOn_7 ?_
      refine lv_icmp_ge (tgt := 115) hx hb dX2_tellOn_10 rfl (fun c_1 => ?_) (fun c_1 => ?_)
      ·
        have c_1 := (zle (x := iZ n) (y := iZ i) rfl rfl ⟨by omega, by omega⟩ ⟨by omega, by omega⟩).mp c_1
        exact EXv hx hb hr hlocks hbr2 hS (0, r2, fun i => [k2, t2].getD i (fun _ => 0)) rfl rfl ⟨rtr2, rgk2, rgt2, B2, nwI_e hq2 (by omega), hb2⟩ (va_P.subT (pre := [(hn1, .inr (2, [.ref hs, .ref h, .ref kn, .ref te, .ref ho, .ref co])), (h, .inr (3, [.ref hs, .long r2.op, r2.vA, r2.vL])), (kn, .inl (k 1, 6, .inl k2)), (te, .inl (k 1, 6, .inl t2)), (hs, .inr (5, fs)), (hf, .inl (k 1, 36, .inl f)), (hg, .inl (k 1, 32, .inl g))]) (pre' := [(hn1, .inr (2, [.ref hs, .ref h, .ref kn, .ref te, .ref ho, .ref co])), (h, .inr (3, [.ref hs, .long r2.op, r2.vA, r2.vL])), (kn, .inl (k 1, 6, .inl k2)), (te, .inl (k 1, 6, .inl t2)), (hs, .inr (5, fs)), (hf, .inl (k 1, 36, .inl f)), (hg, .inl (k 1, 32, .inl g))]) (tl := r2.tl) hP [0, 1, 2, 3, 4, 5, 6] rfl) (va_D.subT (pre := [(hn1, .inr (2, [.ref hs, .ref h, .ref kn, .ref te, .ref ho, .ref co])), (h, .inr (3, [.ref hs, .long r2.op, r2.vA, r2.vL])), (kn, .inl (k 1, 6, .inl k2)), (te, .inl (k 1, 6, .inl t2)), (hs, .inr (5, fs)), (hf, .inl (k 1, 36, .inl f)), (hg, .inl (k 1, 32, .inl g))]) (pre' := [(hn1, .inr (2, [.ref hs, .ref h, .ref kn, .ref te, .ref ho, .ref co])), (h, .inr (3, [.ref hs, .long r2.op, r2.vA, r2.vL])), (kn, .inl (k 1, 6, .inl k2)), (te, .inl (k 1, 6, .inl t2)), (hs, .inr (5, fs)), (hf, .inl (k 1, 36, .inl f)), (hg, .inl (k 1, 32, .inl g))]) (tl := r2.tl) hD [0, 1, 2, 3, 4, 5, 6] rfl rfl) dX2_tellOn_115
      ·
        have c_1 := mt (zle (x := iZ n) (y := iZ i) rfl rfl ⟨by omega, by omega⟩ ⟨by omega, by omega⟩).mpr c_1
        refine lv_iload_n hx hb dX2_tellOn_13 rfl (lv_at hl 0 rfl) ?_
        refine lv_iload_n hx hb dX2_tellOn_14 rfl (lv_at hl 2 rfl) ?_
        refine lv_icmp_ne (tgt := 22) hx hb dX2_tellOn_15 rfl (fun c_2 => ?_) (fun c_2 => ?_)
        ·
          have c_2 := mt (zeq (x := iZ i) (y := iZ a) rfl rfl ⟨by omega, by omega⟩ ⟨by omega, by omega⟩).mpr c_2
          refine lv_aload_n hx hb dX2_tellOn_22 rfl (lv_at hl 1 rfl) ?_
          refine va_get (D := D) (ci := 2) (v := .ref h) (C := RX2) (T := TX2) (N := 6) hx hb hts iX2 hown hK hP 0 rfl rfl 1 (bl rfl) (hts _ qf_X2_28) (fun _ h => h) rfl dX2_tellOn_23 ?_
          refine lv_iload_n hx hb dX2_tellOn_26 rfl (lv_at hl 2 rfl) ?_
          refine lv_aload_n hx hb dX2_tellOn_27 rfl (lv_at hl 1 rfl) ?_
          refine va_get (D := D) (ci := 2) (v := .ref kn) (C := RX2) (T := TX2) (N := 6) hx hb hts iX2 hown hK hP 0 rfl rfl 2 (bl rfl) (hts _ qf_X2_9) (fun _ h => h) rfl dX2_tellOn_28 ?_
          refine lv_iload_n hx hb dX2_tellOn_31 rfl (lv_at hl 2 rfl) ?_
          refine va_iald hx hb hK hP 2 1 rfl rfl (zin (e := a) (n := 6) ⟨by omega, by omega⟩ (bl rfl)) dX2_tellOn_32 ?_
          refine lv_topi (fun x_3 ex_3 => ?_)
          obtain rfl : x_3 = iZ (gz k2 a) := ex_3.trans (gz_eq ⟨by omega, by omega⟩)
          have h_4 := rgk2 a (by omega) (by omega)
          refine lv_iload_n hx hb dX2_tellOn_33 rfl (lv_at hl 0 rfl) ?_
          refine CXV (r := r2) (b0 := r0.b) (As := [.int (iZ a), .int (iZ (gz k2 a)), .int (iZ i)]) (rest := []) (ws := [(hn1, .inr (2, [.ref hs, .ref h, .ref kn, .ref te, .ref ho, .ref co])), (h, .inr (3, [.ref hs, .long r2.op, r2.vA, r2.vL])), (kn, .inl (k 1, 6, .inl k2)), (te, .inl (k 1, 6, .inl t2)), (hs, .inr (5, fs)), (hf, .inl (k 1, 36, .inl f)), (hg, .inl (k 1, 32, .inl g))]) (wc := _) (wr := [(hn1, .inr (2, [.ref hs, .ref h, .ref kn, .ref te, .ref ho, .ref co])), (kn, .inl (k 1, 6, .inl k2)), (te, .inl (k 1, 6, .inl t2))]) hx hb hml hown hts hKK hP hD hS hA hbr2 (k_arrival l D k h hs r2 rtr2 fs hf hg f1 f2 f g n hn hx0 ni f4 hni rfl a (gz k2 a) i ⟨by omega, by omega⟩ ⟨by omega, by omega⟩ ⟨by omega, by omega⟩) ci_X3_arrival qm_X2_52 ⟨Nat.le_of_ble_eq_true rfl, Nat.le_of_ble_eq_true rfl⟩ ⟨rfl, rfl⟩ [1, 4, 5, 6] [0, 2, 3] rfl rfl rfl rfl rfl (dj rfl) 0 rfl rfl rfl hl.1 rfl (Nat.le_of_ble_eq_true rfl) dX2_tellOn_34 (fun u_5 H locs hφ hP hD hS hb1 => ?_)
          obtain ⟨z_7, r_8⟩ := u_5
          obtain ⟨hz_7, rtr_8⟩ := hφ
          dsimp only at hz_7
          obtain ⟨hz_7, vz_7, mor_8⟩ := hz_7
          have rtr_8 : RT k (RX f g n ni) r_8 := rtr_8
          have hbh_6 : r_8.b = true → r0.b = true := fun h => hbr2 (hb1 h)
          refine W.ceq (cells' := cz r0.b r_8.b) (slots' := sz r0.b r_8.b) rfl rfl ?_
          refine W.eq (g2 := F0 m 37 ls [.int (iZ z_7)]) rfl ?_
          refine lv_istore_n (lv' := [(3, .int (iZ z_7)), (2, .int (iZ i)), (0, .ref hn1), (1, .int (iZ a))]) hx hb dX2_tellOn_37 rfl hl (bl rfl) rfl (fun ls hl => ?_)
          refine lv_iload_n hx hb dX2_tellOn_38 rfl (lv_at hl 0 rfl) ?_
          refine lv_iconst (v := iZ (-1)) hx hb dX2_tellOn_39 rfl ?_
          refine lv_icmp_eq (tgt := 109) hx hb dX2_tellOn_40 rfl (fun c_9 => ?_) (fun c_9 => ?_)
          ·
            have c_9 := (zeq (x := iZ z_7) (y := iZ (-1)) rfl rfl ⟨by omega, by omega⟩ wn_m1).mp c_9
            refine lv_iinc (v := iZ (i + 1)) (lv' := [(2, .int (iZ (i + 1))), (3, .int (iZ z_7)), (0, .ref hn1), (1, .int (iZ a))]) hx hb dX2_tellOn_109 hl (k := 1) rfl (iZ_add i 1) (by decide) rfl (fun ls hl => ?_)
            refine lv_goto (tgt := 2) hx hb dX2_tellOn_112 rfl ?_
            exact ih1  r_8 _ B2 _ _ _ _ _ (by omega) rtr_8 hbh_6 (by omega) (by omega) ⟨te_n (z := z_7) hq2 hx0 ⟨by omega, by omega⟩ hT9 ⟨by omega, by omega⟩ (Or.inr ⟨by omega, vz_7, by omega⟩), hb2⟩ rgk2 rgt2 (va_P.subT (pre := [(hn1, .inr (2, [.ref hs, .ref h, .ref kn, .ref te, .ref ho, .ref co])), (kn, .inl (k 1, 6, .inl k2)), (te, .inl (k 1, 6, .inl t2)), (h, .inr (3, [.ref hs, .long r_8.op, r_8.vA, r_8.vL])), (hs, .inr (5, fs)), (hf, .inl (k 1, 36, .inl f)), (hg, .inl (k 1, 32, .inl g))]) (pre' := [(hn1, .inr (2, [.ref hs, .ref h, .ref kn, .ref te, .ref ho, .ref co])), (h, .inr (3, [.ref hs, .long r_8.op, r_8.vA, r_8.vL])), (kn, .inl (k 1, 6, .inl k2)), (te, .inl (k 1, 6, .inl t2)), (hs, .inr (5, fs)), (hf, .inl (k 1, 36, .inl f)), (hg, .inl (k 1, 32, .inl g))]) (tl := r_8.tl) hP [0, 3, 1, 2, 4, 5, 6] rfl) (va_D.subT (pre := [(hn1, .inr (2, [.ref hs, .ref h, .ref kn, .ref te, .ref ho, .ref co])), (kn, .inl (k 1, 6, .inl k2)), (te, .inl (k 1, 6, .inl t2)), (h, .inr (3, [.ref hs, .long r_8.op, r_8.vA, r_8.vL])), (hs, .inr (5, fs)), (hf, .inl (k 1, 36, .inl f)), (hg, .inl (k 1, 32, .inl g))]) (pre' := [(hn1, .inr (2, [.ref hs, .ref h, .ref kn, .ref te, .ref ho, .ref co])), (h, .inr (3, [.ref hs, .long r_8.op, r_8.vA, r_8.vL])), (kn, .inl (k 1, 6, .inl k2)), (te, .inl (k 1, 6, .inl t2)), (hs, .inr (5, fs)), (hf, .inl (k 1, 36, .inl f)), (hg, .inl (k 1, 32, .inl g))]) (tl := r_8.tl) hD [0, 3, 1, 2, 4, 5, 6] rfl rfl) hS (lv_sub hl [0, 2, 3] rfl)
          ·
            have c_9 := mt (zeq (x := iZ z_7) (y := iZ (-1)) rfl rfl ⟨by omega, by omega⟩ wn_m1).mpr c_9
            refine lv_aload_n hx hb dX2_tellOn_43 rfl (lv_at hl 2 rfl) ?_
            refine va_get (D := D) (ci := 2) (v := .ref kn) (C := RX2) (T := TX2) (N := 6) hx hb hts iX2 hown hK hP 0 rfl rfl 2 (bl rfl) (hts _ qf_X2_9) (fun _ h => h) rfl dX2_tellOn_44 ?_
            refine lv_iload_n hx hb dX2_tellOn_47 rfl (lv_at hl 1 rfl) ?_
            refine va_iald hx hb hK hP 1 1 rfl rfl (zin (e := i) (n := 6) ⟨by omega, by omega⟩ (bl rfl)) dX2_tellOn_48 ?_
            refine lv_topi (fun x_10 ex_10 => ?_)
            obtain rfl : x_10 = iZ (gz k2 i) := ex_10.trans (gz_eq ⟨by omega, by omega⟩)
            have h_11 := rgk2 i (by omega) (by omega)
            refine lv_iconst (v := iZ (-1)) hx hb dX2_tellOn_49 rfl ?_
            refine lv_icmp_eq (tgt := 63) hx hb dX2_tellOn_50 rfl (fun c_12 => ?_) (fun c_12 => ?_)
            ·
              have c_12 := (zeq (x := iZ (gz k2 i)) (y := iZ (-1)) rfl rfl (gz_rg k2 i) wn_m1).mp c_12
              refine lv_iconst (v := iZ 1) hx hb dX2_tellOn_63 rfl ?_
              refine lv_goto (tgt := 68) hx hb dX2_tellOn_64 rfl ?_
              refine lv_istore (lv' := [(4, .int (iZ 1)), (3, .int (iZ z_7)), (2, .int (iZ i)), (0, .ref hn1), (1, .int (iZ a))]) hx hb dX2_tellOn_68 hl (bl rfl) rfl (fun ls hl => ?_)
              refine lv_iload hx hb dX2_tellOn_70 (lv_at hl 0 rfl) ?_
              refine lv_if_ne (tgt := 95) hx hb dX2_tellOn_72 rfl (fun _ => ?_) (fun c => absurd c (by decide))
              refine lv_aload_n hx hb dX2_tellOn_95 rfl (lv_at hl 3 rfl) ?_
              refine va_get (D := D) (ci := 2) (v := .ref kn) (C := RX2) (T := TX2) (N := 6) hx hb hts iX2 hown hK hP 0 rfl rfl 2 (bl rfl) (hts _ qf_X2_9) (fun _ h => h) rfl dX2_tellOn_96 ?_
              refine lv_iload_n hx hb dX2_tellOn_99 rfl (lv_at hl 2 rfl) ?_
              refine lv_iload_n hx hb dX2_tellOn_100 rfl (lv_at hl 1 rfl) ?_
              refine va_iast hx hb hK hP hD hS 1 1 rfl rfl (zin (e := i) (n := 6) ⟨by omega, by omega⟩ (bl rfl)) dX2_tellOn_101 (fun H locs hP hD hS => ?_)
              obtain ⟨f_14, hf_14⟩ : ∃ gg9, gg9 = upd k2 (iZ i).toNatClampNeg (iZ z_7) := ⟨_, rfl⟩
              rw [← hf_14] at hP hD
              have rgf_14 := rg_upd rgk2 hf_14 (by omega) ⟨by omega, by omega⟩ ⟨by omega, by omega⟩
              refine lv_aload_n hx hb dX2_tellOn_102 rfl (lv_at hl 3 rfl) ?_
              refine va_get (D := D) (ci := 2) (v := .ref te) (C := RX2) (T := TX2) (N := 6) hx hb hts iX2 hown hK hP 0 rfl rfl 3 (bl rfl) (hts _ qf_X2_15) (fun _ h => h) rfl dX2_tellOn_103 ?_
              refine lv_iload_n hx hb dX2_tellOn_106 rfl (lv_at hl 2 rfl) ?_
              refine lv_iload_n hx hb dX2_tellOn_107 rfl (lv_at hl 4 rfl) ?_
              refine va_iast hx hb hK hP hD hS 2 1 rfl rfl (zin (e := i) (n := 6) ⟨by omega, by omega⟩ (bl rfl)) dX2_tellOn_108 (fun H locs hP hD hS => ?_)
              obtain ⟨f_15, hf_15⟩ : ∃ gg9, gg9 = upd t2 (iZ i).toNatClampNeg (iZ a) := ⟨_, rfl⟩
              rw [← hf_15] at hP hD
              have rgf_15 := rg_upd rgt2 hf_15 (by omega) ⟨by omega, by omega⟩ ⟨by omega, by omega⟩
              refine lv_iinc (v := iZ (i + 1)) (lv' := [(2, .int (iZ (i + 1))), (4, .int (iZ 1)), (3, .int (iZ z_7)), (0, .ref hn1), (1, .int (iZ a))]) hx hb dX2_tellOn_109 hl (k := 2) rfl (iZ_add i 1) (by decide) rfl (fun ls hl => ?_)
              refine lv_goto (tgt := 2) hx hb dX2_tellOn_112 rfl ?_
              have tu_16 := te_u hq2 hx0 hn hX9 ⟨by omega, by omega⟩ hT9 ⟨by omega, by omega⟩ (show ¬ i = a from (by omega)) vz_7 (by omega) ⟨by omega, by omega⟩ (by omega) hf_14 hf_15
              exact ih1  r_8 _ (fun o => if o = i then B2 a + 1 else B2 o) _ _ _ _ _ (by omega) rtr_8 hbh_6 (by omega) (by omega) ⟨tu_16.1, fun r9 h1 h2 h3 => (if_neg (fun e9 => tu_16.2 (by rw [← e9]; exact h1))).trans (hb2 r9 h1 h2 h3)⟩ rgf_14 rgf_15 (va_P.subT (pre := [(hn1, .inr (2, [.ref hs, .ref h, .ref kn, .ref te, .ref ho, .ref co])), (kn, .inl (k 1, 6, .inl f_14)), (te, .inl (k 1, 6, .inl f_15)), (h, .inr (3, [.ref hs, .long r_8.op, r_8.vA, r_8.vL])), (hs, .inr (5, fs)), (hf, .inl (k 1, 36, .inl f)), (hg, .inl (k 1, 32, .inl g))]) (pre' := [(hn1, .inr (2, [.ref hs, .ref h, .ref kn, .ref te, .ref ho, .ref co])), (h, .inr (3, [.ref hs, .long r_8.op, r_8.vA, r_8.vL])), (kn, .inl (k 1, 6, .inl f_14)), (te, .inl (k 1, 6, .inl f_15)), (hs, .inr (5, fs)), (hf, .inl (k 1, 36, .inl f)), (hg, .inl (k 1, 32, .inl g))]) (tl := r_8.tl) hP [0, 3, 1, 2, 4, 5, 6] rfl) (va_D.subT (pre := [(hn1, .inr (2, [.ref hs, .ref h, .ref kn, .ref te, .ref ho, .ref co])), (kn, .inl (k 1, 6, .inl f_14)), (te, .inl (k 1, 6, .inl f_15)), (h, .inr (3, [.ref hs, .long r_8.op, r_8.vA, r_8.vL])), (hs, .inr (5, fs)), (hf, .inl (k 1, 36, .inl f)), (hg, .inl (k 1, 32, .inl g))]) (pre' := [(hn1, .inr (2, [.ref hs, .ref h, .ref kn, .ref te, .ref ho, .ref co])), (h, .inr (3, [.ref hs, .long r_8.op, r_8.vA, r_8.vL])), (kn, .inl (k 1, 6, .inl f_14)), (te, .inl (k 1, 6, .inl f_15)), (hs, .inr (5, fs)), (hf, .inl (k 1, 36, .inl f)), (hg, .inl (k 1, 32, .inl g))]) (tl := r_8.tl) hD [0, 3, 1, 2, 4, 5, 6] rfl rfl) hS (lv_sub hl [0, 3, 4] rfl)
            ·
              have c_12 := mt (zeq (x := iZ (gz k2 i)) (y := iZ (-1)) rfl rfl (gz_rg k2 i) wn_m1).mpr c_12
              refine lv_iload_n hx hb dX2_tellOn_53 rfl (lv_at hl 0 rfl) ?_
              refine lv_aload_n hx hb dX2_tellOn_54 rfl (lv_at hl 2 rfl) ?_
              refine va_get (D := D) (ci := 2) (v := .ref kn) (C := RX2) (T := TX2) (N := 6) hx hb hts iX2 hown hK hP 0 rfl rfl 2 (bl rfl) (hts _ qf_X2_9) (fun _ h => h) rfl dX2_tellOn_55 ?_
              refine lv_iload_n hx hb dX2_tellOn_58 rfl (lv_at hl 1 rfl) ?_
              refine va_iald hx hb hK hP 1 1 rfl rfl (zin (e := i) (n := 6) ⟨by omega, by omega⟩ (bl rfl)) dX2_tellOn_59 ?_
              refine lv_topi (fun x_17 ex_17 => ?_)
              obtain rfl : x_17 = iZ (gz k2 i) := ex_17.trans (gz_eq ⟨by omega, by omega⟩)
              have h_18 := rgk2 i (by omega) (by omega)
              refine lv_icmp_ge (tgt := 67) hx hb dX2_tellOn_60 rfl (fun c_19 => ?_) (fun c_19 => ?_)
              ·
                have c_19 := (zle (x := iZ (gz k2 i)) (y := iZ z_7) rfl rfl (gz_rg k2 i) ⟨by omega, by omega⟩).mp c_19
                refine lv_iconst (v := iZ 0) hx hb dX2_tellOn_67 rfl ?_
                refine lv_istore (lv' := [(4, .int (iZ 0)), (3, .int (iZ z_7)), (2, .int (iZ i)), (0, .ref hn1), (1, .int (iZ a))]) hx hb dX2_tellOn_68 hl (bl rfl) rfl (fun ls hl => ?_)
                refine lv_iload hx hb dX2_tellOn_70 (lv_at hl 0 rfl) ?_
                refine lv_if_ne (tgt := 95) hx hb dX2_tellOn_72 rfl (fun c => absurd (by decide) c) (fun _ => ?_)
                refine lv_iload_n hx hb dX2_tellOn_75 rfl (lv_at hl 1 rfl) ?_
                refine lv_aload_n hx hb dX2_tellOn_76 rfl (lv_at hl 3 rfl) ?_
                refine va_get (D := D) (ci := 2) (v := .ref kn) (C := RX2) (T := TX2) (N := 6) hx hb hts iX2 hown hK hP 0 rfl rfl 2 (bl rfl) (hts _ qf_X2_9) (fun _ h => h) rfl dX2_tellOn_77 ?_
                refine lv_iload_n hx hb dX2_tellOn_80 rfl (lv_at hl 2 rfl) ?_
                refine va_iald hx hb hK hP 1 1 rfl rfl (zin (e := i) (n := 6) ⟨by omega, by omega⟩ (bl rfl)) dX2_tellOn_81 ?_
                refine lv_topi (fun x_21 ex_21 => ?_)
                obtain rfl : x_21 = iZ (gz k2 i) := ex_21.trans (gz_eq ⟨by omega, by omega⟩)
                have h_22 := rgk2 i (by omega) (by omega)
                refine lv_icmp_ne (tgt := 109) hx hb dX2_tellOn_82 rfl (fun c_23 => ?_) (fun c_23 => ?_)
                ·
                  have c_23 := mt (zeq (x := iZ z_7) (y := iZ (gz k2 i)) rfl rfl ⟨by omega, by omega⟩ (gz_rg k2 i)).mpr c_23
                  refine lv_iinc (v := iZ (i + 1)) (lv' := [(2, .int (iZ (i + 1))), (4, .int (iZ 0)), (3, .int (iZ z_7)), (0, .ref hn1), (1, .int (iZ a))]) hx hb dX2_tellOn_109 hl (k := 2) rfl (iZ_add i 1) (by decide) rfl (fun ls hl => ?_)
                  refine lv_goto (tgt := 2) hx hb dX2_tellOn_112 rfl ?_
                  exact ih1  r_8 _ B2 _ _ _ _ _ (by omega) rtr_8 hbh_6 (by omega) (by omega) ⟨te_n (z := z_7) hq2 hx0 ⟨by omega, by omega⟩ hT9 ⟨by omega, by omega⟩ (Or.inr ⟨by omega, vz_7, by omega⟩), hb2⟩ rgk2 rgt2 (va_P.subT (pre := [(hn1, .inr (2, [.ref hs, .ref h, .ref kn, .ref te, .ref ho, .ref co])), (kn, .inl (k 1, 6, .inl k2)), (te, .inl (k 1, 6, .inl t2)), (h, .inr (3, [.ref hs, .long r_8.op, r_8.vA, r_8.vL])), (hs, .inr (5, fs)), (hf, .inl (k 1, 36, .inl f)), (hg, .inl (k 1, 32, .inl g))]) (pre' := [(hn1, .inr (2, [.ref hs, .ref h, .ref kn, .ref te, .ref ho, .ref co])), (h, .inr (3, [.ref hs, .long r_8.op, r_8.vA, r_8.vL])), (kn, .inl (k 1, 6, .inl k2)), (te, .inl (k 1, 6, .inl t2)), (hs, .inr (5, fs)), (hf, .inl (k 1, 36, .inl f)), (hg, .inl (k 1, 32, .inl g))]) (tl := r_8.tl) hP [0, 3, 1, 2, 4, 5, 6] rfl) (va_D.subT (pre := [(hn1, .inr (2, [.ref hs, .ref h, .ref kn, .ref te, .ref ho, .ref co])), (kn, .inl (k 1, 6, .inl k2)), (te, .inl (k 1, 6, .inl t2)), (h, .inr (3, [.ref hs, .long r_8.op, r_8.vA, r_8.vL])), (hs, .inr (5, fs)), (hf, .inl (k 1, 36, .inl f)), (hg, .inl (k 1, 32, .inl g))]) (pre' := [(hn1, .inr (2, [.ref hs, .ref h, .ref kn, .ref te, .ref ho, .ref co])), (h, .inr (3, [.ref hs, .long r_8.op, r_8.vA, r_8.vL])), (kn, .inl (k 1, 6, .inl k2)), (te, .inl (k 1, 6, .inl t2)), (hs, .inr (5, fs)), (hf, .inl (k 1, 36, .inl f)), (hg, .inl (k 1, 32, .inl g))]) (tl := r_8.tl) hD [0, 3, 1, 2, 4, 5, 6] rfl rfl) hS (lv_sub hl [0, 3, 4] rfl)
                ·
                  have c_23 := (zeq (x := iZ z_7) (y := iZ (gz k2 i)) rfl rfl ⟨by omega, by omega⟩ (gz_rg k2 i)).mp c_23
                  refine lv_iload_n hx hb dX2_tellOn_85 rfl (lv_at hl 4 rfl) ?_
                  refine lv_aload_n hx hb dX2_tellOn_86 rfl (lv_at hl 3 rfl) ?_
                  refine va_get (D := D) (ci := 2) (v := .ref te) (C := RX2) (T := TX2) (N := 6) hx hb hts iX2 hown hK hP 0 rfl rfl 3 (bl rfl) (hts _ qf_X2_15) (fun _ h => h) rfl dX2_tellOn_87 ?_
                  refine lv_iload_n hx hb dX2_tellOn_90 rfl (lv_at hl 2 rfl) ?_
                  refine va_iald hx hb hK hP 2 1 rfl rfl (zin (e := i) (n := 6) ⟨by omega, by omega⟩ (bl rfl)) dX2_tellOn_91 ?_
                  refine lv_topi (fun x_24 ex_24 => ?_)
                  obtain rfl : x_24 = iZ (gz t2 i) := ex_24.trans (gz_eq ⟨by omega, by omega⟩)
                  have h_25 := rgt2 i (by omega) (by omega)
                  refine lv_icmp_ge (tgt := 109) hx hb dX2_tellOn_92 rfl (fun c_26 => ?_) (fun c_26 => ?_)
                  ·
                    have c_26 := (zle (x := iZ (gz t2 i)) (y := iZ a) rfl rfl (gz_rg t2 i) ⟨by omega, by omega⟩).mp c_26
                    refine lv_iinc (v := iZ (i + 1)) (lv' := [(2, .int (iZ (i + 1))), (4, .int (iZ 0)), (3, .int (iZ z_7)), (0, .ref hn1), (1, .int (iZ a))]) hx hb dX2_tellOn_109 hl (k := 2) rfl (iZ_add i 1) (by decide) rfl (fun ls hl => ?_)
                    refine lv_goto (tgt := 2) hx hb dX2_tellOn_112 rfl ?_
                    exact ih1  r_8 _ B2 _ _ _ _ _ (by omega) rtr_8 hbh_6 (by omega) (by omega) ⟨te_n (z := z_7) hq2 hx0 ⟨by omega, by omega⟩ hT9 ⟨by omega, by omega⟩ (Or.inr ⟨by omega, vz_7, by omega⟩), hb2⟩ rgk2 rgt2 (va_P.subT (pre := [(hn1, .inr (2, [.ref hs, .ref h, .ref kn, .ref te, .ref ho, .ref co])), (kn, .inl (k 1, 6, .inl k2)), (te, .inl (k 1, 6, .inl t2)), (h, .inr (3, [.ref hs, .long r_8.op, r_8.vA, r_8.vL])), (hs, .inr (5, fs)), (hf, .inl (k 1, 36, .inl f)), (hg, .inl (k 1, 32, .inl g))]) (pre' := [(hn1, .inr (2, [.ref hs, .ref h, .ref kn, .ref te, .ref ho, .ref co])), (h, .inr (3, [.ref hs, .long r_8.op, r_8.vA, r_8.vL])), (kn, .inl (k 1, 6, .inl k2)), (te, .inl (k 1, 6, .inl t2)), (hs, .inr (5, fs)), (hf, .inl (k 1, 36, .inl f)), (hg, .inl (k 1, 32, .inl g))]) (tl := r_8.tl) hP [0, 3, 1, 2, 4, 5, 6] rfl) (va_D.subT (pre := [(hn1, .inr (2, [.ref hs, .ref h, .ref kn, .ref te, .ref ho, .ref co])), (kn, .inl (k 1, 6, .inl k2)), (te, .inl (k 1, 6, .inl t2)), (h, .inr (3, [.ref hs, .long r_8.op, r_8.vA, r_8.vL])), (hs, .inr (5, fs)), (hf, .inl (k 1, 36, .inl f)), (hg, .inl (k 1, 32, .inl g))]) (pre' := [(hn1, .inr (2, [.ref hs, .ref h, .ref kn, .ref te, .ref ho, .ref co])), (h, .inr (3, [.ref hs, .long r_8.op, r_8.vA, r_8.vL])), (kn, .inl (k 1, 6, .inl k2)), (te, .inl (k 1, 6, .inl t2)), (hs, .inr (5, fs)), (hf, .inl (k 1, 36, .inl f)), (hg, .inl (k 1, 32, .inl g))]) (tl := r_8.tl) hD [0, 3, 1, 2, 4, 5, 6] rfl rfl) hS (lv_sub hl [0, 3, 4] rfl)
                  ·
                    have c_26 := mt (zle (x := iZ (gz t2 i)) (y := iZ a) rfl rfl (gz_rg t2 i) ⟨by omega, by omega⟩).mpr c_26
                    refine lv_aload_n hx hb dX2_tellOn_95 rfl (lv_at hl 3 rfl) ?_
                    refine va_get (D := D) (ci := 2) (v := .ref kn) (C := RX2) (T := TX2) (N := 6) hx hb hts iX2 hown hK hP 0 rfl rfl 2 (bl rfl) (hts _ qf_X2_9) (fun _ h => h) rfl dX2_tellOn_96 ?_
                    refine lv_iload_n hx hb dX2_tellOn_99 rfl (lv_at hl 2 rfl) ?_
                    refine lv_iload_n hx hb dX2_tellOn_100 rfl (lv_at hl 1 rfl) ?_
                    refine va_iast hx hb hK hP hD hS 1 1 rfl rfl (zin (e := i) (n := 6) ⟨by omega, by omega⟩ (bl rfl)) dX2_tellOn_101 (fun H locs hP hD hS => ?_)
                    obtain ⟨f_27, hf_27⟩ : ∃ gg9, gg9 = upd k2 (iZ i).toNatClampNeg (iZ z_7) := ⟨_, rfl⟩
                    rw [← hf_27] at hP hD
                    have rgf_27 := rg_upd rgk2 hf_27 (by omega) ⟨by omega, by omega⟩ ⟨by omega, by omega⟩
                    refine lv_aload_n hx hb dX2_tellOn_102 rfl (lv_at hl 3 rfl) ?_
                    refine va_get (D := D) (ci := 2) (v := .ref te) (C := RX2) (T := TX2) (N := 6) hx hb hts iX2 hown hK hP 0 rfl rfl 3 (bl rfl) (hts _ qf_X2_15) (fun _ h => h) rfl dX2_tellOn_103 ?_
                    refine lv_iload_n hx hb dX2_tellOn_106 rfl (lv_at hl 2 rfl) ?_
                    refine lv_iload_n hx hb dX2_tellOn_107 rfl (lv_at hl 4 rfl) ?_
                    refine va_iast hx hb hK hP hD hS 2 1 rfl rfl (zin (e := i) (n := 6) ⟨by omega, by omega⟩ (bl rfl)) dX2_tellOn_108 (fun H locs hP hD hS => ?_)
                    obtain ⟨f_28, hf_28⟩ : ∃ gg9, gg9 = upd t2 (iZ i).toNatClampNeg (iZ a) := ⟨_, rfl⟩
                    rw [← hf_28] at hP hD
                    have rgf_28 := rg_upd rgt2 hf_28 (by omega) ⟨by omega, by omega⟩ ⟨by omega, by omega⟩
                    refine lv_iinc (v := iZ (i + 1)) (lv' := [(2, .int (iZ (i + 1))), (4, .int (iZ 0)), (3, .int (iZ z_7)), (0, .ref hn1), (1, .int (iZ a))]) hx hb dX2_tellOn_109 hl (k := 2) rfl (iZ_add i 1) (by decide) rfl (fun ls hl => ?_)
                    refine lv_goto (tgt := 2) hx hb dX2_tellOn_112 rfl ?_
                    have tu_29 := te_u hq2 hx0 hn hX9 ⟨by omega, by omega⟩ hT9 ⟨by omega, by omega⟩ (show ¬ i = a from (by omega)) vz_7 (by omega) ⟨by omega, by omega⟩ (by omega) hf_27 hf_28
                    exact ih1  r_8 _ (fun o => if o = i then B2 a + 1 else B2 o) _ _ _ _ _ (by omega) rtr_8 hbh_6 (by omega) (by omega) ⟨tu_29.1, fun r9 h1 h2 h3 => (if_neg (fun e9 => tu_29.2 (by rw [← e9]; exact h1))).trans (hb2 r9 h1 h2 h3)⟩ rgf_27 rgf_28 (va_P.subT (pre := [(hn1, .inr (2, [.ref hs, .ref h, .ref kn, .ref te, .ref ho, .ref co])), (kn, .inl (k 1, 6, .inl f_27)), (te, .inl (k 1, 6, .inl f_28)), (h, .inr (3, [.ref hs, .long r_8.op, r_8.vA, r_8.vL])), (hs, .inr (5, fs)), (hf, .inl (k 1, 36, .inl f)), (hg, .inl (k 1, 32, .inl g))]) (pre' := [(hn1, .inr (2, [.ref hs, .ref h, .ref kn, .ref te, .ref ho, .ref co])), (h, .inr (3, [.ref hs, .long r_8.op, r_8.vA, r_8.vL])), (kn, .inl (k 1, 6, .inl f_27)), (te, .inl (k 1, 6, .inl f_28)), (hs, .inr (5, fs)), (hf, .inl (k 1, 36, .inl f)), (hg, .inl (k 1, 32, .inl g))]) (tl := r_8.tl) hP [0, 3, 1, 2, 4, 5, 6] rfl) (va_D.subT (pre := [(hn1, .inr (2, [.ref hs, .ref h, .ref kn, .ref te, .ref ho, .ref co])), (kn, .inl (k 1, 6, .inl f_27)), (te, .inl (k 1, 6, .inl f_28)), (h, .inr (3, [.ref hs, .long r_8.op, r_8.vA, r_8.vL])), (hs, .inr (5, fs)), (hf, .inl (k 1, 36, .inl f)), (hg, .inl (k 1, 32, .inl g))]) (pre' := [(hn1, .inr (2, [.ref hs, .ref h, .ref kn, .ref te, .ref ho, .ref co])), (h, .inr (3, [.ref hs, .long r_8.op, r_8.vA, r_8.vL])), (kn, .inl (k 1, 6, .inl f_27)), (te, .inl (k 1, 6, .inl f_28)), (hs, .inr (5, fs)), (hf, .inl (k 1, 36, .inl f)), (hg, .inl (k 1, 32, .inl g))]) (tl := r_8.tl) hD [0, 3, 1, 2, 4, 5, 6] rfl rfl) hS (lv_sub hl [0, 3, 4] rfl)
              ·
                have c_19 := mt (zle (x := iZ (gz k2 i)) (y := iZ z_7) rfl rfl (gz_rg k2 i) ⟨by omega, by omega⟩).mpr c_19
                refine lv_iconst (v := iZ 1) hx hb dX2_tellOn_63 rfl ?_
                refine lv_goto (tgt := 68) hx hb dX2_tellOn_64 rfl ?_
                refine lv_istore (lv' := [(4, .int (iZ 1)), (3, .int (iZ z_7)), (2, .int (iZ i)), (0, .ref hn1), (1, .int (iZ a))]) hx hb dX2_tellOn_68 hl (bl rfl) rfl (fun ls hl => ?_)
                refine lv_iload hx hb dX2_tellOn_70 (lv_at hl 0 rfl) ?_
                refine lv_if_ne (tgt := 95) hx hb dX2_tellOn_72 rfl (fun _ => ?_) (fun c => absurd c (by decide))
                refine lv_aload_n hx hb dX2_tellOn_95 rfl (lv_at hl 3 rfl) ?_
                refine va_get (D := D) (ci := 2) (v := .ref kn) (C := RX2) (T := TX2) (N := 6) hx hb hts iX2 hown hK hP 0 rfl rfl 2 (bl rfl) (hts _ qf_X2_9) (fun _ h => h) rfl dX2_tellOn_96 ?_
                refine lv_iload_n hx hb dX2_tellOn_99 rfl (lv_at hl 2 rfl) ?_
                refine lv_iload_n hx hb dX2_tellOn_100 rfl (lv_at hl 1 rfl) ?_
                refine va_iast hx hb hK hP hD hS 1 1 rfl rfl (zin (e := i) (n := 6) ⟨by omega, by omega⟩ (bl rfl)) dX2_tellOn_101 (fun H locs hP hD hS => ?_)
                obtain ⟨f_31, hf_31⟩ : ∃ gg9, gg9 = upd k2 (iZ i).toNatClampNeg (iZ z_7) := ⟨_, rfl⟩
                rw [← hf_31] at hP hD
                have rgf_31 := rg_upd rgk2 hf_31 (by omega) ⟨by omega, by omega⟩ ⟨by omega, by omega⟩
                refine lv_aload_n hx hb dX2_tellOn_102 rfl (lv_at hl 3 rfl) ?_
                refine va_get (D := D) (ci := 2) (v := .ref te) (C := RX2) (T := TX2) (N := 6) hx hb hts iX2 hown hK hP 0 rfl rfl 3 (bl rfl) (hts _ qf_X2_15) (fun _ h => h) rfl dX2_tellOn_103 ?_
                refine lv_iload_n hx hb dX2_tellOn_106 rfl (lv_at hl 2 rfl) ?_
                refine lv_iload_n hx hb dX2_tellOn_107 rfl (lv_at hl 4 rfl) ?_
                refine va_iast hx hb hK hP hD hS 2 1 rfl rfl (zin (e := i) (n := 6) ⟨by omega, by omega⟩ (bl rfl)) dX2_tellOn_108 (fun H locs hP hD hS => ?_)
                obtain ⟨f_32, hf_32⟩ : ∃ gg9, gg9 = upd t2 (iZ i).toNatClampNeg (iZ a) := ⟨_, rfl⟩
                rw [← hf_32] at hP hD
                have rgf_32 := rg_upd rgt2 hf_32 (by omega) ⟨by omega, by omega⟩ ⟨by omega, by omega⟩
                refine lv_iinc (v := iZ (i + 1)) (lv' := [(2, .int (iZ (i + 1))), (4, .int (iZ 1)), (3, .int (iZ z_7)), (0, .ref hn1), (1, .int (iZ a))]) hx hb dX2_tellOn_109 hl (k := 2) rfl (iZ_add i 1) (by decide) rfl (fun ls hl => ?_)
                refine lv_goto (tgt := 2) hx hb dX2_tellOn_112 rfl ?_
                have tu_33 := te_u hq2 hx0 hn hX9 ⟨by omega, by omega⟩ hT9 ⟨by omega, by omega⟩ (show ¬ i = a from (by omega)) vz_7 (by omega) ⟨by omega, by omega⟩ (by omega) hf_31 hf_32
                exact ih1  r_8 _ (fun o => if o = i then B2 a + 1 else B2 o) _ _ _ _ _ (by omega) rtr_8 hbh_6 (by omega) (by omega) ⟨tu_33.1, fun r9 h1 h2 h3 => (if_neg (fun e9 => tu_33.2 (by rw [← e9]; exact h1))).trans (hb2 r9 h1 h2 h3)⟩ rgf_31 rgf_32 (va_P.subT (pre := [(hn1, .inr (2, [.ref hs, .ref h, .ref kn, .ref te, .ref ho, .ref co])), (kn, .inl (k 1, 6, .inl f_31)), (te, .inl (k 1, 6, .inl f_32)), (h, .inr (3, [.ref hs, .long r_8.op, r_8.vA, r_8.vL])), (hs, .inr (5, fs)), (hf, .inl (k 1, 36, .inl f)), (hg, .inl (k 1, 32, .inl g))]) (pre' := [(hn1, .inr (2, [.ref hs, .ref h, .ref kn, .ref te, .ref ho, .ref co])), (h, .inr (3, [.ref hs, .long r_8.op, r_8.vA, r_8.vL])), (kn, .inl (k 1, 6, .inl f_31)), (te, .inl (k 1, 6, .inl f_32)), (hs, .inr (5, fs)), (hf, .inl (k 1, 36, .inl f)), (hg, .inl (k 1, 32, .inl g))]) (tl := r_8.tl) hP [0, 3, 1, 2, 4, 5, 6] rfl) (va_D.subT (pre := [(hn1, .inr (2, [.ref hs, .ref h, .ref kn, .ref te, .ref ho, .ref co])), (kn, .inl (k 1, 6, .inl f_31)), (te, .inl (k 1, 6, .inl f_32)), (h, .inr (3, [.ref hs, .long r_8.op, r_8.vA, r_8.vL])), (hs, .inr (5, fs)), (hf, .inl (k 1, 36, .inl f)), (hg, .inl (k 1, 32, .inl g))]) (pre' := [(hn1, .inr (2, [.ref hs, .ref h, .ref kn, .ref te, .ref ho, .ref co])), (h, .inr (3, [.ref hs, .long r_8.op, r_8.vA, r_8.vL])), (kn, .inl (k 1, 6, .inl f_31)), (te, .inl (k 1, 6, .inl f_32)), (hs, .inr (5, fs)), (hf, .inl (k 1, 36, .inl f)), (hg, .inl (k 1, 32, .inl g))]) (tl := r_8.tl) hD [0, 3, 1, 2, 4, 5, 6] rfl rfl) hS (lv_sub hl [0, 3, 4] rfl)
        ·
          have c_2 := (zeq (x := iZ i) (y := iZ a) rfl rfl ⟨by omega, by omega⟩ ⟨by omega, by omega⟩).mp c_2
          refine lv_iconst (v := iZ (-1)) hx hb dX2_tellOn_18 rfl ?_
          refine lv_goto (tgt := 37) hx hb dX2_tellOn_19 rfl ?_
          refine lv_istore_n (lv' := [(3, .int (iZ (-1))), (2, .int (iZ i)), (0, .ref hn1), (1, .int (iZ a))]) hx hb dX2_tellOn_37 rfl hl (bl rfl) rfl (fun ls hl => ?_)
          refine lv_iload_n hx hb dX2_tellOn_38 rfl (lv_at hl 0 rfl) ?_
          refine lv_iconst (v := iZ (-1)) hx hb dX2_tellOn_39 rfl ?_
          refine lv_icmp_eq (tgt := 109) hx hb dX2_tellOn_40 rfl (fun _ => ?_) (fun c => absurd (by decide) c)
          refine lv_iinc (v := iZ (i + 1)) (lv' := [(2, .int (iZ (i + 1))), (3, .int (iZ (-1))), (0, .ref hn1), (1, .int (iZ a))]) hx hb dX2_tellOn_109 hl (k := 1) rfl (iZ_add i 1) (by decide) rfl (fun ls hl => ?_)
          refine lv_goto (tgt := 2) hx hb dX2_tellOn_112 rfl ?_
          exact ih1  r2 _ B2 _ _ _ _ _ (by omega) rtr2 hbr2 (by omega) (by omega) ⟨te_n (z := 0) hq2 hx0 ⟨by omega, by omega⟩ hT9 ⟨by omega, by omega⟩ (Or.inl (by omega)), hb2⟩ rgk2 rgt2 (va_P.subT (pre := [(hn1, .inr (2, [.ref hs, .ref h, .ref kn, .ref te, .ref ho, .ref co])), (h, .inr (3, [.ref hs, .long r2.op, r2.vA, r2.vL])), (kn, .inl (k 1, 6, .inl k2)), (te, .inl (k 1, 6, .inl t2)), (hs, .inr (5, fs)), (hf, .inl (k 1, 36, .inl f)), (hg, .inl (k 1, 32, .inl g))]) (pre' := [(hn1, .inr (2, [.ref hs, .ref h, .ref kn, .ref te, .ref ho, .ref co])), (h, .inr (3, [.ref hs, .long r2.op, r2.vA, r2.vL])), (kn, .inl (k 1, 6, .inl k2)), (te, .inl (k 1, 6, .inl t2)), (hs, .inr (5, fs)), (hf, .inl (k 1, 36, .inl f)), (hg, .inl (k 1, 32, .inl g))]) (tl := r2.tl) hP [0, 1, 2, 3, 4, 5, 6] rfl) (va_D.subT (pre := [(hn1, .inr (2, [.ref hs, .ref h, .ref kn, .ref te, .ref ho, .ref co])), (h, .inr (3, [.ref hs, .long r2.op, r2.vA, r2.vL])), (kn, .inl (k 1, 6, .inl k2)), (te, .inl (k 1, 6, .inl t2)), (hs, .inr (5, fs)), (hf, .inl (k 1, 36, .inl f)), (hg, .inl (k 1, 32, .inl g))]) (pre' := [(hn1, .inr (2, [.ref hs, .ref h, .ref kn, .ref te, .ref ho, .ref co])), (h, .inr (3, [.ref hs, .long r2.op, r2.vA, r2.vL])), (kn, .inl (k 1, 6, .inl k2)), (te, .inl (k 1, 6, .inl t2)), (hs, .inr (5, fs)), (hf, .inl (k 1, 36, .inl f)), (hg, .inl (k 1, 32, .inl g))]) (tl := r2.tl) hD [0, 1, 2, 3, 4, 5, 6] rfl rfl) hS (lv_sub hl [0, 2, 3] rfl)
  exact HL1 8 r0 _ B9 _ _ _ _ _ (by omega) hRT (fun h => h) (by omega) (by omega) ⟨hq9, fun r9 h1 h2 h3 => rfl⟩ rgk rgt (va_P.subT (pre := [(hn1, .inr (2, [.ref hs, .ref h, .ref kn, .ref te, .ref ho, .ref co])), (h, .inr (3, [.ref hs, .long r0.op, r0.vA, r0.vL])), (kn, .inl (k 1, 6, .inl kf)), (te, .inl (k 1, 6, .inl tf)), (hs, .inr (5, fs)), (hf, .inl (k 1, 36, .inl f)), (hg, .inl (k 1, 32, .inl g))]) (pre' := [(hn1, .inr (2, [.ref hs, .ref h, .ref kn, .ref te, .ref ho, .ref co])), (h, .inr (3, [.ref hs, .long r0.op, r0.vA, r0.vL])), (kn, .inl (k 1, 6, .inl kf)), (te, .inl (k 1, 6, .inl tf)), (hs, .inr (5, fs)), (hf, .inl (k 1, 36, .inl f)), (hg, .inl (k 1, 32, .inl g))]) (tl := r0.tl) hP [0, 1, 2, 3, 4, 5, 6] rfl) (va_D.subT (pre := [(hn1, .inr (2, [.ref hs, .ref h, .ref kn, .ref te, .ref ho, .ref co])), (h, .inr (3, [.ref hs, .long r0.op, r0.vA, r0.vL])), (kn, .inl (k 1, 6, .inl kf)), (te, .inl (k 1, 6, .inl tf)), (hs, .inr (5, fs)), (hf, .inl (k 1, 36, .inl f)), (hg, .inl (k 1, 32, .inl g))]) (pre' := [(hn1, .inr (2, [.ref hs, .ref h, .ref kn, .ref te, .ref ho, .ref co])), (h, .inr (3, [.ref hs, .long r0.op, r0.vA, r0.vL])), (kn, .inl (k 1, 6, .inl kf)), (te, .inl (k 1, 6, .inl tf)), (hs, .inr (5, fs)), (hf, .inl (k 1, 36, .inl f)), (hg, .inl (k 1, 32, .inl g))]) (tl := r0.tl) hD [0, 1, 2, 3, 4, 5, 6] rfl rfl) hS (lv_sub hl [0, 1, 2] rfl)
end
