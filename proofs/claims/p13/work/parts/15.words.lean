theorem qf_X2_24 : Cond.fieldLink RX2 24 "SlowWorlds$News" "sky" "LSlowWorlds$Sky;" ∈ gw := tbt (tb2 (List.mem_of_getElem? (i := 109) rfl)) rfl
theorem iX2 : ∀ w ∈ u_ws RX2 TX2 6, w ∈ gw := by
  intro w hw
  obtain ⟨k, hk, rfl⟩ := List.mem_map.mp hw
  have hk := List.mem_range.mp hk
  match k, hk with
  | 0, _ => exact tbt (tb2 (List.mem_of_getElem? (i := 119) rfl)) rfl
  | 1, _ => exact tbt (tb2 (List.mem_of_getElem? (i := 121) rfl)) rfl
  | 2, _ => exact tbt (tb2 (List.mem_of_getElem? (i := 123) rfl)) rfl
  | 3, _ => exact tbt (tb2 (List.mem_of_getElem? (i := 125) rfl)) rfl
  | 4, _ => exact tbt (tb2 (List.mem_of_getElem? (i := 127) rfl)) rfl
  | 5, _ => exact tbt (tb2 (List.mem_of_getElem? (i := 129) rfl)) rfl
  | (k + 6), hk => exact absurd hk (by omega)
theorem qf_X2_38 : Cond.fieldLink RX2 38 "SlowWorlds$Sky" "rocks" "I" ∈ gw := tbt (tb1 (List.mem_of_getElem? (i := 52) rfl)) rfl
theorem qf_X2_9 : Cond.fieldLink RX2 9 "SlowWorlds$News" "known" "[I" ∈ gw := tbt (tb2 (List.mem_of_getElem? (i := 111) rfl)) rfl
theorem qf_X2_28 : Cond.fieldLink RX2 28 "SlowWorlds$News" "rays" "LSlowWorlds$Rays;" ∈ gw := tbt (tb2 (List.mem_of_getElem? (i := 110) rfl)) rfl
theorem qm_X2_52 : Cond.methodLink RX2 52 yX3_arrival ∈ gw := tbt (tb4 (List.mem_of_getElem? (i := 165) rfl)) rfl
theorem qf_X2_15 : Cond.fieldLink RX2 15 "SlowWorlds$News" "tellers" "[I" ∈ gw := tbt (tb2 (List.mem_of_getElem? (i := 114) rfl)) rfl
def fb_J7_fill_53178_0 : List UInt8 := [0x03, 0x3d, 0x2a, 0xbe, 0x3e, 0x1c, 0x1d, 0xa2, 0x00, 0x0d, 0x2a, 0x1c, 0x1b, 0x4f, 0x84, 0x02, 0x01, 0xa7, 0xff, 0xf4, 0xb1]
theorem fl_J7_fill_53178_0 {p j : Nat} {b : UInt8} (e : p = 0 + j) (h : fb_J7_fill_53178_0[j]? = some b) : cJ7_fill_53178.data.toList[p]? = some b := fq_l (n := 64) (show (cJ7_fill_53178.data.toList.drop 0).take 64 = fb_J7_fill_53178_0 by decide +kernel) e h
theorem dJ7_fill_53178_0 : decode cJ7_fill_53178 0 = .ok (.iconst 0, 1) := fq1_3 (fl_J7_fill_53178_0 (j := 0) rfl rfl)
theorem dJ7_fill_53178_1 : decode cJ7_fill_53178 1 = .ok (.istore_n 2, 1) := fq1_61 (fl_J7_fill_53178_0 (j := 1) rfl rfl)
theorem dJ7_fill_53178_2 : decode cJ7_fill_53178 2 = .ok (.aload_n 0, 1) := fq1_42 (fl_J7_fill_53178_0 (j := 2) rfl rfl)
theorem dJ7_fill_53178_3 : decode cJ7_fill_53178 3 = .ok (.arraylength, 1) := fq1_190 (fl_J7_fill_53178_0 (j := 3) rfl rfl)
theorem dJ7_fill_53178_4 : decode cJ7_fill_53178 4 = .ok (.istore_n 3, 1) := fq1_62 (fl_J7_fill_53178_0 (j := 4) rfl rfl)
theorem dJ7_fill_53178_5 : decode cJ7_fill_53178 5 = .ok (.iload_n 2, 1) := fq1_28 (fl_J7_fill_53178_0 (j := 5) rfl rfl)
theorem dJ7_fill_53178_6 : decode cJ7_fill_53178 6 = .ok (.iload_n 3, 1) := fq1_29 (fl_J7_fill_53178_0 (j := 6) rfl rfl)
theorem dJ7_fill_53178_7 : decode cJ7_fill_53178 7 = .ok (.if_icmp .ge 13, 3) := fq3_162 (fl_J7_fill_53178_0 (j := 7) rfl rfl) (fl_J7_fill_53178_0 (j := 8) rfl rfl) (fl_J7_fill_53178_0 (j := 9) rfl rfl) (s2p rfl (bl rfl))
theorem dJ7_fill_53178_10 : decode cJ7_fill_53178 10 = .ok (.aload_n 0, 1) := fq1_42 (fl_J7_fill_53178_0 (j := 10) rfl rfl)
theorem dJ7_fill_53178_11 : decode cJ7_fill_53178 11 = .ok (.iload_n 2, 1) := fq1_28 (fl_J7_fill_53178_0 (j := 11) rfl rfl)
theorem dJ7_fill_53178_12 : decode cJ7_fill_53178 12 = .ok (.iload_n 1, 1) := fq1_27 (fl_J7_fill_53178_0 (j := 12) rfl rfl)
theorem dJ7_fill_53178_13 : decode cJ7_fill_53178 13 = .ok (.iastore, 1) := fq1_79 (fl_J7_fill_53178_0 (j := 13) rfl rfl)
theorem dJ7_fill_53178_14 : decode cJ7_fill_53178 14 = .ok (.iinc 2 1, 3) := fq3_132 (fl_J7_fill_53178_0 (j := 14) rfl rfl) (fl_J7_fill_53178_0 (j := 15) rfl rfl) (fl_J7_fill_53178_0 (j := 16) rfl rfl) rfl (s1p rfl (bl rfl))
theorem dJ7_fill_53178_17 : decode cJ7_fill_53178 17 = .ok (.goto (-12), 3) := fq3_167 (fl_J7_fill_53178_0 (j := 17) rfl rfl) (fl_J7_fill_53178_0 (j := 18) rfl rfl) (fl_J7_fill_53178_0 (j := 19) rfl rfl) (by decide)
theorem dJ7_fill_53178_20 : decode cJ7_fill_53178 20 = .ok (.return_, 1) := fq1_177 (fl_J7_fill_53178_0 (j := 20) rfl rfl)
def fb_X2_lastToKnow_0 : List UInt8 := [0x03, 0x3c, 0x03, 0x3d, 0x1c, 0x2a, 0xb4, 0x00, 0x18, 0xb4, 0x00, 0x26, 0xa2, 0x00, 0x26, 0x2a, 0xb4, 0x00, 0x09, 0x1c, 0x2e, 0x02, 0xa0, 0x00, 0x05, 0x02, 0xac, 0x2a, 0xb4, 0x00, 0x09, 0x1c, 0x2e, 0x2a, 0xb4, 0x00, 0x09, 0x1b, 0x2e, 0xa4, 0x00, 0x05, 0x1c, 0x3c, 0x84, 0x02, 0x01, 0xa7, 0xff, 0xd5, 0x1b, 0xac]
theorem fl_X2_lastToKnow_0 {p j : Nat} {b : UInt8} (e : p = 0 + j) (h : fb_X2_lastToKnow_0[j]? = some b) : cX2_lastToKnow.data.toList[p]? = some b := fq_l (n := 64) (show (cX2_lastToKnow.data.toList.drop 0).take 64 = fb_X2_lastToKnow_0 by decide +kernel) e h
theorem dX2_lastToKnow_0 : decode cX2_lastToKnow 0 = .ok (.iconst 0, 1) := fq1_3 (fl_X2_lastToKnow_0 (j := 0) rfl rfl)
theorem dX2_lastToKnow_1 : decode cX2_lastToKnow 1 = .ok (.istore_n 1, 1) := fq1_60 (fl_X2_lastToKnow_0 (j := 1) rfl rfl)
theorem dX2_lastToKnow_2 : decode cX2_lastToKnow 2 = .ok (.iconst 0, 1) := fq1_3 (fl_X2_lastToKnow_0 (j := 2) rfl rfl)
theorem dX2_lastToKnow_3 : decode cX2_lastToKnow 3 = .ok (.istore_n 2, 1) := fq1_61 (fl_X2_lastToKnow_0 (j := 3) rfl rfl)
theorem dX2_lastToKnow_4 : decode cX2_lastToKnow 4 = .ok (.iload_n 2, 1) := fq1_28 (fl_X2_lastToKnow_0 (j := 4) rfl rfl)
theorem dX2_lastToKnow_5 : decode cX2_lastToKnow 5 = .ok (.aload_n 0, 1) := fq1_42 (fl_X2_lastToKnow_0 (j := 5) rfl rfl)
theorem dX2_lastToKnow_6 : decode cX2_lastToKnow 6 = .ok (.getfield 24, 3) := fq3_180 (fl_X2_lastToKnow_0 (j := 6) rfl rfl) (fl_X2_lastToKnow_0 (j := 7) rfl rfl) (fl_X2_lastToKnow_0 (j := 8) rfl rfl) rfl
theorem dX2_lastToKnow_9 : decode cX2_lastToKnow 9 = .ok (.getfield 38, 3) := fq3_180 (fl_X2_lastToKnow_0 (j := 9) rfl rfl) (fl_X2_lastToKnow_0 (j := 10) rfl rfl) (fl_X2_lastToKnow_0 (j := 11) rfl rfl) rfl
theorem dX2_lastToKnow_12 : decode cX2_lastToKnow 12 = .ok (.if_icmp .ge 38, 3) := fq3_162 (fl_X2_lastToKnow_0 (j := 12) rfl rfl) (fl_X2_lastToKnow_0 (j := 13) rfl rfl) (fl_X2_lastToKnow_0 (j := 14) rfl rfl) (s2p rfl (bl rfl))
theorem dX2_lastToKnow_15 : decode cX2_lastToKnow 15 = .ok (.aload_n 0, 1) := fq1_42 (fl_X2_lastToKnow_0 (j := 15) rfl rfl)
theorem dX2_lastToKnow_16 : decode cX2_lastToKnow 16 = .ok (.getfield 9, 3) := fq3_180 (fl_X2_lastToKnow_0 (j := 16) rfl rfl) (fl_X2_lastToKnow_0 (j := 17) rfl rfl) (fl_X2_lastToKnow_0 (j := 18) rfl rfl) rfl
theorem dX2_lastToKnow_19 : decode cX2_lastToKnow 19 = .ok (.iload_n 2, 1) := fq1_28 (fl_X2_lastToKnow_0 (j := 19) rfl rfl)
theorem dX2_lastToKnow_20 : decode cX2_lastToKnow 20 = .ok (.iaload, 1) := fq1_46 (fl_X2_lastToKnow_0 (j := 20) rfl rfl)
theorem dX2_lastToKnow_21 : decode cX2_lastToKnow 21 = .ok (.iconst (-1), 1) := fq1_2 (fl_X2_lastToKnow_0 (j := 21) rfl rfl)
theorem dX2_lastToKnow_22 : decode cX2_lastToKnow 22 = .ok (.if_icmp .ne 5, 3) := fq3_160 (fl_X2_lastToKnow_0 (j := 22) rfl rfl) (fl_X2_lastToKnow_0 (j := 23) rfl rfl) (fl_X2_lastToKnow_0 (j := 24) rfl rfl) (s2p rfl (bl rfl))
theorem dX2_lastToKnow_25 : decode cX2_lastToKnow 25 = .ok (.iconst (-1), 1) := fq1_2 (fl_X2_lastToKnow_0 (j := 25) rfl rfl)
theorem dX2_lastToKnow_26 : decode cX2_lastToKnow 26 = .ok (.ireturn, 1) := fq1_172 (fl_X2_lastToKnow_0 (j := 26) rfl rfl)
theorem dX2_lastToKnow_27 : decode cX2_lastToKnow 27 = .ok (.aload_n 0, 1) := fq1_42 (fl_X2_lastToKnow_0 (j := 27) rfl rfl)
theorem dX2_lastToKnow_28 : decode cX2_lastToKnow 28 = .ok (.getfield 9, 3) := fq3_180 (fl_X2_lastToKnow_0 (j := 28) rfl rfl) (fl_X2_lastToKnow_0 (j := 29) rfl rfl) (fl_X2_lastToKnow_0 (j := 30) rfl rfl) rfl
theorem dX2_lastToKnow_31 : decode cX2_lastToKnow 31 = .ok (.iload_n 2, 1) := fq1_28 (fl_X2_lastToKnow_0 (j := 31) rfl rfl)
theorem dX2_lastToKnow_32 : decode cX2_lastToKnow 32 = .ok (.iaload, 1) := fq1_46 (fl_X2_lastToKnow_0 (j := 32) rfl rfl)
theorem dX2_lastToKnow_33 : decode cX2_lastToKnow 33 = .ok (.aload_n 0, 1) := fq1_42 (fl_X2_lastToKnow_0 (j := 33) rfl rfl)
theorem dX2_lastToKnow_34 : decode cX2_lastToKnow 34 = .ok (.getfield 9, 3) := fq3_180 (fl_X2_lastToKnow_0 (j := 34) rfl rfl) (fl_X2_lastToKnow_0 (j := 35) rfl rfl) (fl_X2_lastToKnow_0 (j := 36) rfl rfl) rfl
theorem dX2_lastToKnow_37 : decode cX2_lastToKnow 37 = .ok (.iload_n 1, 1) := fq1_27 (fl_X2_lastToKnow_0 (j := 37) rfl rfl)
theorem dX2_lastToKnow_38 : decode cX2_lastToKnow 38 = .ok (.iaload, 1) := fq1_46 (fl_X2_lastToKnow_0 (j := 38) rfl rfl)
theorem dX2_lastToKnow_39 : decode cX2_lastToKnow 39 = .ok (.if_icmp .le 5, 3) := fq3_164 (fl_X2_lastToKnow_0 (j := 39) rfl rfl) (fl_X2_lastToKnow_0 (j := 40) rfl rfl) (fl_X2_lastToKnow_0 (j := 41) rfl rfl) (s2p rfl (bl rfl))
theorem dX2_lastToKnow_42 : decode cX2_lastToKnow 42 = .ok (.iload_n 2, 1) := fq1_28 (fl_X2_lastToKnow_0 (j := 42) rfl rfl)
theorem dX2_lastToKnow_43 : decode cX2_lastToKnow 43 = .ok (.istore_n 1, 1) := fq1_60 (fl_X2_lastToKnow_0 (j := 43) rfl rfl)
theorem dX2_lastToKnow_44 : decode cX2_lastToKnow 44 = .ok (.iinc 2 1, 3) := fq3_132 (fl_X2_lastToKnow_0 (j := 44) rfl rfl) (fl_X2_lastToKnow_0 (j := 45) rfl rfl) (fl_X2_lastToKnow_0 (j := 46) rfl rfl) rfl (s1p rfl (bl rfl))
theorem dX2_lastToKnow_47 : decode cX2_lastToKnow 47 = .ok (.goto (-43), 3) := fq3_167 (fl_X2_lastToKnow_0 (j := 47) rfl rfl) (fl_X2_lastToKnow_0 (j := 48) rfl rfl) (fl_X2_lastToKnow_0 (j := 49) rfl rfl) (by decide)
theorem dX2_lastToKnow_50 : decode cX2_lastToKnow 50 = .ok (.iload_n 1, 1) := fq1_27 (fl_X2_lastToKnow_0 (j := 50) rfl rfl)
theorem dX2_lastToKnow_51 : decode cX2_lastToKnow 51 = .ok (.ireturn, 1) := fq1_172 (fl_X2_lastToKnow_0 (j := 51) rfl rfl)
def fb_X2_soonest_0 : List UInt8 := [0x02, 0x3d, 0x03, 0x3e, 0x1d, 0x2a, 0xb4, 0x00, 0x18, 0xb4, 0x00, 0x26, 0xa2, 0x00, 0x3d, 0x2a, 0xb4, 0x00, 0x09, 0x1d, 0x2e, 0x02, 0x9f, 0x00, 0x0f, 0x1b, 0x1d, 0x7a, 0x04, 0x7e, 0x9a, 0x00, 0x07, 0x04, 0xa7, 0x00, 0x04, 0x03, 0x36, 0x04, 0x15, 0x04, 0x99, 0x00, 0x19, 0x1c, 0x02, 0x9f, 0x00, 0x12, 0x2a, 0xb4, 0x00, 0x09, 0x1d, 0x2e, 0x2a, 0xb4, 0x00, 0x09, 0x1c, 0x2e, 0xa2, 0x00]
theorem fl_X2_soonest_0 {p j : Nat} {b : UInt8} (e : p = 0 + j) (h : fb_X2_soonest_0[j]? = some b) : cX2_soonest.data.toList[p]? = some b := fq_l (n := 64) (show (cX2_soonest.data.toList.drop 0).take 64 = fb_X2_soonest_0 by decide +kernel) e h
theorem dX2_soonest_0 : decode cX2_soonest 0 = .ok (.iconst (-1), 1) := fq1_2 (fl_X2_soonest_0 (j := 0) rfl rfl)
theorem dX2_soonest_1 : decode cX2_soonest 1 = .ok (.istore_n 2, 1) := fq1_61 (fl_X2_soonest_0 (j := 1) rfl rfl)
theorem dX2_soonest_2 : decode cX2_soonest 2 = .ok (.iconst 0, 1) := fq1_3 (fl_X2_soonest_0 (j := 2) rfl rfl)
theorem dX2_soonest_3 : decode cX2_soonest 3 = .ok (.istore_n 3, 1) := fq1_62 (fl_X2_soonest_0 (j := 3) rfl rfl)
theorem dX2_soonest_4 : decode cX2_soonest 4 = .ok (.iload_n 3, 1) := fq1_29 (fl_X2_soonest_0 (j := 4) rfl rfl)
theorem dX2_soonest_5 : decode cX2_soonest 5 = .ok (.aload_n 0, 1) := fq1_42 (fl_X2_soonest_0 (j := 5) rfl rfl)
theorem dX2_soonest_6 : decode cX2_soonest 6 = .ok (.getfield 24, 3) := fq3_180 (fl_X2_soonest_0 (j := 6) rfl rfl) (fl_X2_soonest_0 (j := 7) rfl rfl) (fl_X2_soonest_0 (j := 8) rfl rfl) rfl
theorem dX2_soonest_9 : decode cX2_soonest 9 = .ok (.getfield 38, 3) := fq3_180 (fl_X2_soonest_0 (j := 9) rfl rfl) (fl_X2_soonest_0 (j := 10) rfl rfl) (fl_X2_soonest_0 (j := 11) rfl rfl) rfl
theorem dX2_soonest_12 : decode cX2_soonest 12 = .ok (.if_icmp .ge 61, 3) := fq3_162 (fl_X2_soonest_0 (j := 12) rfl rfl) (fl_X2_soonest_0 (j := 13) rfl rfl) (fl_X2_soonest_0 (j := 14) rfl rfl) (s2p rfl (bl rfl))
theorem dX2_soonest_15 : decode cX2_soonest 15 = .ok (.aload_n 0, 1) := fq1_42 (fl_X2_soonest_0 (j := 15) rfl rfl)
theorem dX2_soonest_16 : decode cX2_soonest 16 = .ok (.getfield 9, 3) := fq3_180 (fl_X2_soonest_0 (j := 16) rfl rfl) (fl_X2_soonest_0 (j := 17) rfl rfl) (fl_X2_soonest_0 (j := 18) rfl rfl) rfl
theorem dX2_soonest_19 : decode cX2_soonest 19 = .ok (.iload_n 3, 1) := fq1_29 (fl_X2_soonest_0 (j := 19) rfl rfl)
theorem dX2_soonest_20 : decode cX2_soonest 20 = .ok (.iaload, 1) := fq1_46 (fl_X2_soonest_0 (j := 20) rfl rfl)
theorem dX2_soonest_21 : decode cX2_soonest 21 = .ok (.iconst (-1), 1) := fq1_2 (fl_X2_soonest_0 (j := 21) rfl rfl)
theorem dX2_soonest_22 : decode cX2_soonest 22 = .ok (.if_icmp .eq 15, 3) := fq3_159 (fl_X2_soonest_0 (j := 22) rfl rfl) (fl_X2_soonest_0 (j := 23) rfl rfl) (fl_X2_soonest_0 (j := 24) rfl rfl) (s2p rfl (bl rfl))
theorem dX2_soonest_25 : decode cX2_soonest 25 = .ok (.iload_n 1, 1) := fq1_27 (fl_X2_soonest_0 (j := 25) rfl rfl)
theorem dX2_soonest_26 : decode cX2_soonest 26 = .ok (.iload_n 3, 1) := fq1_29 (fl_X2_soonest_0 (j := 26) rfl rfl)
theorem dX2_soonest_27 : decode cX2_soonest 27 = .ok (.ishr, 1) := fq1_122 (fl_X2_soonest_0 (j := 27) rfl rfl)
theorem dX2_soonest_28 : decode cX2_soonest 28 = .ok (.iconst 1, 1) := fq1_4 (fl_X2_soonest_0 (j := 28) rfl rfl)
theorem dX2_soonest_29 : decode cX2_soonest 29 = .ok (.iand, 1) := fq1_126 (fl_X2_soonest_0 (j := 29) rfl rfl)
theorem dX2_soonest_30 : decode cX2_soonest 30 = .ok (.ifCond .ne 7, 3) := fq3_154 (fl_X2_soonest_0 (j := 30) rfl rfl) (fl_X2_soonest_0 (j := 31) rfl rfl) (fl_X2_soonest_0 (j := 32) rfl rfl) (s2p rfl (bl rfl))
theorem dX2_soonest_33 : decode cX2_soonest 33 = .ok (.iconst 1, 1) := fq1_4 (fl_X2_soonest_0 (j := 33) rfl rfl)
theorem dX2_soonest_34 : decode cX2_soonest 34 = .ok (.goto 4, 3) := fq3_167 (fl_X2_soonest_0 (j := 34) rfl rfl) (fl_X2_soonest_0 (j := 35) rfl rfl) (fl_X2_soonest_0 (j := 36) rfl rfl) (s2p rfl (bl rfl))
theorem dX2_soonest_37 : decode cX2_soonest 37 = .ok (.iconst 0, 1) := fq1_3 (fl_X2_soonest_0 (j := 37) rfl rfl)
theorem dX2_soonest_38 : decode cX2_soonest 38 = .ok (.istore 4, 2) := fq2_54 (fl_X2_soonest_0 (j := 38) rfl rfl) (fl_X2_soonest_0 (j := 39) rfl rfl) rfl
theorem dX2_soonest_40 : decode cX2_soonest 40 = .ok (.iload 4, 2) := fq2_21 (fl_X2_soonest_0 (j := 40) rfl rfl) (fl_X2_soonest_0 (j := 41) rfl rfl) rfl
theorem dX2_soonest_42 : decode cX2_soonest 42 = .ok (.ifCond .eq 25, 3) := fq3_153 (fl_X2_soonest_0 (j := 42) rfl rfl) (fl_X2_soonest_0 (j := 43) rfl rfl) (fl_X2_soonest_0 (j := 44) rfl rfl) (s2p rfl (bl rfl))
theorem dX2_soonest_45 : decode cX2_soonest 45 = .ok (.iload_n 2, 1) := fq1_28 (fl_X2_soonest_0 (j := 45) rfl rfl)
theorem dX2_soonest_46 : decode cX2_soonest 46 = .ok (.iconst (-1), 1) := fq1_2 (fl_X2_soonest_0 (j := 46) rfl rfl)
theorem dX2_soonest_47 : decode cX2_soonest 47 = .ok (.if_icmp .eq 18, 3) := fq3_159 (fl_X2_soonest_0 (j := 47) rfl rfl) (fl_X2_soonest_0 (j := 48) rfl rfl) (fl_X2_soonest_0 (j := 49) rfl rfl) (s2p rfl (bl rfl))
theorem dX2_soonest_50 : decode cX2_soonest 50 = .ok (.aload_n 0, 1) := fq1_42 (fl_X2_soonest_0 (j := 50) rfl rfl)
theorem dX2_soonest_51 : decode cX2_soonest 51 = .ok (.getfield 9, 3) := fq3_180 (fl_X2_soonest_0 (j := 51) rfl rfl) (fl_X2_soonest_0 (j := 52) rfl rfl) (fl_X2_soonest_0 (j := 53) rfl rfl) rfl
theorem dX2_soonest_54 : decode cX2_soonest 54 = .ok (.iload_n 3, 1) := fq1_29 (fl_X2_soonest_0 (j := 54) rfl rfl)
theorem dX2_soonest_55 : decode cX2_soonest 55 = .ok (.iaload, 1) := fq1_46 (fl_X2_soonest_0 (j := 55) rfl rfl)
theorem dX2_soonest_56 : decode cX2_soonest 56 = .ok (.aload_n 0, 1) := fq1_42 (fl_X2_soonest_0 (j := 56) rfl rfl)
theorem dX2_soonest_57 : decode cX2_soonest 57 = .ok (.getfield 9, 3) := fq3_180 (fl_X2_soonest_0 (j := 57) rfl rfl) (fl_X2_soonest_0 (j := 58) rfl rfl) (fl_X2_soonest_0 (j := 59) rfl rfl) rfl
theorem dX2_soonest_60 : decode cX2_soonest 60 = .ok (.iload_n 2, 1) := fq1_28 (fl_X2_soonest_0 (j := 60) rfl rfl)
theorem dX2_soonest_61 : decode cX2_soonest 61 = .ok (.iaload, 1) := fq1_46 (fl_X2_soonest_0 (j := 61) rfl rfl)
def fb_X2_soonest_1 : List UInt8 := [0x05, 0x1d, 0x3d, 0x84, 0x03, 0x01, 0xa7, 0xff, 0xbe, 0x1c, 0xac]
theorem fl_X2_soonest_1 {p j : Nat} {b : UInt8} (e : p = 64 + j) (h : fb_X2_soonest_1[j]? = some b) : cX2_soonest.data.toList[p]? = some b := fq_l (n := 64) (show (cX2_soonest.data.toList.drop 64).take 64 = fb_X2_soonest_1 by decide +kernel) e h
theorem dX2_soonest_62 : decode cX2_soonest 62 = .ok (.if_icmp .ge 5, 3) := fq3_162 (fl_X2_soonest_0 (j := 62) rfl rfl) (fl_X2_soonest_0 (j := 63) rfl rfl) (fl_X2_soonest_1 (j := 0) rfl rfl) (s2p rfl (bl rfl))
theorem dX2_soonest_65 : decode cX2_soonest 65 = .ok (.iload_n 3, 1) := fq1_29 (fl_X2_soonest_1 (j := 1) rfl rfl)
theorem dX2_soonest_66 : decode cX2_soonest 66 = .ok (.istore_n 2, 1) := fq1_61 (fl_X2_soonest_1 (j := 2) rfl rfl)
theorem dX2_soonest_67 : decode cX2_soonest 67 = .ok (.iinc 3 1, 3) := fq3_132 (fl_X2_soonest_1 (j := 3) rfl rfl) (fl_X2_soonest_1 (j := 4) rfl rfl) (fl_X2_soonest_1 (j := 5) rfl rfl) rfl (s1p rfl (bl rfl))
theorem dX2_soonest_70 : decode cX2_soonest 70 = .ok (.goto (-66), 3) := fq3_167 (fl_X2_soonest_1 (j := 6) rfl rfl) (fl_X2_soonest_1 (j := 7) rfl rfl) (fl_X2_soonest_1 (j := 8) rfl rfl) (by decide)
theorem dX2_soonest_73 : decode cX2_soonest 73 = .ok (.iload_n 2, 1) := fq1_28 (fl_X2_soonest_1 (j := 9) rfl rfl)
theorem dX2_soonest_74 : decode cX2_soonest 74 = .ok (.ireturn, 1) := fq1_172 (fl_X2_soonest_1 (j := 10) rfl rfl)
def fb_X2_tellOn_0 : List UInt8 := [0x03, 0x3d, 0x1c, 0x2a, 0xb4, 0x00, 0x18, 0xb4, 0x00, 0x26, 0xa2, 0x00, 0x69, 0x1c, 0x1b, 0xa0, 0x00, 0x07, 0x02, 0xa7, 0x00, 0x12, 0x2a, 0xb4, 0x00, 0x1c, 0x1b, 0x2a, 0xb4, 0x00, 0x09, 0x1b, 0x2e, 0x1c, 0xb6, 0x00, 0x34, 0x3e, 0x1d, 0x02, 0x9f, 0x00, 0x45, 0x2a, 0xb4, 0x00, 0x09, 0x1c, 0x2e, 0x02, 0x9f, 0x00, 0x0d, 0x1d, 0x2a, 0xb4, 0x00, 0x09, 0x1c, 0x2e, 0xa2, 0x00, 0x07, 0x04]
theorem fl_X2_tellOn_0 {p j : Nat} {b : UInt8} (e : p = 0 + j) (h : fb_X2_tellOn_0[j]? = some b) : cX2_tellOn.data.toList[p]? = some b := fq_l (n := 64) (show (cX2_tellOn.data.toList.drop 0).take 64 = fb_X2_tellOn_0 by decide +kernel) e h
theorem dX2_tellOn_0 : decode cX2_tellOn 0 = .ok (.iconst 0, 1) := fq1_3 (fl_X2_tellOn_0 (j := 0) rfl rfl)
theorem dX2_tellOn_1 : decode cX2_tellOn 1 = .ok (.istore_n 2, 1) := fq1_61 (fl_X2_tellOn_0 (j := 1) rfl rfl)
theorem dX2_tellOn_2 : decode cX2_tellOn 2 = .ok (.iload_n 2, 1) := fq1_28 (fl_X2_tellOn_0 (j := 2) rfl rfl)
theorem dX2_tellOn_3 : decode cX2_tellOn 3 = .ok (.aload_n 0, 1) := fq1_42 (fl_X2_tellOn_0 (j := 3) rfl rfl)
theorem dX2_tellOn_4 : decode cX2_tellOn 4 = .ok (.getfield 24, 3) := fq3_180 (fl_X2_tellOn_0 (j := 4) rfl rfl) (fl_X2_tellOn_0 (j := 5) rfl rfl) (fl_X2_tellOn_0 (j := 6) rfl rfl) rfl
theorem dX2_tellOn_7 : decode cX2_tellOn 7 = .ok (.getfield 38, 3) := fq3_180 (fl_X2_tellOn_0 (j := 7) rfl rfl) (fl_X2_tellOn_0 (j := 8) rfl rfl) (fl_X2_tellOn_0 (j := 9) rfl rfl) rfl
theorem dX2_tellOn_10 : decode cX2_tellOn 10 = .ok (.if_icmp .ge 105, 3) := fq3_162 (fl_X2_tellOn_0 (j := 10) rfl rfl) (fl_X2_tellOn_0 (j := 11) rfl rfl) (fl_X2_tellOn_0 (j := 12) rfl rfl) (s2p rfl (bl rfl))
theorem dX2_tellOn_13 : decode cX2_tellOn 13 = .ok (.iload_n 2, 1) := fq1_28 (fl_X2_tellOn_0 (j := 13) rfl rfl)
theorem dX2_tellOn_14 : decode cX2_tellOn 14 = .ok (.iload_n 1, 1) := fq1_27 (fl_X2_tellOn_0 (j := 14) rfl rfl)
theorem dX2_tellOn_15 : decode cX2_tellOn 15 = .ok (.if_icmp .ne 7, 3) := fq3_160 (fl_X2_tellOn_0 (j := 15) rfl rfl) (fl_X2_tellOn_0 (j := 16) rfl rfl) (fl_X2_tellOn_0 (j := 17) rfl rfl) (s2p rfl (bl rfl))
theorem dX2_tellOn_18 : decode cX2_tellOn 18 = .ok (.iconst (-1), 1) := fq1_2 (fl_X2_tellOn_0 (j := 18) rfl rfl)
theorem dX2_tellOn_19 : decode cX2_tellOn 19 = .ok (.goto 18, 3) := fq3_167 (fl_X2_tellOn_0 (j := 19) rfl rfl) (fl_X2_tellOn_0 (j := 20) rfl rfl) (fl_X2_tellOn_0 (j := 21) rfl rfl) (s2p rfl (bl rfl))
theorem dX2_tellOn_22 : decode cX2_tellOn 22 = .ok (.aload_n 0, 1) := fq1_42 (fl_X2_tellOn_0 (j := 22) rfl rfl)
theorem dX2_tellOn_23 : decode cX2_tellOn 23 = .ok (.getfield 28, 3) := fq3_180 (fl_X2_tellOn_0 (j := 23) rfl rfl) (fl_X2_tellOn_0 (j := 24) rfl rfl) (fl_X2_tellOn_0 (j := 25) rfl rfl) rfl
theorem dX2_tellOn_26 : decode cX2_tellOn 26 = .ok (.iload_n 1, 1) := fq1_27 (fl_X2_tellOn_0 (j := 26) rfl rfl)
theorem dX2_tellOn_27 : decode cX2_tellOn 27 = .ok (.aload_n 0, 1) := fq1_42 (fl_X2_tellOn_0 (j := 27) rfl rfl)
theorem dX2_tellOn_28 : decode cX2_tellOn 28 = .ok (.getfield 9, 3) := fq3_180 (fl_X2_tellOn_0 (j := 28) rfl rfl) (fl_X2_tellOn_0 (j := 29) rfl rfl) (fl_X2_tellOn_0 (j := 30) rfl rfl) rfl
theorem dX2_tellOn_31 : decode cX2_tellOn 31 = .ok (.iload_n 1, 1) := fq1_27 (fl_X2_tellOn_0 (j := 31) rfl rfl)
theorem dX2_tellOn_32 : decode cX2_tellOn 32 = .ok (.iaload, 1) := fq1_46 (fl_X2_tellOn_0 (j := 32) rfl rfl)
theorem dX2_tellOn_33 : decode cX2_tellOn 33 = .ok (.iload_n 2, 1) := fq1_28 (fl_X2_tellOn_0 (j := 33) rfl rfl)
theorem dX2_tellOn_34 : decode cX2_tellOn 34 = .ok (.invokevirtual 52, 3) := fq3_182 (fl_X2_tellOn_0 (j := 34) rfl rfl) (fl_X2_tellOn_0 (j := 35) rfl rfl) (fl_X2_tellOn_0 (j := 36) rfl rfl) rfl
theorem dX2_tellOn_37 : decode cX2_tellOn 37 = .ok (.istore_n 3, 1) := fq1_62 (fl_X2_tellOn_0 (j := 37) rfl rfl)
theorem dX2_tellOn_38 : decode cX2_tellOn 38 = .ok (.iload_n 3, 1) := fq1_29 (fl_X2_tellOn_0 (j := 38) rfl rfl)
theorem dX2_tellOn_39 : decode cX2_tellOn 39 = .ok (.iconst (-1), 1) := fq1_2 (fl_X2_tellOn_0 (j := 39) rfl rfl)
theorem dX2_tellOn_40 : decode cX2_tellOn 40 = .ok (.if_icmp .eq 69, 3) := fq3_159 (fl_X2_tellOn_0 (j := 40) rfl rfl) (fl_X2_tellOn_0 (j := 41) rfl rfl) (fl_X2_tellOn_0 (j := 42) rfl rfl) (s2p rfl (bl rfl))
theorem dX2_tellOn_43 : decode cX2_tellOn 43 = .ok (.aload_n 0, 1) := fq1_42 (fl_X2_tellOn_0 (j := 43) rfl rfl)
theorem dX2_tellOn_44 : decode cX2_tellOn 44 = .ok (.getfield 9, 3) := fq3_180 (fl_X2_tellOn_0 (j := 44) rfl rfl) (fl_X2_tellOn_0 (j := 45) rfl rfl) (fl_X2_tellOn_0 (j := 46) rfl rfl) rfl
theorem dX2_tellOn_47 : decode cX2_tellOn 47 = .ok (.iload_n 2, 1) := fq1_28 (fl_X2_tellOn_0 (j := 47) rfl rfl)
theorem dX2_tellOn_48 : decode cX2_tellOn 48 = .ok (.iaload, 1) := fq1_46 (fl_X2_tellOn_0 (j := 48) rfl rfl)
theorem dX2_tellOn_49 : decode cX2_tellOn 49 = .ok (.iconst (-1), 1) := fq1_2 (fl_X2_tellOn_0 (j := 49) rfl rfl)
theorem dX2_tellOn_50 : decode cX2_tellOn 50 = .ok (.if_icmp .eq 13, 3) := fq3_159 (fl_X2_tellOn_0 (j := 50) rfl rfl) (fl_X2_tellOn_0 (j := 51) rfl rfl) (fl_X2_tellOn_0 (j := 52) rfl rfl) (s2p rfl (bl rfl))
theorem dX2_tellOn_53 : decode cX2_tellOn 53 = .ok (.iload_n 3, 1) := fq1_29 (fl_X2_tellOn_0 (j := 53) rfl rfl)
theorem dX2_tellOn_54 : decode cX2_tellOn 54 = .ok (.aload_n 0, 1) := fq1_42 (fl_X2_tellOn_0 (j := 54) rfl rfl)
theorem dX2_tellOn_55 : decode cX2_tellOn 55 = .ok (.getfield 9, 3) := fq3_180 (fl_X2_tellOn_0 (j := 55) rfl rfl) (fl_X2_tellOn_0 (j := 56) rfl rfl) (fl_X2_tellOn_0 (j := 57) rfl rfl) rfl
theorem dX2_tellOn_58 : decode cX2_tellOn 58 = .ok (.iload_n 2, 1) := fq1_28 (fl_X2_tellOn_0 (j := 58) rfl rfl)
theorem dX2_tellOn_59 : decode cX2_tellOn 59 = .ok (.iaload, 1) := fq1_46 (fl_X2_tellOn_0 (j := 59) rfl rfl)
theorem dX2_tellOn_60 : decode cX2_tellOn 60 = .ok (.if_icmp .ge 7, 3) := fq3_162 (fl_X2_tellOn_0 (j := 60) rfl rfl) (fl_X2_tellOn_0 (j := 61) rfl rfl) (fl_X2_tellOn_0 (j := 62) rfl rfl) (s2p rfl (bl rfl))
theorem dX2_tellOn_63 : decode cX2_tellOn 63 = .ok (.iconst 1, 1) := fq1_4 (fl_X2_tellOn_0 (j := 63) rfl rfl)
def fb_X2_tellOn_1 : List UInt8 := [0xa7, 0x00, 0x04, 0x03, 0x36, 0x04, 0x15, 0x04, 0x9a, 0x00, 0x17, 0x1d, 0x2a, 0xb4, 0x00, 0x09, 0x1c, 0x2e, 0xa0, 0x00, 0x1b, 0x1b, 0x2a, 0xb4, 0x00, 0x0f, 0x1c, 0x2e, 0xa2, 0x00, 0x11, 0x2a, 0xb4, 0x00, 0x09, 0x1c, 0x1d, 0x4f, 0x2a, 0xb4, 0x00, 0x0f, 0x1c, 0x1b, 0x4f, 0x84, 0x02, 0x01, 0xa7, 0xff, 0x92, 0xb1]
theorem fl_X2_tellOn_1 {p j : Nat} {b : UInt8} (e : p = 64 + j) (h : fb_X2_tellOn_1[j]? = some b) : cX2_tellOn.data.toList[p]? = some b := fq_l (n := 64) (show (cX2_tellOn.data.toList.drop 64).take 64 = fb_X2_tellOn_1 by decide +kernel) e h
theorem dX2_tellOn_64 : decode cX2_tellOn 64 = .ok (.goto 4, 3) := fq3_167 (fl_X2_tellOn_1 (j := 0) rfl rfl) (fl_X2_tellOn_1 (j := 1) rfl rfl) (fl_X2_tellOn_1 (j := 2) rfl rfl) (s2p rfl (bl rfl))
theorem dX2_tellOn_67 : decode cX2_tellOn 67 = .ok (.iconst 0, 1) := fq1_3 (fl_X2_tellOn_1 (j := 3) rfl rfl)
theorem dX2_tellOn_68 : decode cX2_tellOn 68 = .ok (.istore 4, 2) := fq2_54 (fl_X2_tellOn_1 (j := 4) rfl rfl) (fl_X2_tellOn_1 (j := 5) rfl rfl) rfl
theorem dX2_tellOn_70 : decode cX2_tellOn 70 = .ok (.iload 4, 2) := fq2_21 (fl_X2_tellOn_1 (j := 6) rfl rfl) (fl_X2_tellOn_1 (j := 7) rfl rfl) rfl
theorem dX2_tellOn_72 : decode cX2_tellOn 72 = .ok (.ifCond .ne 23, 3) := fq3_154 (fl_X2_tellOn_1 (j := 8) rfl rfl) (fl_X2_tellOn_1 (j := 9) rfl rfl) (fl_X2_tellOn_1 (j := 10) rfl rfl) (s2p rfl (bl rfl))
theorem dX2_tellOn_75 : decode cX2_tellOn 75 = .ok (.iload_n 3, 1) := fq1_29 (fl_X2_tellOn_1 (j := 11) rfl rfl)
theorem dX2_tellOn_76 : decode cX2_tellOn 76 = .ok (.aload_n 0, 1) := fq1_42 (fl_X2_tellOn_1 (j := 12) rfl rfl)
theorem dX2_tellOn_77 : decode cX2_tellOn 77 = .ok (.getfield 9, 3) := fq3_180 (fl_X2_tellOn_1 (j := 13) rfl rfl) (fl_X2_tellOn_1 (j := 14) rfl rfl) (fl_X2_tellOn_1 (j := 15) rfl rfl) rfl
theorem dX2_tellOn_80 : decode cX2_tellOn 80 = .ok (.iload_n 2, 1) := fq1_28 (fl_X2_tellOn_1 (j := 16) rfl rfl)
theorem dX2_tellOn_81 : decode cX2_tellOn 81 = .ok (.iaload, 1) := fq1_46 (fl_X2_tellOn_1 (j := 17) rfl rfl)
theorem dX2_tellOn_82 : decode cX2_tellOn 82 = .ok (.if_icmp .ne 27, 3) := fq3_160 (fl_X2_tellOn_1 (j := 18) rfl rfl) (fl_X2_tellOn_1 (j := 19) rfl rfl) (fl_X2_tellOn_1 (j := 20) rfl rfl) (s2p rfl (bl rfl))
theorem dX2_tellOn_85 : decode cX2_tellOn 85 = .ok (.iload_n 1, 1) := fq1_27 (fl_X2_tellOn_1 (j := 21) rfl rfl)
theorem dX2_tellOn_86 : decode cX2_tellOn 86 = .ok (.aload_n 0, 1) := fq1_42 (fl_X2_tellOn_1 (j := 22) rfl rfl)
theorem dX2_tellOn_87 : decode cX2_tellOn 87 = .ok (.getfield 15, 3) := fq3_180 (fl_X2_tellOn_1 (j := 23) rfl rfl) (fl_X2_tellOn_1 (j := 24) rfl rfl) (fl_X2_tellOn_1 (j := 25) rfl rfl) rfl
theorem dX2_tellOn_90 : decode cX2_tellOn 90 = .ok (.iload_n 2, 1) := fq1_28 (fl_X2_tellOn_1 (j := 26) rfl rfl)
theorem dX2_tellOn_91 : decode cX2_tellOn 91 = .ok (.iaload, 1) := fq1_46 (fl_X2_tellOn_1 (j := 27) rfl rfl)
theorem dX2_tellOn_92 : decode cX2_tellOn 92 = .ok (.if_icmp .ge 17, 3) := fq3_162 (fl_X2_tellOn_1 (j := 28) rfl rfl) (fl_X2_tellOn_1 (j := 29) rfl rfl) (fl_X2_tellOn_1 (j := 30) rfl rfl) (s2p rfl (bl rfl))
theorem dX2_tellOn_95 : decode cX2_tellOn 95 = .ok (.aload_n 0, 1) := fq1_42 (fl_X2_tellOn_1 (j := 31) rfl rfl)
theorem dX2_tellOn_96 : decode cX2_tellOn 96 = .ok (.getfield 9, 3) := fq3_180 (fl_X2_tellOn_1 (j := 32) rfl rfl) (fl_X2_tellOn_1 (j := 33) rfl rfl) (fl_X2_tellOn_1 (j := 34) rfl rfl) rfl
theorem dX2_tellOn_99 : decode cX2_tellOn 99 = .ok (.iload_n 2, 1) := fq1_28 (fl_X2_tellOn_1 (j := 35) rfl rfl)
theorem dX2_tellOn_100 : decode cX2_tellOn 100 = .ok (.iload_n 3, 1) := fq1_29 (fl_X2_tellOn_1 (j := 36) rfl rfl)
theorem dX2_tellOn_101 : decode cX2_tellOn 101 = .ok (.iastore, 1) := fq1_79 (fl_X2_tellOn_1 (j := 37) rfl rfl)
theorem dX2_tellOn_102 : decode cX2_tellOn 102 = .ok (.aload_n 0, 1) := fq1_42 (fl_X2_tellOn_1 (j := 38) rfl rfl)
theorem dX2_tellOn_103 : decode cX2_tellOn 103 = .ok (.getfield 15, 3) := fq3_180 (fl_X2_tellOn_1 (j := 39) rfl rfl) (fl_X2_tellOn_1 (j := 40) rfl rfl) (fl_X2_tellOn_1 (j := 41) rfl rfl) rfl
theorem dX2_tellOn_106 : decode cX2_tellOn 106 = .ok (.iload_n 2, 1) := fq1_28 (fl_X2_tellOn_1 (j := 42) rfl rfl)
theorem dX2_tellOn_107 : decode cX2_tellOn 107 = .ok (.iload_n 1, 1) := fq1_27 (fl_X2_tellOn_1 (j := 43) rfl rfl)
theorem dX2_tellOn_108 : decode cX2_tellOn 108 = .ok (.iastore, 1) := fq1_79 (fl_X2_tellOn_1 (j := 44) rfl rfl)
theorem dX2_tellOn_109 : decode cX2_tellOn 109 = .ok (.iinc 2 1, 3) := fq3_132 (fl_X2_tellOn_1 (j := 45) rfl rfl) (fl_X2_tellOn_1 (j := 46) rfl rfl) (fl_X2_tellOn_1 (j := 47) rfl rfl) rfl (s1p rfl (bl rfl))
theorem dX2_tellOn_112 : decode cX2_tellOn 112 = .ok (.goto (-110), 3) := fq3_167 (fl_X2_tellOn_1 (j := 48) rfl rfl) (fl_X2_tellOn_1 (j := 49) rfl rfl) (fl_X2_tellOn_1 (j := 50) rfl rfl) (by decide)
theorem dX2_tellOn_115 : decode cX2_tellOn 115 = .ok (.return_, 1) := fq1_177 (fl_X2_tellOn_1 (j := 51) rfl rfl)
