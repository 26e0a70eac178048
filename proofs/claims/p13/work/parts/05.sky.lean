section
theorem qf_X5_15 : Cond.fieldLink RX5 15 "SlowWorlds$Sky" "facts" "[I" ∈ gw := tbt (tb1 (List.mem_of_getElem? (i := 46) rfl)) rfl
theorem iX5 : ∀ w ∈ u_ws RX5 TX5 7, w ∈ gw := by
  intro w hw
  obtain ⟨k, hk, rfl⟩ := List.mem_map.mp hw
  have hk := List.mem_range.mp hk
  match k, hk with
  | 0, _ => exact tbt (tb1 (List.mem_of_getElem? (i := 67) rfl)) rfl
  | 1, _ => exact tbt (tb1 (List.mem_of_getElem? (i := 69) rfl)) rfl
  | 2, _ => exact tbt (tb1 (List.mem_of_getElem? (i := 71) rfl)) rfl
  | 3, _ => exact tbt (tb1 (List.mem_of_getElem? (i := 73) rfl)) rfl
  | 4, _ => exact tbt (tb1 (List.mem_of_getElem? (i := 75) rfl)) rfl
  | 5, _ => exact tbt (tb1 (List.mem_of_getElem? (i := 77) rfl)) rfl
  | 6, _ => exact tbt (tb1 (List.mem_of_getElem? (i := 79) rfl)) rfl
  | (k + 7), hk => exact absurd hk (by omega)
def fb_X5_apart_0 : List UInt8 := [0x1b, 0x1d, 0xa0, 0x00, 0x05, 0x03, 0xac, 0x2a, 0xb4, 0x00, 0x0f, 0x1b, 0x10, 0x06, 0x68, 0x03, 0x60, 0x2e, 0x36, 0x05, 0x2a, 0xb4, 0x00, 0x0f, 0x1d, 0x10, 0x06, 0x68, 0x03, 0x60, 0x2e, 0x36, 0x06, 0x15, 0x05, 0x15, 0x06, 0xa2, 0x00, 0x08, 0x15, 0x05, 0xa7, 0x00, 0x05, 0x15, 0x06, 0x36, 0x07, 0x15, 0x05, 0x15, 0x06, 0xa2, 0x00, 0x08, 0x15, 0x06, 0xa7, 0x00, 0x05, 0x15, 0x05, 0x36]
theorem fl_X5_apart_0 {p j : Nat} {b : UInt8} (e : p = 0 + j) (h : fb_X5_apart_0[j]? = some b) : cX5_apart.data.toList[p]? = some b := fq_l (n := 64) (show (cX5_apart.data.toList.drop 0).take 64 = fb_X5_apart_0 by decide +kernel) e h
theorem dX5_apart_0 : decode cX5_apart 0 = .ok (.iload_n 1, 1) := fq1_27 (fl_X5_apart_0 (j := 0) rfl rfl)
theorem dX5_apart_1 : decode cX5_apart 1 = .ok (.iload_n 3, 1) := fq1_29 (fl_X5_apart_0 (j := 1) rfl rfl)
theorem dX5_apart_2 : decode cX5_apart 2 = .ok (.if_icmp .ne 5, 3) := fq3_160 (fl_X5_apart_0 (j := 2) rfl rfl) (fl_X5_apart_0 (j := 3) rfl rfl) (fl_X5_apart_0 (j := 4) rfl rfl) (s2p rfl (bl rfl))
theorem dX5_apart_5 : decode cX5_apart 5 = .ok (.iconst 0, 1) := fq1_3 (fl_X5_apart_0 (j := 5) rfl rfl)
theorem dX5_apart_6 : decode cX5_apart 6 = .ok (.ireturn, 1) := fq1_172 (fl_X5_apart_0 (j := 6) rfl rfl)
theorem dX5_apart_7 : decode cX5_apart 7 = .ok (.aload_n 0, 1) := fq1_42 (fl_X5_apart_0 (j := 7) rfl rfl)
theorem dX5_apart_8 : decode cX5_apart 8 = .ok (.getfield 15, 3) := fq3_180 (fl_X5_apart_0 (j := 8) rfl rfl) (fl_X5_apart_0 (j := 9) rfl rfl) (fl_X5_apart_0 (j := 10) rfl rfl) rfl
theorem dX5_apart_11 : decode cX5_apart 11 = .ok (.iload_n 1, 1) := fq1_27 (fl_X5_apart_0 (j := 11) rfl rfl)
theorem dX5_apart_12 : decode cX5_apart 12 = .ok (.bipush 6, 2) := fq2_16 (fl_X5_apart_0 (j := 12) rfl rfl) (fl_X5_apart_0 (j := 13) rfl rfl) (s1p rfl (bl rfl))
theorem dX5_apart_14 : decode cX5_apart 14 = .ok (.imul, 1) := fq1_104 (fl_X5_apart_0 (j := 14) rfl rfl)
theorem dX5_apart_15 : decode cX5_apart 15 = .ok (.iconst 0, 1) := fq1_3 (fl_X5_apart_0 (j := 15) rfl rfl)
theorem dX5_apart_16 : decode cX5_apart 16 = .ok (.iadd, 1) := fq1_96 (fl_X5_apart_0 (j := 16) rfl rfl)
theorem dX5_apart_17 : decode cX5_apart 17 = .ok (.iaload, 1) := fq1_46 (fl_X5_apart_0 (j := 17) rfl rfl)
theorem dX5_apart_18 : decode cX5_apart 18 = .ok (.istore 5, 2) := fq2_54 (fl_X5_apart_0 (j := 18) rfl rfl) (fl_X5_apart_0 (j := 19) rfl rfl) rfl
theorem dX5_apart_20 : decode cX5_apart 20 = .ok (.aload_n 0, 1) := fq1_42 (fl_X5_apart_0 (j := 20) rfl rfl)
theorem dX5_apart_21 : decode cX5_apart 21 = .ok (.getfield 15, 3) := fq3_180 (fl_X5_apart_0 (j := 21) rfl rfl) (fl_X5_apart_0 (j := 22) rfl rfl) (fl_X5_apart_0 (j := 23) rfl rfl) rfl
theorem dX5_apart_24 : decode cX5_apart 24 = .ok (.iload_n 3, 1) := fq1_29 (fl_X5_apart_0 (j := 24) rfl rfl)
theorem dX5_apart_25 : decode cX5_apart 25 = .ok (.bipush 6, 2) := fq2_16 (fl_X5_apart_0 (j := 25) rfl rfl) (fl_X5_apart_0 (j := 26) rfl rfl) (s1p rfl (bl rfl))
theorem dX5_apart_27 : decode cX5_apart 27 = .ok (.imul, 1) := fq1_104 (fl_X5_apart_0 (j := 27) rfl rfl)
theorem dX5_apart_28 : decode cX5_apart 28 = .ok (.iconst 0, 1) := fq1_3 (fl_X5_apart_0 (j := 28) rfl rfl)
theorem dX5_apart_29 : decode cX5_apart 29 = .ok (.iadd, 1) := fq1_96 (fl_X5_apart_0 (j := 29) rfl rfl)
theorem dX5_apart_30 : decode cX5_apart 30 = .ok (.iaload, 1) := fq1_46 (fl_X5_apart_0 (j := 30) rfl rfl)
theorem dX5_apart_31 : decode cX5_apart 31 = .ok (.istore 6, 2) := fq2_54 (fl_X5_apart_0 (j := 31) rfl rfl) (fl_X5_apart_0 (j := 32) rfl rfl) rfl
theorem dX5_apart_33 : decode cX5_apart 33 = .ok (.iload 5, 2) := fq2_21 (fl_X5_apart_0 (j := 33) rfl rfl) (fl_X5_apart_0 (j := 34) rfl rfl) rfl
theorem dX5_apart_35 : decode cX5_apart 35 = .ok (.iload 6, 2) := fq2_21 (fl_X5_apart_0 (j := 35) rfl rfl) (fl_X5_apart_0 (j := 36) rfl rfl) rfl
theorem dX5_apart_37 : decode cX5_apart 37 = .ok (.if_icmp .ge 8, 3) := fq3_162 (fl_X5_apart_0 (j := 37) rfl rfl) (fl_X5_apart_0 (j := 38) rfl rfl) (fl_X5_apart_0 (j := 39) rfl rfl) (s2p rfl (bl rfl))
theorem dX5_apart_40 : decode cX5_apart 40 = .ok (.iload 5, 2) := fq2_21 (fl_X5_apart_0 (j := 40) rfl rfl) (fl_X5_apart_0 (j := 41) rfl rfl) rfl
theorem dX5_apart_42 : decode cX5_apart 42 = .ok (.goto 5, 3) := fq3_167 (fl_X5_apart_0 (j := 42) rfl rfl) (fl_X5_apart_0 (j := 43) rfl rfl) (fl_X5_apart_0 (j := 44) rfl rfl) (s2p rfl (bl rfl))
theorem dX5_apart_45 : decode cX5_apart 45 = .ok (.iload 6, 2) := fq2_21 (fl_X5_apart_0 (j := 45) rfl rfl) (fl_X5_apart_0 (j := 46) rfl rfl) rfl
theorem dX5_apart_47 : decode cX5_apart 47 = .ok (.istore 7, 2) := fq2_54 (fl_X5_apart_0 (j := 47) rfl rfl) (fl_X5_apart_0 (j := 48) rfl rfl) rfl
theorem dX5_apart_49 : decode cX5_apart 49 = .ok (.iload 5, 2) := fq2_21 (fl_X5_apart_0 (j := 49) rfl rfl) (fl_X5_apart_0 (j := 50) rfl rfl) rfl
theorem dX5_apart_51 : decode cX5_apart 51 = .ok (.iload 6, 2) := fq2_21 (fl_X5_apart_0 (j := 51) rfl rfl) (fl_X5_apart_0 (j := 52) rfl rfl) rfl
theorem dX5_apart_53 : decode cX5_apart 53 = .ok (.if_icmp .ge 8, 3) := fq3_162 (fl_X5_apart_0 (j := 53) rfl rfl) (fl_X5_apart_0 (j := 54) rfl rfl) (fl_X5_apart_0 (j := 55) rfl rfl) (s2p rfl (bl rfl))
theorem dX5_apart_56 : decode cX5_apart 56 = .ok (.iload 6, 2) := fq2_21 (fl_X5_apart_0 (j := 56) rfl rfl) (fl_X5_apart_0 (j := 57) rfl rfl) rfl
theorem dX5_apart_58 : decode cX5_apart 58 = .ok (.goto 5, 3) := fq3_167 (fl_X5_apart_0 (j := 58) rfl rfl) (fl_X5_apart_0 (j := 59) rfl rfl) (fl_X5_apart_0 (j := 60) rfl rfl) (s2p rfl (bl rfl))
theorem dX5_apart_61 : decode cX5_apart 61 = .ok (.iload 5, 2) := fq2_21 (fl_X5_apart_0 (j := 61) rfl rfl) (fl_X5_apart_0 (j := 62) rfl rfl) rfl
def fb_X5_apart_1 : List UInt8 := [0x08, 0x1c, 0x15, 0x04, 0xa2, 0x00, 0x0a, 0x15, 0x04, 0x1c, 0x64, 0xa7, 0x00, 0x07, 0x1c, 0x15, 0x04, 0x64, 0x36, 0x09, 0x15, 0x09, 0x10, 0x06, 0xa4, 0x00, 0x0b, 0x10, 0x0c, 0x15, 0x09, 0x64, 0xa7, 0x00, 0x05, 0x15, 0x09, 0x36, 0x0a, 0x15, 0x08, 0x15, 0x07, 0x64, 0x15, 0x0a, 0x15, 0x07, 0x68, 0x10, 0x06, 0x6c, 0x60, 0x36, 0x0b, 0x15, 0x0b, 0x04, 0xa2, 0x00, 0x07, 0x04, 0xa7, 0x00]
theorem fl_X5_apart_1 {p j : Nat} {b : UInt8} (e : p = 64 + j) (h : fb_X5_apart_1[j]? = some b) : cX5_apart.data.toList[p]? = some b := fq_l (n := 64) (show (cX5_apart.data.toList.drop 64).take 64 = fb_X5_apart_1 by decide +kernel) e h
theorem dX5_apart_63 : decode cX5_apart 63 = .ok (.istore 8, 2) := fq2_54 (fl_X5_apart_0 (j := 63) rfl rfl) (fl_X5_apart_1 (j := 0) rfl rfl) rfl
theorem dX5_apart_65 : decode cX5_apart 65 = .ok (.iload_n 2, 1) := fq1_28 (fl_X5_apart_1 (j := 1) rfl rfl)
theorem dX5_apart_66 : decode cX5_apart 66 = .ok (.iload 4, 2) := fq2_21 (fl_X5_apart_1 (j := 2) rfl rfl) (fl_X5_apart_1 (j := 3) rfl rfl) rfl
theorem dX5_apart_68 : decode cX5_apart 68 = .ok (.if_icmp .ge 10, 3) := fq3_162 (fl_X5_apart_1 (j := 4) rfl rfl) (fl_X5_apart_1 (j := 5) rfl rfl) (fl_X5_apart_1 (j := 6) rfl rfl) (s2p rfl (bl rfl))
theorem dX5_apart_71 : decode cX5_apart 71 = .ok (.iload 4, 2) := fq2_21 (fl_X5_apart_1 (j := 7) rfl rfl) (fl_X5_apart_1 (j := 8) rfl rfl) rfl
theorem dX5_apart_73 : decode cX5_apart 73 = .ok (.iload_n 2, 1) := fq1_28 (fl_X5_apart_1 (j := 9) rfl rfl)
theorem dX5_apart_74 : decode cX5_apart 74 = .ok (.isub, 1) := fq1_100 (fl_X5_apart_1 (j := 10) rfl rfl)
theorem dX5_apart_75 : decode cX5_apart 75 = .ok (.goto 7, 3) := fq3_167 (fl_X5_apart_1 (j := 11) rfl rfl) (fl_X5_apart_1 (j := 12) rfl rfl) (fl_X5_apart_1 (j := 13) rfl rfl) (s2p rfl (bl rfl))
theorem dX5_apart_78 : decode cX5_apart 78 = .ok (.iload_n 2, 1) := fq1_28 (fl_X5_apart_1 (j := 14) rfl rfl)
theorem dX5_apart_79 : decode cX5_apart 79 = .ok (.iload 4, 2) := fq2_21 (fl_X5_apart_1 (j := 15) rfl rfl) (fl_X5_apart_1 (j := 16) rfl rfl) rfl
theorem dX5_apart_81 : decode cX5_apart 81 = .ok (.isub, 1) := fq1_100 (fl_X5_apart_1 (j := 17) rfl rfl)
theorem dX5_apart_82 : decode cX5_apart 82 = .ok (.istore 9, 2) := fq2_54 (fl_X5_apart_1 (j := 18) rfl rfl) (fl_X5_apart_1 (j := 19) rfl rfl) rfl
theorem dX5_apart_84 : decode cX5_apart 84 = .ok (.iload 9, 2) := fq2_21 (fl_X5_apart_1 (j := 20) rfl rfl) (fl_X5_apart_1 (j := 21) rfl rfl) rfl
theorem dX5_apart_86 : decode cX5_apart 86 = .ok (.bipush 6, 2) := fq2_16 (fl_X5_apart_1 (j := 22) rfl rfl) (fl_X5_apart_1 (j := 23) rfl rfl) (s1p rfl (bl rfl))
theorem dX5_apart_88 : decode cX5_apart 88 = .ok (.if_icmp .le 11, 3) := fq3_164 (fl_X5_apart_1 (j := 24) rfl rfl) (fl_X5_apart_1 (j := 25) rfl rfl) (fl_X5_apart_1 (j := 26) rfl rfl) (s2p rfl (bl rfl))
theorem dX5_apart_91 : decode cX5_apart 91 = .ok (.bipush 12, 2) := fq2_16 (fl_X5_apart_1 (j := 27) rfl rfl) (fl_X5_apart_1 (j := 28) rfl rfl) (s1p rfl (bl rfl))
theorem dX5_apart_93 : decode cX5_apart 93 = .ok (.iload 9, 2) := fq2_21 (fl_X5_apart_1 (j := 29) rfl rfl) (fl_X5_apart_1 (j := 30) rfl rfl) rfl
theorem dX5_apart_95 : decode cX5_apart 95 = .ok (.isub, 1) := fq1_100 (fl_X5_apart_1 (j := 31) rfl rfl)
theorem dX5_apart_96 : decode cX5_apart 96 = .ok (.goto 5, 3) := fq3_167 (fl_X5_apart_1 (j := 32) rfl rfl) (fl_X5_apart_1 (j := 33) rfl rfl) (fl_X5_apart_1 (j := 34) rfl rfl) (s2p rfl (bl rfl))
theorem dX5_apart_99 : decode cX5_apart 99 = .ok (.iload 9, 2) := fq2_21 (fl_X5_apart_1 (j := 35) rfl rfl) (fl_X5_apart_1 (j := 36) rfl rfl) rfl
theorem dX5_apart_101 : decode cX5_apart 101 = .ok (.istore 10, 2) := fq2_54 (fl_X5_apart_1 (j := 37) rfl rfl) (fl_X5_apart_1 (j := 38) rfl rfl) rfl
theorem dX5_apart_103 : decode cX5_apart 103 = .ok (.iload 8, 2) := fq2_21 (fl_X5_apart_1 (j := 39) rfl rfl) (fl_X5_apart_1 (j := 40) rfl rfl) rfl
theorem dX5_apart_105 : decode cX5_apart 105 = .ok (.iload 7, 2) := fq2_21 (fl_X5_apart_1 (j := 41) rfl rfl) (fl_X5_apart_1 (j := 42) rfl rfl) rfl
theorem dX5_apart_107 : decode cX5_apart 107 = .ok (.isub, 1) := fq1_100 (fl_X5_apart_1 (j := 43) rfl rfl)
theorem dX5_apart_108 : decode cX5_apart 108 = .ok (.iload 10, 2) := fq2_21 (fl_X5_apart_1 (j := 44) rfl rfl) (fl_X5_apart_1 (j := 45) rfl rfl) rfl
theorem dX5_apart_110 : decode cX5_apart 110 = .ok (.iload 7, 2) := fq2_21 (fl_X5_apart_1 (j := 46) rfl rfl) (fl_X5_apart_1 (j := 47) rfl rfl) rfl
theorem dX5_apart_112 : decode cX5_apart 112 = .ok (.imul, 1) := fq1_104 (fl_X5_apart_1 (j := 48) rfl rfl)
theorem dX5_apart_113 : decode cX5_apart 113 = .ok (.bipush 6, 2) := fq2_16 (fl_X5_apart_1 (j := 49) rfl rfl) (fl_X5_apart_1 (j := 50) rfl rfl) (s1p rfl (bl rfl))
theorem dX5_apart_115 : decode cX5_apart 115 = .ok (.idiv, 1) := fq1_108 (fl_X5_apart_1 (j := 51) rfl rfl)
theorem dX5_apart_116 : decode cX5_apart 116 = .ok (.iadd, 1) := fq1_96 (fl_X5_apart_1 (j := 52) rfl rfl)
theorem dX5_apart_117 : decode cX5_apart 117 = .ok (.istore 11, 2) := fq2_54 (fl_X5_apart_1 (j := 53) rfl rfl) (fl_X5_apart_1 (j := 54) rfl rfl) rfl
theorem dX5_apart_119 : decode cX5_apart 119 = .ok (.iload 11, 2) := fq2_21 (fl_X5_apart_1 (j := 55) rfl rfl) (fl_X5_apart_1 (j := 56) rfl rfl) rfl
theorem dX5_apart_121 : decode cX5_apart 121 = .ok (.iconst 1, 1) := fq1_4 (fl_X5_apart_1 (j := 57) rfl rfl)
theorem dX5_apart_122 : decode cX5_apart 122 = .ok (.if_icmp .ge 7, 3) := fq3_162 (fl_X5_apart_1 (j := 58) rfl rfl) (fl_X5_apart_1 (j := 59) rfl rfl) (fl_X5_apart_1 (j := 60) rfl rfl) (s2p rfl (bl rfl))
theorem dX5_apart_125 : decode cX5_apart 125 = .ok (.iconst 1, 1) := fq1_4 (fl_X5_apart_1 (j := 61) rfl rfl)
def fb_X5_apart_2 : List UInt8 := [0x05, 0x15, 0x0b, 0xac]
theorem fl_X5_apart_2 {p j : Nat} {b : UInt8} (e : p = 128 + j) (h : fb_X5_apart_2[j]? = some b) : cX5_apart.data.toList[p]? = some b := fq_l (n := 64) (show (cX5_apart.data.toList.drop 128).take 64 = fb_X5_apart_2 by decide +kernel) e h
theorem dX5_apart_126 : decode cX5_apart 126 = .ok (.goto 5, 3) := fq3_167 (fl_X5_apart_1 (j := 62) rfl rfl) (fl_X5_apart_1 (j := 63) rfl rfl) (fl_X5_apart_2 (j := 0) rfl rfl) (s2p rfl (bl rfl))
theorem dX5_apart_129 : decode cX5_apart 129 = .ok (.iload 11, 2) := fq2_21 (fl_X5_apart_2 (j := 1) rfl rfl) (fl_X5_apart_2 (j := 2) rfl rfl) rfl
theorem dX5_apart_131 : decode cX5_apart 131 = .ok (.ireturn, 1) := fq1_172 (fl_X5_apart_2 (j := 3) rfl rfl)
def fb_X5_heading_0 : List UInt8 := [0x2a, 0xb4, 0x00, 0x0f, 0x1b, 0x10, 0x06, 0x68, 0x04, 0x60, 0x2e, 0x3e, 0x1d, 0x04, 0xa2, 0x00, 0x07, 0x03, 0xa7, 0x00, 0x09, 0x10, 0x0c, 0x1c, 0x68, 0x1d, 0x6c, 0x36, 0x04, 0x2a, 0xb4, 0x00, 0x0f, 0x1b, 0x10, 0x06, 0x68, 0x05, 0x60, 0x2e, 0x15, 0x04, 0x60, 0x10, 0x0c, 0x70, 0xac]
theorem fl_X5_heading_0 {p j : Nat} {b : UInt8} (e : p = 0 + j) (h : fb_X5_heading_0[j]? = some b) : cX5_heading.data.toList[p]? = some b := fq_l (n := 64) (show (cX5_heading.data.toList.drop 0).take 64 = fb_X5_heading_0 by decide +kernel) e h
theorem dX5_heading_0 : decode cX5_heading 0 = .ok (.aload_n 0, 1) := fq1_42 (fl_X5_heading_0 (j := 0) rfl rfl)
theorem dX5_heading_1 : decode cX5_heading 1 = .ok (.getfield 15, 3) := fq3_180 (fl_X5_heading_0 (j := 1) rfl rfl) (fl_X5_heading_0 (j := 2) rfl rfl) (fl_X5_heading_0 (j := 3) rfl rfl) rfl
theorem dX5_heading_4 : decode cX5_heading 4 = .ok (.iload_n 1, 1) := fq1_27 (fl_X5_heading_0 (j := 4) rfl rfl)
theorem dX5_heading_5 : decode cX5_heading 5 = .ok (.bipush 6, 2) := fq2_16 (fl_X5_heading_0 (j := 5) rfl rfl) (fl_X5_heading_0 (j := 6) rfl rfl) (s1p rfl (bl rfl))
theorem dX5_heading_7 : decode cX5_heading 7 = .ok (.imul, 1) := fq1_104 (fl_X5_heading_0 (j := 7) rfl rfl)
theorem dX5_heading_8 : decode cX5_heading 8 = .ok (.iconst 1, 1) := fq1_4 (fl_X5_heading_0 (j := 8) rfl rfl)
theorem dX5_heading_9 : decode cX5_heading 9 = .ok (.iadd, 1) := fq1_96 (fl_X5_heading_0 (j := 9) rfl rfl)
theorem dX5_heading_10 : decode cX5_heading 10 = .ok (.iaload, 1) := fq1_46 (fl_X5_heading_0 (j := 10) rfl rfl)
theorem dX5_heading_11 : decode cX5_heading 11 = .ok (.istore_n 3, 1) := fq1_62 (fl_X5_heading_0 (j := 11) rfl rfl)
theorem dX5_heading_12 : decode cX5_heading 12 = .ok (.iload_n 3, 1) := fq1_29 (fl_X5_heading_0 (j := 12) rfl rfl)
theorem dX5_heading_13 : decode cX5_heading 13 = .ok (.iconst 1, 1) := fq1_4 (fl_X5_heading_0 (j := 13) rfl rfl)
theorem dX5_heading_14 : decode cX5_heading 14 = .ok (.if_icmp .ge 7, 3) := fq3_162 (fl_X5_heading_0 (j := 14) rfl rfl) (fl_X5_heading_0 (j := 15) rfl rfl) (fl_X5_heading_0 (j := 16) rfl rfl) (s2p rfl (bl rfl))
theorem dX5_heading_21 : decode cX5_heading 21 = .ok (.bipush 12, 2) := fq2_16 (fl_X5_heading_0 (j := 21) rfl rfl) (fl_X5_heading_0 (j := 22) rfl rfl) (s1p rfl (bl rfl))
theorem dX5_heading_23 : decode cX5_heading 23 = .ok (.iload_n 2, 1) := fq1_28 (fl_X5_heading_0 (j := 23) rfl rfl)
theorem dX5_heading_24 : decode cX5_heading 24 = .ok (.imul, 1) := fq1_104 (fl_X5_heading_0 (j := 24) rfl rfl)
theorem dX5_heading_25 : decode cX5_heading 25 = .ok (.iload_n 3, 1) := fq1_29 (fl_X5_heading_0 (j := 25) rfl rfl)
theorem dX5_heading_26 : decode cX5_heading 26 = .ok (.idiv, 1) := fq1_108 (fl_X5_heading_0 (j := 26) rfl rfl)
theorem dX5_heading_27 : decode cX5_heading 27 = .ok (.istore 4, 2) := fq2_54 (fl_X5_heading_0 (j := 27) rfl rfl) (fl_X5_heading_0 (j := 28) rfl rfl) rfl
theorem dX5_heading_29 : decode cX5_heading 29 = .ok (.aload_n 0, 1) := fq1_42 (fl_X5_heading_0 (j := 29) rfl rfl)
theorem dX5_heading_30 : decode cX5_heading 30 = .ok (.getfield 15, 3) := fq3_180 (fl_X5_heading_0 (j := 30) rfl rfl) (fl_X5_heading_0 (j := 31) rfl rfl) (fl_X5_heading_0 (j := 32) rfl rfl) rfl
theorem dX5_heading_33 : decode cX5_heading 33 = .ok (.iload_n 1, 1) := fq1_27 (fl_X5_heading_0 (j := 33) rfl rfl)
theorem dX5_heading_34 : decode cX5_heading 34 = .ok (.bipush 6, 2) := fq2_16 (fl_X5_heading_0 (j := 34) rfl rfl) (fl_X5_heading_0 (j := 35) rfl rfl) (s1p rfl (bl rfl))
theorem dX5_heading_36 : decode cX5_heading 36 = .ok (.imul, 1) := fq1_104 (fl_X5_heading_0 (j := 36) rfl rfl)
theorem dX5_heading_37 : decode cX5_heading 37 = .ok (.iconst 2, 1) := fq1_5 (fl_X5_heading_0 (j := 37) rfl rfl)
theorem dX5_heading_38 : decode cX5_heading 38 = .ok (.iadd, 1) := fq1_96 (fl_X5_heading_0 (j := 38) rfl rfl)
theorem dX5_heading_39 : decode cX5_heading 39 = .ok (.iaload, 1) := fq1_46 (fl_X5_heading_0 (j := 39) rfl rfl)
theorem dX5_heading_40 : decode cX5_heading 40 = .ok (.iload 4, 2) := fq2_21 (fl_X5_heading_0 (j := 40) rfl rfl) (fl_X5_heading_0 (j := 41) rfl rfl) rfl
theorem dX5_heading_42 : decode cX5_heading 42 = .ok (.iadd, 1) := fq1_96 (fl_X5_heading_0 (j := 42) rfl rfl)
theorem dX5_heading_43 : decode cX5_heading 43 = .ok (.bipush 12, 2) := fq2_16 (fl_X5_heading_0 (j := 43) rfl rfl) (fl_X5_heading_0 (j := 44) rfl rfl) (s1p rfl (bl rfl))
theorem dX5_heading_45 : decode cX5_heading 45 = .ok (.irem, 1) := fq1_112 (fl_X5_heading_0 (j := 45) rfl rfl)
theorem dX5_heading_46 : decode cX5_heading 46 = .ok (.ireturn, 1) := fq1_172 (fl_X5_heading_0 (j := 46) rfl rfl)
end

section
def FXI (f : Nat → Int32) (n : Int) : Prop := ∀ r : Int, 0 ≤ r → r < n → (0 ≤ gz f ((r * 6) + 0) ∧ gz f ((r * 6) + 0) ≤ 20) ∧ (1 ≤ gz f ((r * 6) + 1) ∧ gz f ((r * 6) + 1) ≤ 99) ∧ (0 ≤ gz f ((r * 6) + 2) ∧ gz f ((r * 6) + 2) ≤ 11) ∧ (0 ≤ gz f ((r * 6) + 3) ∧ gz f ((r * 6) + 3) ≤ 9) ∧ (0 ≤ gz f ((r * 6) + 4) ∧ gz f ((r * 6) + 4) ≤ 99) ∧ (0 ≤ gz f ((r * 6) + 5) ∧ gz f ((r * 6) + 5) ≤ 20)
/-- the direction of a rock in a week -/
def hd (f : Nat → Int32) (a w : Int) : Int := (gz f ((a * 6) + 2) + (12 * w) / gz f ((a * 6) + 1)) % 12
def nr (f : Nat → Int32) (a b : Int) : Int := if gz f ((b * 6) + 0) ≤ gz f ((a * 6) + 0) then gz f ((b * 6) + 0) else gz f ((a * 6) + 0)
def fr (f : Nat → Int32) (a b : Int) : Int := if gz f ((b * 6) + 0) ≤ gz f ((a * 6) + 0) then gz f ((a * 6) + 0) else gz f ((b * 6) + 0)
def tn (h g : Int) : Int := if g ≤ h then (h - g) else (g - h)
def sp (h g : Int) : Int := if tn h g ≤ 6 then tn h g else (12 - tn h g)
def lg0 (f : Nat → Int32) (a h b g : Int) : Int := ((fr f a b - nr f a b) + ((sp h g * nr f a b) / 6))
/-- light between two rocks in two directions -/
def ap (f : Nat → Int32) (a h b g : Int) : Int := if a = b then 0 else if 1 ≤ lg0 f a h b g then lg0 f a h b g else 1
theorem ap_rg {f : Nat → Int32} {n a h b g : Int} (hx0 : FXI f n) (ha : 0 ≤ a ∧ a < n) (hb : 0 ≤ b ∧ b < n) (hh : 0 ≤ h ∧ h ≤ 11) (hg : 0 ≤ g ∧ g ≤ 11) : 0 ≤ ap f a h b g ∧ ap f a h b g ≤ 20 := by
  have h1 := (hx0 a ha.1 ha.2).1
  have h2 := (hx0 b hb.1 hb.2).1
  have hs : 0 ≤ sp h g ∧ sp h g ≤ 6 := by
    unfold sp tn
    split <;> split <;> omega
  have hq : 0 ≤ nr f a b ∧ fr f a b ≤ 20 ∧ nr f a b ≤ fr f a b ∧ nr f a b ≤ 20 := by
    unfold nr fr
    split <;> omega
  have h3 : 0 ≤ sp h g * nr f a b ∧ sp h g * nr f a b ≤ 6 * nr f a b := ⟨Int.mul_nonneg hs.1 hq.1, Int.mul_le_mul_of_nonneg_right hs.2 hq.1⟩
  have hl : 0 ≤ lg0 f a h b g ∧ lg0 f a h b g ≤ 20 := by
    unfold lg0
    omega
  unfold ap
  split
  · omega
  · split <;> omega
theorem hd_rg (f : Nat → Int32) (a w : Int) : 0 ≤ hd f a w ∧ hd f a w ≤ 11 := by unfold hd; omega
set_option maxHeartbeats 4000000 in
set_option maxRecDepth 100000 in
theorem k_heading (l : Launch) (D : va_G) (k : Nat → ClassId) (h hf : Nat) (fs : List Value) (f1 : fs[1]? = some (.ref hf)) (f : Nat → Int32) (n : Int) (hn : n ≤ 6) (hx0 : FXI f n) (a w : Int) (ha : 0 ≤ a ∧ a < n) (hw : 0 ≤ w ∧ w ≤ 1000) : RD l yX5_heading cX5_heading 5 (some .int) 0 D k [.ref h, .int (iZ a), .int (iZ w)] [(h, .inr (5, fs)), (hf, .inl (k 1, 36, .inl f))] (iZ (hd f a w)) := by
  refine MR (by decide) (Nat.le_of_ble_eq_true rfl) (fun p e s m below meth c ls hx hb hml hr hlocks hts hown hKK hP hl => ?_)
  have hK := hKK.1
  have hl : lv_has ls 5 [(0, .ref h), (1, .int (iZ a)), (2, .int (iZ w))] := hl
  have hfx := hx0 a ha.1 ha.2
  refine lv_aload_n hx hb dX5_heading_0 rfl (lv_at hl 0 rfl) ?_
  refine va_get (D := D) (ci := 5) (v := .ref hf) (C := RX5) (T := TX5) (N := 7) hx hb hts iX5 hown hK hP 0 rfl rfl 1 (bl rfl) (hts _ qf_X5_15) (fun _ h => h) f1 dX5_heading_1 ?_
  refine lv_iload_n hx hb dX5_heading_4 rfl (lv_at hl 1 rfl) ?_
  refine lv_bipush (v := iZ 6) hx hb dX5_heading_5 bip_6 ?_
  refine lv_imul hx hb dX5_heading_7 ?_
  refine lv_topi (fun x_1 ex_1 => ?_)
  obtain rfl : x_1 = iZ (a * 6) := ex_1.trans (iZ_mul a 6)
  refine lv_iconst (v := iZ 1) hx hb dX5_heading_8 rfl ?_
  refine lv_iadd hx hb dX5_heading_9 ?_
  refine lv_topi (fun x_2 ex_2 => ?_)
  obtain rfl : x_2 = iZ ((a * 6) + 1) := ex_2.trans (iZ_add (a * 6) 1)
  refine va_iald hx hb hK hP 1 1 rfl rfl (zin (e := ((a * 6) + 1)) (n := 36) ⟨by omega, by omega⟩ (bl rfl)) dX5_heading_10 ?_
  refine lv_topi (fun x_3 ex_3 => ?_)
  obtain rfl : x_3 = iZ (gz f ((a * 6) + 1)) := ex_3.trans (gz_eq ⟨by omega, by omega⟩)
  have h_4 := gz_rg f ((a * 6) + 1)
  refine lv_istore_n (lv' := [(3, .int (iZ (gz f ((a * 6) + 1)))), (0, .ref h), (1, .int (iZ a)), (2, .int (iZ w))]) hx hb dX5_heading_11 rfl hl (bl rfl) rfl (fun ls hl => ?_)
  refine lv_iload_n hx hb dX5_heading_12 rfl (lv_at hl 0 rfl) ?_
  refine lv_iconst (v := iZ 1) hx hb dX5_heading_13 rfl ?_
  refine lv_icmp_ge (tgt := 21) hx hb dX5_heading_14 rfl (fun c_5 => ?_) (fun c_5 => ?_)
  ·
    have c_5 := (zle (x := iZ 1) (y := iZ (gz f ((a * 6) + 1))) rfl rfl wn_1 (gz_rg f ((a * 6) + 1))).mp c_5
    refine lv_bipush (v := iZ 12) hx hb dX5_heading_21 bip_12 ?_
    refine lv_iload_n hx hb dX5_heading_23 rfl (lv_at hl 3 rfl) ?_
    refine lv_imul hx hb dX5_heading_24 ?_
    refine lv_topi (fun x_6 ex_6 => ?_)
    obtain rfl : x_6 = iZ (12 * w) := ex_6.trans (iZ_mul 12 w)
    refine lv_iload_n hx hb dX5_heading_25 rfl (lv_at hl 0 rfl) ?_
    refine lv_idiv hx hb dX5_heading_26 (by rw [zne rfl ⟨by omega, by omega⟩]; omega) ?_
    have hd_26 := zdiv_b (a := (12 * w)) (b := (gz f ((a * 6) + 1))) (by omega) (by omega)
    refine lv_topi (fun x_7 ex_7 => ?_)
    obtain rfl : x_7 = iZ ((12 * w) / (gz f ((a * 6) + 1))) := ex_7.trans (iZ_div (a := (12 * w)) (b := (gz f ((a * 6) + 1))) (by omega) (by omega) (by omega) (by omega))
    refine lv_istore (lv' := [(4, .int (iZ ((12 * w) / (gz f ((a * 6) + 1))))), (3, .int (iZ (gz f ((a * 6) + 1)))), (0, .ref h), (1, .int (iZ a)), (2, .int (iZ w))]) hx hb dX5_heading_27 hl (bl rfl) rfl (fun ls hl => ?_)
    refine lv_aload_n hx hb dX5_heading_29 rfl (lv_at hl 2 rfl) ?_
    refine va_get (D := D) (ci := 5) (v := .ref hf) (C := RX5) (T := TX5) (N := 7) hx hb hts iX5 hown hK hP 0 rfl rfl 1 (bl rfl) (hts _ qf_X5_15) (fun _ h => h) f1 dX5_heading_30 ?_
    refine lv_iload_n hx hb dX5_heading_33 rfl (lv_at hl 3 rfl) ?_
    refine lv_bipush (v := iZ 6) hx hb dX5_heading_34 bip_6 ?_
    refine lv_imul hx hb dX5_heading_36 ?_
    refine lv_topi (fun x_8 ex_8 => ?_)
    obtain rfl : x_8 = iZ (a * 6) := ex_8.trans (iZ_mul a 6)
    refine lv_iconst (v := iZ 2) hx hb dX5_heading_37 rfl ?_
    refine lv_iadd hx hb dX5_heading_38 ?_
    refine lv_topi (fun x_9 ex_9 => ?_)
    obtain rfl : x_9 = iZ ((a * 6) + 2) := ex_9.trans (iZ_add (a * 6) 2)
    refine va_iald hx hb hK hP 1 1 rfl rfl (zin (e := ((a * 6) + 2)) (n := 36) ⟨by omega, by omega⟩ (bl rfl)) dX5_heading_39 ?_
    refine lv_topi (fun x_10 ex_10 => ?_)
    obtain rfl : x_10 = iZ (gz f ((a * 6) + 2)) := ex_10.trans (gz_eq ⟨by omega, by omega⟩)
    have h_11 := gz_rg f ((a * 6) + 2)
    refine lv_iload hx hb dX5_heading_40 (lv_at hl 0 rfl) ?_
    refine lv_iadd hx hb dX5_heading_42 ?_
    refine lv_topi (fun x_12 ex_12 => ?_)
    obtain rfl : x_12 = iZ ((gz f ((a * 6) + 2)) + ((12 * w) / (gz f ((a * 6) + 1)))) := ex_12.trans (iZ_add (gz f ((a * 6) + 2)) ((12 * w) / (gz f ((a * 6) + 1))))
    refine lv_bipush (v := iZ 12) hx hb dX5_heading_43 bip_12 ?_
    refine lv_irem hx hb dX5_heading_45 (by rw [zne rfl ⟨by omega, by omega⟩]; omega) ?_
    refine lv_topi (fun x_13 ex_13 => ?_)
    obtain rfl : x_13 = iZ (((gz f ((a * 6) + 2)) + ((12 * w) / (gz f ((a * 6) + 1)))) % 12) := ex_13.trans (iZ_rem (a := ((gz f ((a * 6) + 2)) + ((12 * w) / (gz f ((a * 6) + 1))))) (b := 12) (by omega) (by omega) (by omega) (by omega))
    exact ERi hx hb hr hlocks rfl dX5_heading_46
  ·
    have c_5 := mt (zle (x := iZ 1) (y := iZ (gz f ((a * 6) + 1))) rfl rfl wn_1 (gz_rg f ((a * 6) + 1))).mpr c_5
    exact absurd c_5 (by omega)
set_option maxHeartbeats 4000000 in
set_option maxRecDepth 100000 in
theorem k_apart (l : Launch) (D : va_G) (k : Nat → ClassId) (h hf : Nat) (fs : List Value) (f1 : fs[1]? = some (.ref hf)) (f : Nat → Int32) (n : Int) (hn : n ≤ 6) (hx0 : FXI f n) (a h1 b g1 : Int) (ha : 0 ≤ a ∧ a < n) (hb0 : 0 ≤ b ∧ b < n) (hh : 0 ≤ h1 ∧ h1 ≤ 11) (hg : 0 ≤ g1 ∧ g1 ≤ 11) : RD l yX5_apart cX5_apart 12 (some .int) 0 D k [.ref h, .int (iZ a), .int (iZ h1), .int (iZ b), .int (iZ g1)] [(h, .inr (5, fs)), (hf, .inl (k 1, 36, .inl f))] (iZ (ap f a h1 b g1)) := by
  refine MR (by decide) (Nat.le_of_ble_eq_true rfl) (fun p e s m below meth c ls hx hb hml hr hlocks hts hown hKK hP hl => ?_)
  have hK := hKK.1
  have hl : lv_has ls 12 [(0, .ref h), (1, .int (iZ a)), (2, .int (iZ h1)), (3, .int (iZ b)), (4, .int (iZ g1))] := hl
  have hfa := (hx0 a ha.1 ha.2).1
  have hfb := (hx0 b hb0.1 hb0.2).1
  refine lv_iload_n hx hb dX5_apart_0 rfl (lv_at hl 1 rfl) ?_
  refine lv_iload_n hx hb dX5_apart_1 rfl (lv_at hl 3 rfl) ?_
  refine lv_icmp_ne (tgt := 7) hx hb dX5_apart_2 rfl (fun c_1 => ?_) (fun c_1 => ?_)
  ·
    have c_1 := mt (zeq (x := iZ a) (y := iZ b) rfl rfl ⟨by omega, by omega⟩ ⟨by omega, by omega⟩).mpr c_1
    refine lv_aload_n hx hb dX5_apart_7 rfl (lv_at hl 0 rfl) ?_
    refine va_get (D := D) (ci := 5) (v := .ref hf) (C := RX5) (T := TX5) (N := 7) hx hb hts iX5 hown hK hP 0 rfl rfl 1 (bl rfl) (hts _ qf_X5_15) (fun _ h => h) f1 dX5_apart_8 ?_
    refine lv_iload_n hx hb dX5_apart_11 rfl (lv_at hl 1 rfl) ?_
    refine lv_bipush (v := iZ 6) hx hb dX5_apart_12 bip_6 ?_
    refine lv_imul hx hb dX5_apart_14 ?_
    refine lv_topi (fun x_2 ex_2 => ?_)
    obtain rfl : x_2 = iZ (a * 6) := ex_2.trans (iZ_mul a 6)
    refine lv_iconst (v := iZ 0) hx hb dX5_apart_15 rfl ?_
    refine lv_iadd hx hb dX5_apart_16 ?_
    refine lv_topi (fun x_3 ex_3 => ?_)
    obtain rfl : x_3 = iZ ((a * 6) + 0) := ex_3.trans (iZ_add (a * 6) 0)
    refine va_iald hx hb hK hP 1 1 rfl rfl (zin (e := ((a * 6) + 0)) (n := 36) ⟨by omega, by omega⟩ (bl rfl)) dX5_apart_17 ?_
    refine lv_topi (fun x_4 ex_4 => ?_)
    obtain rfl : x_4 = iZ (gz f ((a * 6) + 0)) := ex_4.trans (gz_eq ⟨by omega, by omega⟩)
    have h_5 := gz_rg f ((a * 6) + 0)
    refine lv_istore (lv' := [(5, .int (iZ (gz f ((a * 6) + 0)))), (0, .ref h), (1, .int (iZ a)), (2, .int (iZ h1)), (3, .int (iZ b)), (4, .int (iZ g1))]) hx hb dX5_apart_18 hl (bl rfl) rfl (fun ls hl => ?_)
    refine lv_aload_n hx hb dX5_apart_20 rfl (lv_at hl 1 rfl) ?_
    refine va_get (D := D) (ci := 5) (v := .ref hf) (C := RX5) (T := TX5) (N := 7) hx hb hts iX5 hown hK hP 0 rfl rfl 1 (bl rfl) (hts _ qf_X5_15) (fun _ h => h) f1 dX5_apart_21 ?_
    refine lv_iload_n hx hb dX5_apart_24 rfl (lv_at hl 4 rfl) ?_
    refine lv_bipush (v := iZ 6) hx hb dX5_apart_25 bip_6 ?_
    refine lv_imul hx hb dX5_apart_27 ?_
    refine lv_topi (fun x_6 ex_6 => ?_)
    obtain rfl : x_6 = iZ (b * 6) := ex_6.trans (iZ_mul b 6)
    refine lv_iconst (v := iZ 0) hx hb dX5_apart_28 rfl ?_
    refine lv_iadd hx hb dX5_apart_29 ?_
    refine lv_topi (fun x_7 ex_7 => ?_)
    obtain rfl : x_7 = iZ ((b * 6) + 0) := ex_7.trans (iZ_add (b * 6) 0)
    refine va_iald hx hb hK hP 1 1 rfl rfl (zin (e := ((b * 6) + 0)) (n := 36) ⟨by omega, by omega⟩ (bl rfl)) dX5_apart_30 ?_
    refine lv_topi (fun x_8 ex_8 => ?_)
    obtain rfl : x_8 = iZ (gz f ((b * 6) + 0)) := ex_8.trans (gz_eq ⟨by omega, by omega⟩)
    have h_9 := gz_rg f ((b * 6) + 0)
    refine lv_istore (lv' := [(6, .int (iZ (gz f ((b * 6) + 0)))), (5, .int (iZ (gz f ((a * 6) + 0)))), (0, .ref h), (1, .int (iZ a)), (2, .int (iZ h1)), (3, .int (iZ b)), (4, .int (iZ g1))]) hx hb dX5_apart_31 hl (bl rfl) rfl (fun ls hl => ?_)
    refine lv_iload hx hb dX5_apart_33 (lv_at hl 1 rfl) ?_
    refine lv_iload hx hb dX5_apart_35 (lv_at hl 0 rfl) ?_
    refine lv_icmp_ge (tgt := 45) hx hb dX5_apart_37 rfl (fun c_10 => ?_) (fun c_10 => ?_)
    ·
      have c_10 := (zle (x := iZ (gz f ((b * 6) + 0))) (y := iZ (gz f ((a * 6) + 0))) rfl rfl (gz_rg f ((b * 6) + 0)) (gz_rg f ((a * 6) + 0))).mp c_10
      refine lv_iload hx hb dX5_apart_45 (lv_at hl 0 rfl) ?_
      refine lv_istore (lv' := [(7, .int (iZ (gz f ((b * 6) + 0)))), (6, .int (iZ (gz f ((b * 6) + 0)))), (5, .int (iZ (gz f ((a * 6) + 0)))), (0, .ref h), (1, .int (iZ a)), (2, .int (iZ h1)), (3, .int (iZ b)), (4, .int (iZ g1))]) hx hb dX5_apart_47 hl (bl rfl) rfl (fun ls hl => ?_)
      refine lv_iload hx hb dX5_apart_49 (lv_at hl 2 rfl) ?_
      refine lv_iload hx hb dX5_apart_51 (lv_at hl 1 rfl) ?_
      refine lv_icmp_ge (tgt := 61) hx hb dX5_apart_53 rfl (fun c_11 => ?_) (fun c_11 => ?_)
      ·
        have c_11 := (zle (x := iZ (gz f ((b * 6) + 0))) (y := iZ (gz f ((a * 6) + 0))) rfl rfl (gz_rg f ((b * 6) + 0)) (gz_rg f ((a * 6) + 0))).mp c_11
        refine lv_iload hx hb dX5_apart_61 (lv_at hl 2 rfl) ?_
        refine lv_istore (lv' := [(8, .int (iZ (gz f ((a * 6) + 0)))), (7, .int (iZ (gz f ((b * 6) + 0)))), (6, .int (iZ (gz f ((b * 6) + 0)))), (5, .int (iZ (gz f ((a * 6) + 0)))), (0, .ref h), (1, .int (iZ a)), (2, .int (iZ h1)), (3, .int (iZ b)), (4, .int (iZ g1))]) hx hb dX5_apart_63 hl (bl rfl) rfl (fun ls hl => ?_)
        refine lv_iload_n hx hb dX5_apart_65 rfl (lv_at hl 6 rfl) ?_
        refine lv_iload hx hb dX5_apart_66 (lv_at hl 8 rfl) ?_
        refine lv_icmp_ge (tgt := 78) hx hb dX5_apart_68 rfl (fun c_12 => ?_) (fun c_12 => ?_)
        ·
          have c_12 := (zle (x := iZ g1) (y := iZ h1) rfl rfl ⟨by omega, by omega⟩ ⟨by omega, by omega⟩).mp c_12
          refine lv_iload_n hx hb dX5_apart_78 rfl (lv_at hl 6 rfl) ?_
          refine lv_iload hx hb dX5_apart_79 (lv_at hl 8 rfl) ?_
          refine lv_isub hx hb dX5_apart_81 ?_
          refine lv_topi (fun x_13 ex_13 => ?_)
          obtain rfl : x_13 = iZ (h1 - g1) := ex_13.trans (iZ_sub h1 g1)
          refine lv_istore (lv' := [(9, .int (iZ (h1 - g1))), (8, .int (iZ (gz f ((a * 6) + 0)))), (7, .int (iZ (gz f ((b * 6) + 0)))), (6, .int (iZ (gz f ((b * 6) + 0)))), (5, .int (iZ (gz f ((a * 6) + 0)))), (0, .ref h), (1, .int (iZ a)), (2, .int (iZ h1)), (3, .int (iZ b)), (4, .int (iZ g1))]) hx hb dX5_apart_82 hl (bl rfl) rfl (fun ls hl => ?_)
          refine lv_iload hx hb dX5_apart_84 (lv_at hl 0 rfl) ?_
          refine lv_bipush (v := iZ 6) hx hb dX5_apart_86 bip_6 ?_
          refine lv_icmp_le (tgt := 99) hx hb dX5_apart_88 rfl (fun c_14 => ?_) (fun c_14 => ?_)
          ·
            have c_14 := (zle (x := iZ (h1 - g1)) (y := iZ 6) rfl rfl ⟨by omega, by omega⟩ wn_6).mp c_14
            refine lv_iload hx hb dX5_apart_99 (lv_at hl 0 rfl) ?_
            refine lv_istore (lv' := [(10, .int (iZ (h1 - g1))), (9, .int (iZ (h1 - g1))), (8, .int (iZ (gz f ((a * 6) + 0)))), (7, .int (iZ (gz f ((b * 6) + 0)))), (6, .int (iZ (gz f ((b * 6) + 0)))), (5, .int (iZ (gz f ((a * 6) + 0)))), (0, .ref h), (1, .int (iZ a)), (2, .int (iZ h1)), (3, .int (iZ b)), (4, .int (iZ g1))]) hx hb dX5_apart_101 hl (bl rfl) rfl (fun ls hl => ?_)
            refine lv_iload hx hb dX5_apart_103 (lv_at hl 2 rfl) ?_
            refine lv_iload hx hb dX5_apart_105 (lv_at hl 3 rfl) ?_
            refine lv_isub hx hb dX5_apart_107 ?_
            refine lv_topi (fun x_15 ex_15 => ?_)
            obtain rfl : x_15 = iZ ((gz f ((a * 6) + 0)) - (gz f ((b * 6) + 0))) := ex_15.trans (iZ_sub (gz f ((a * 6) + 0)) (gz f ((b * 6) + 0)))
            refine lv_iload hx hb dX5_apart_108 (lv_at hl 0 rfl) ?_
            refine lv_iload hx hb dX5_apart_110 (lv_at hl 3 rfl) ?_
            have hm_112 := mul_b (a := (h1 - g1)) (b := (gz f ((b * 6) + 0))) (A := 6) (B := 20) (by omega) (by omega) (by omega) (by omega)
            refine lv_imul hx hb dX5_apart_112 ?_
            refine lv_topi (fun x_16 ex_16 => ?_)
            obtain rfl : x_16 = iZ ((h1 - g1) * (gz f ((b * 6) + 0))) := ex_16.trans (iZ_mul (h1 - g1) (gz f ((b * 6) + 0)))
            refine lv_bipush (v := iZ 6) hx hb dX5_apart_113 bip_6 ?_
            refine lv_idiv hx hb dX5_apart_115 (by rw [zne rfl ⟨by omega, by omega⟩]; omega) ?_
            have hd_115 := zdiv_b (a := ((h1 - g1) * (gz f ((b * 6) + 0)))) (b := 6) (by omega) (by omega)
            refine lv_topi (fun x_17 ex_17 => ?_)
            obtain rfl : x_17 = iZ (((h1 - g1) * (gz f ((b * 6) + 0))) / 6) := ex_17.trans (iZ_div (a := ((h1 - g1) * (gz f ((b * 6) + 0)))) (b := 6) (by omega) (by omega) (by omega) (by omega))
            refine lv_iadd hx hb dX5_apart_116 ?_
            refine lv_topi (fun x_18 ex_18 => ?_)
            obtain rfl : x_18 = iZ (((gz f ((a * 6) + 0)) - (gz f ((b * 6) + 0))) + (((h1 - g1) * (gz f ((b * 6) + 0))) / 6)) := ex_18.trans (iZ_add ((gz f ((a * 6) + 0)) - (gz f ((b * 6) + 0))) (((h1 - g1) * (gz f ((b * 6) + 0))) / 6))
            refine lv_istore (lv' := [(11, .int (iZ (((gz f ((a * 6) + 0)) - (gz f ((b * 6) + 0))) + (((h1 - g1) * (gz f ((b * 6) + 0))) / 6)))), (10, .int (iZ (h1 - g1))), (9, .int (iZ (h1 - g1))), (8, .int (iZ (gz f ((a * 6) + 0)))), (7, .int (iZ (gz f ((b * 6) + 0)))), (6, .int (iZ (gz f ((b * 6) + 0)))), (5, .int (iZ (gz f ((a * 6) + 0)))), (0, .ref h), (1, .int (iZ a)), (2, .int (iZ h1)), (3, .int (iZ b)), (4, .int (iZ g1))]) hx hb dX5_apart_117 hl (bl rfl) rfl (fun ls hl => ?_)
            refine lv_iload hx hb dX5_apart_119 (lv_at hl 0 rfl) ?_
            refine lv_iconst (v := iZ 1) hx hb dX5_apart_121 rfl ?_
            refine lv_icmp_ge (tgt := 129) hx hb dX5_apart_122 rfl (fun c_19 => ?_) (fun c_19 => ?_)
            ·
              have c_19 := (zle (x := iZ 1) (y := iZ (((gz f ((a * 6) + 0)) - (gz f ((b * 6) + 0))) + (((h1 - g1) * (gz f ((b * 6) + 0))) / 6))) rfl rfl wn_1 ⟨by omega, by omega⟩).mp c_19
              refine lv_iload hx hb dX5_apart_129 (lv_at hl 0 rfl) ?_
              exact ERi hx hb hr hlocks (congrArg iZ (by simp only [ap, lg0, nr, fr, sp, tn, c_1, c_10, c_11, c_12, c_14, c_19, if_true, if_false])) dX5_apart_131
            ·
              have c_19 := mt (zle (x := iZ 1) (y := iZ (((gz f ((a * 6) + 0)) - (gz f ((b * 6) + 0))) + (((h1 - g1) * (gz f ((b * 6) + 0))) / 6))) rfl rfl wn_1 ⟨by omega, by omega⟩).mpr c_19
              refine lv_iconst (v := iZ 1) hx hb dX5_apart_125 rfl ?_
              refine lv_goto (tgt := 131) hx hb dX5_apart_126 rfl ?_
              exact ERi hx hb hr hlocks (congrArg iZ (by simp only [ap, lg0, nr, fr, sp, tn, c_1, c_10, c_11, c_12, c_14, c_19, if_true, if_false])) dX5_apart_131
          ·
            have c_14 := mt (zle (x := iZ (h1 - g1)) (y := iZ 6) rfl rfl ⟨by omega, by omega⟩ wn_6).mpr c_14
            refine lv_bipush (v := iZ 12) hx hb dX5_apart_91 bip_12 ?_
            refine lv_iload hx hb dX5_apart_93 (lv_at hl 0 rfl) ?_
            refine lv_isub hx hb dX5_apart_95 ?_
            refine lv_topi (fun x_20 ex_20 => ?_)
            obtain rfl : x_20 = iZ (12 - (h1 - g1)) := ex_20.trans (iZ_sub 12 (h1 - g1))
            refine lv_goto (tgt := 101) hx hb dX5_apart_96 rfl ?_
            refine lv_istore (lv' := [(10, .int (iZ (12 - (h1 - g1)))), (9, .int (iZ (h1 - g1))), (8, .int (iZ (gz f ((a * 6) + 0)))), (7, .int (iZ (gz f ((b * 6) + 0)))), (6, .int (iZ (gz f ((b * 6) + 0)))), (5, .int (iZ (gz f ((a * 6) + 0)))), (0, .ref h), (1, .int (iZ a)), (2, .int (iZ h1)), (3, .int (iZ b)), (4, .int (iZ g1))]) hx hb dX5_apart_101 hl (bl rfl) rfl (fun ls hl => ?_)
            refine lv_iload hx hb dX5_apart_103 (lv_at hl 2 rfl) ?_
            refine lv_iload hx hb dX5_apart_105 (lv_at hl 3 rfl) ?_
            refine lv_isub hx hb dX5_apart_107 ?_
            refine lv_topi (fun x_21 ex_21 => ?_)
            obtain rfl : x_21 = iZ ((gz f ((a * 6) + 0)) - (gz f ((b * 6) + 0))) := ex_21.trans (iZ_sub (gz f ((a * 6) + 0)) (gz f ((b * 6) + 0)))
            refine lv_iload hx hb dX5_apart_108 (lv_at hl 0 rfl) ?_
            refine lv_iload hx hb dX5_apart_110 (lv_at hl 3 rfl) ?_
            have hm_112 := mul_b (a := (12 - (h1 - g1))) (b := (gz f ((b * 6) + 0))) (A := 6) (B := 20) (by omega) (by omega) (by omega) (by omega)
            refine lv_imul hx hb dX5_apart_112 ?_
            refine lv_topi (fun x_22 ex_22 => ?_)
            obtain rfl : x_22 = iZ ((12 - (h1 - g1)) * (gz f ((b * 6) + 0))) := ex_22.trans (iZ_mul (12 - (h1 - g1)) (gz f ((b * 6) + 0)))
            refine lv_bipush (v := iZ 6) hx hb dX5_apart_113 bip_6 ?_
            refine lv_idiv hx hb dX5_apart_115 (by rw [zne rfl ⟨by omega, by omega⟩]; omega) ?_
            have hd_115 := zdiv_b (a := ((12 - (h1 - g1)) * (gz f ((b * 6) + 0)))) (b := 6) (by omega) (by omega)
            refine lv_topi (fun x_23 ex_23 => ?_)
            obtain rfl : x_23 = iZ (((12 - (h1 - g1)) * (gz f ((b * 6) + 0))) / 6) := ex_23.trans (iZ_div (a := ((12 - (h1 - g1)) * (gz f ((b * 6) + 0)))) (b := 6) (by omega) (by omega) (by omega) (by omega))
            refine lv_iadd hx hb dX5_apart_116 ?_
            refine lv_topi (fun x_24 ex_24 => ?_)
            obtain rfl : x_24 = iZ (((gz f ((a * 6) + 0)) - (gz f ((b * 6) + 0))) + (((12 - (h1 - g1)) * (gz f ((b * 6) + 0))) / 6)) := ex_24.trans (iZ_add ((gz f ((a * 6) + 0)) - (gz f ((b * 6) + 0))) (((12 - (h1 - g1)) * (gz f ((b * 6) + 0))) / 6))
            refine lv_istore (lv' := [(11, .int (iZ (((gz f ((a * 6) + 0)) - (gz f ((b * 6) + 0))) + (((12 - (h1 - g1)) * (gz f ((b * 6) + 0))) / 6)))), (10, .int (iZ (12 - (h1 - g1)))), (9, .int (iZ (h1 - g1))), (8, .int (iZ (gz f ((a * 6) + 0)))), (7, .int (iZ (gz f ((b * 6) + 0)))), (6, .int (iZ (gz f ((b * 6) + 0)))), (5, .int (iZ (gz f ((a * 6) + 0)))), (0, .ref h), (1, .int (iZ a)), (2, .int (iZ h1)), (3, .int (iZ b)), (4, .int (iZ g1))]) hx hb dX5_apart_117 hl (bl rfl) rfl (fun ls hl => ?_)
            refine lv_iload hx hb dX5_apart_119 (lv_at hl 0 rfl) ?_
            refine lv_iconst (v := iZ 1) hx hb dX5_apart_121 rfl ?_
            refine lv_icmp_ge (tgt := 129) hx hb dX5_apart_122 rfl (fun c_25 => ?_) (fun c_25 => ?_)
            ·
              have c_25 := (zle (x := iZ 1) (y := iZ (((gz f ((a * 6) + 0)) - (gz f ((b * 6) + 0))) + (((12 - (h1 - g1)) * (gz f ((b * 6) + 0))) / 6))) rfl rfl wn_1 ⟨by omega, by omega⟩).mp c_25
              refine lv_iload hx hb dX5_apart_129 (lv_at hl 0 rfl) ?_
              exact ERi hx hb hr hlocks (congrArg iZ (by simp only [ap, lg0, nr, fr, sp, tn, c_1, c_10, c_11, c_12, c_14, c_25, if_true, if_false])) dX5_apart_131
            ·
              have c_25 := mt (zle (x := iZ 1) (y := iZ (((gz f ((a * 6) + 0)) - (gz f ((b * 6) + 0))) + (((12 - (h1 - g1)) * (gz f ((b * 6) + 0))) / 6))) rfl rfl wn_1 ⟨by omega, by omega⟩).mpr c_25
              refine lv_iconst (v := iZ 1) hx hb dX5_apart_125 rfl ?_
              refine lv_goto (tgt := 131) hx hb dX5_apart_126 rfl ?_
              exact ERi hx hb hr hlocks (congrArg iZ (by simp only [ap, lg0, nr, fr, sp, tn, c_1, c_10, c_11, c_12, c_14, c_25, if_true, if_false])) dX5_apart_131
        ·
          have c_12 := mt (zle (x := iZ g1) (y := iZ h1) rfl rfl ⟨by omega, by omega⟩ ⟨by omega, by omega⟩).mpr c_12
          refine lv_iload hx hb dX5_apart_71 (lv_at hl 8 rfl) ?_
          refine lv_iload_n hx hb dX5_apart_73 rfl (lv_at hl 6 rfl) ?_
          refine lv_isub hx hb dX5_apart_74 ?_
          refine lv_topi (fun x_26 ex_26 => ?_)
          obtain rfl : x_26 = iZ (g1 - h1) := ex_26.trans (iZ_sub g1 h1)
          refine lv_goto (tgt := 82) hx hb dX5_apart_75 rfl ?_
          refine lv_istore (lv' := [(9, .int (iZ (g1 - h1))), (8, .int (iZ (gz f ((a * 6) + 0)))), (7, .int (iZ (gz f ((b * 6) + 0)))), (6, .int (iZ (gz f ((b * 6) + 0)))), (5, .int (iZ (gz f ((a * 6) + 0)))), (0, .ref h), (1, .int (iZ a)), (2, .int (iZ h1)), (3, .int (iZ b)), (4, .int (iZ g1))]) hx hb dX5_apart_82 hl (bl rfl) rfl (fun ls hl => ?_)
          refine lv_iload hx hb dX5_apart_84 (lv_at hl 0 rfl) ?_
          refine lv_bipush (v := iZ 6) hx hb dX5_apart_86 bip_6 ?_
          refine lv_icmp_le (tgt := 99) hx hb dX5_apart_88 rfl (fun c_27 => ?_) (fun c_27 => ?_)
          ·
            have c_27 := (zle (x := iZ (g1 - h1)) (y := iZ 6) rfl rfl ⟨by omega, by omega⟩ wn_6).mp c_27
            refine lv_iload hx hb dX5_apart_99 (lv_at hl 0 rfl) ?_
            refine lv_istore (lv' := [(10, .int (iZ (g1 - h1))), (9, .int (iZ (g1 - h1))), (8, .int (iZ (gz f ((a * 6) + 0)))), (7, .int (iZ (gz f ((b * 6) + 0)))), (6, .int (iZ (gz f ((b * 6) + 0)))), (5, .int (iZ (gz f ((a * 6) + 0)))), (0, .ref h), (1, .int (iZ a)), (2, .int (iZ h1)), (3, .int (iZ b)), (4, .int (iZ g1))]) hx hb dX5_apart_101 hl (bl rfl) rfl (fun ls hl => ?_)
            refine lv_iload hx hb dX5_apart_103 (lv_at hl 2 rfl) ?_
            refine lv_iload hx hb dX5_apart_105 (lv_at hl 3 rfl) ?_
            refine lv_isub hx hb dX5_apart_107 ?_
            refine lv_topi (fun x_28 ex_28 => ?_)
            obtain rfl : x_28 = iZ ((gz f ((a * 6) + 0)) - (gz f ((b * 6) + 0))) := ex_28.trans (iZ_sub (gz f ((a * 6) + 0)) (gz f ((b * 6) + 0)))
            refine lv_iload hx hb dX5_apart_108 (lv_at hl 0 rfl) ?_
            refine lv_iload hx hb dX5_apart_110 (lv_at hl 3 rfl) ?_
            have hm_112 := mul_b (a := (g1 - h1)) (b := (gz f ((b * 6) + 0))) (A := 6) (B := 20) (by omega) (by omega) (by omega) (by omega)
            refine lv_imul hx hb dX5_apart_112 ?_
            refine lv_topi (fun x_29 ex_29 => ?_)
            obtain rfl : x_29 = iZ ((g1 - h1) * (gz f ((b * 6) + 0))) := ex_29.trans (iZ_mul (g1 - h1) (gz f ((b * 6) + 0)))
            refine lv_bipush (v := iZ 6) hx hb dX5_apart_113 bip_6 ?_
            refine lv_idiv hx hb dX5_apart_115 (by rw [zne rfl ⟨by omega, by omega⟩]; omega) ?_
            have hd_115 := zdiv_b (a := ((g1 - h1) * (gz f ((b * 6) + 0)))) (b := 6) (by omega) (by omega)
            refine lv_topi (fun x_30 ex_30 => ?_)
            obtain rfl : x_30 = iZ (((g1 - h1) * (gz f ((b * 6) + 0))) / 6) := ex_30.trans (iZ_div (a := ((g1 - h1) * (gz f ((b * 6) + 0)))) (b := 6) (by omega) (by omega) (by omega) (by omega))
            refine lv_iadd hx hb dX5_apart_116 ?_
            refine lv_topi (fun x_31 ex_31 => ?_)
            obtain rfl : x_31 = iZ (((gz f ((a * 6) + 0)) - (gz f ((b * 6) + 0))) + (((g1 - h1) * (gz f ((b * 6) + 0))) / 6)) := ex_31.trans (iZ_add ((gz f ((a * 6) + 0)) - (gz f ((b * 6) + 0))) (((g1 - h1) * (gz f ((b * 6) + 0))) / 6))
            refine lv_istore (lv' := [(11, .int (iZ (((gz f ((a * 6) + 0)) - (gz f ((b * 6) + 0))) + (((g1 - h1) * (gz f ((b * 6) + 0))) / 6)))), (10, .int (iZ (g1 - h1))), (9, .int (iZ (g1 - h1))), (8, .int (iZ (gz f ((a * 6) + 0)))), (7, .int (iZ (gz f ((b * 6) + 0)))), (6, .int (iZ (gz f ((b * 6) + 0)))), (5, .int (iZ (gz f ((a * 6) + 0)))), (0, .ref h), (1, .int (iZ a)), (2, .int (iZ h1)), (3, .int (iZ b)), (4, .int (iZ g1))]) hx hb dX5_apart_117 hl (bl rfl) rfl (fun ls hl => ?_)
            refine lv_iload hx hb dX5_apart_119 (lv_at hl 0 rfl) ?_
            refine lv_iconst (v := iZ 1) hx hb dX5_apart_121 rfl ?_
            refine lv_icmp_ge (tgt := 129) hx hb dX5_apart_122 rfl (fun c_32 => ?_) (fun c_32 => ?_)
            ·
              have c_32 := (zle (x := iZ 1) (y := iZ (((gz f ((a * 6) + 0)) - (gz f ((b * 6) + 0))) + (((g1 - h1) * (gz f ((b * 6) + 0))) / 6))) rfl rfl wn_1 ⟨by omega, by omega⟩).mp c_32
              refine lv_iload hx hb dX5_apart_129 (lv_at hl 0 rfl) ?_
              exact ERi hx hb hr hlocks (congrArg iZ (by simp only [ap, lg0, nr, fr, sp, tn, c_1, c_10, c_11, c_12, c_27, c_32, if_true, if_false])) dX5_apart_131
            ·
              have c_32 := mt (zle (x := iZ 1) (y := iZ (((gz f ((a * 6) + 0)) - (gz f ((b * 6) + 0))) + (((g1 - h1) * (gz f ((b * 6) + 0))) / 6))) rfl rfl wn_1 ⟨by omega, by omega⟩).mpr c_32
              refine lv_iconst (v := iZ 1) hx hb dX5_apart_125 rfl ?_
              refine lv_goto (tgt := 131) hx hb dX5_apart_126 rfl ?_
              exact ERi hx hb hr hlocks (congrArg iZ (by simp only [ap, lg0, nr, fr, sp, tn, c_1, c_10, c_11, c_12, c_27, c_32, if_true, if_false])) dX5_apart_131
          ·
            have c_27 := mt (zle (x := iZ (g1 - h1)) (y := iZ 6) rfl rfl ⟨by omega, by omega⟩ wn_6).mpr c_27
            refine lv_bipush (v := iZ 12) hx hb dX5_apart_91 bip_12 ?_
            refine lv_iload hx hb dX5_apart_93 (lv_at hl 0 rfl) ?_
            refine lv_isub hx hb dX5_apart_95 ?_
            refine lv_topi (fun x_33 ex_33 => ?_)
            obtain rfl : x_33 = iZ (12 - (g1 - h1)) := ex_33.trans (iZ_sub 12 (g1 - h1))
            refine lv_goto (tgt := 101) hx hb dX5_apart_96 rfl ?_
            refine lv_istore (lv' := [(10, .int (iZ (12 - (g1 - h1)))), (9, .int (iZ (g1 - h1))), (8, .int (iZ (gz f ((a * 6) + 0)))), (7, .int (iZ (gz f ((b * 6) + 0)))), (6, .int (iZ (gz f ((b * 6) + 0)))), (5, .int (iZ (gz f ((a * 6) + 0)))), (0, .ref h), (1, .int (iZ a)), (2, .int (iZ h1)), (3, .int (iZ b)), (4, .int (iZ g1))]) hx hb dX5_apart_101 hl (bl rfl) rfl (fun ls hl => ?_)
            refine lv_iload hx hb dX5_apart_103 (lv_at hl 2 rfl) ?_
            refine lv_iload hx hb dX5_apart_105 (lv_at hl 3 rfl) ?_
            refine lv_isub hx hb dX5_apart_107 ?_
            refine lv_topi (fun x_34 ex_34 => ?_)
            obtain rfl : x_34 = iZ ((gz f ((a * 6) + 0)) - (gz f ((b * 6) + 0))) := ex_34.trans (iZ_sub (gz f ((a * 6) + 0)) (gz f ((b * 6) + 0)))
            refine lv_iload hx hb dX5_apart_108 (lv_at hl 0 rfl) ?_
            refine lv_iload hx hb dX5_apart_110 (lv_at hl 3 rfl) ?_
            have hm_112 := mul_b (a := (12 - (g1 - h1))) (b := (gz f ((b * 6) + 0))) (A := 6) (B := 20) (by omega) (by omega) (by omega) (by omega)
            refine lv_imul hx hb dX5_apart_112 ?_
            refine lv_topi (fun x_35 ex_35 => ?_)
            obtain rfl : x_35 = iZ ((12 - (g1 - h1)) * (gz f ((b * 6) + 0))) := ex_35.trans (iZ_mul (12 - (g1 - h1)) (gz f ((b * 6) + 0)))
            refine lv_bipush (v := iZ 6) hx hb dX5_apart_113 bip_6 ?_
            refine lv_idiv hx hb dX5_apart_115 (by rw [zne rfl ⟨by omega, by omega⟩]; omega) ?_
            have hd_115 := zdiv_b (a := ((12 - (g1 - h1)) * (gz f ((b * 6) + 0)))) (b := 6) (by omega) (by omega)
            refine lv_topi (fun x_36 ex_36 => ?_)
            obtain rfl : x_36 = iZ (((12 - (g1 - h1)) * (gz f ((b * 6) + 0))) / 6) := ex_36.trans (iZ_div (a := ((12 - (g1 - h1)) * (gz f ((b * 6) + 0)))) (b := 6) (by omega) (by omega) (by omega) (by omega))
            refine lv_iadd hx hb dX5_apart_116 ?_
            refine lv_topi (fun x_37 ex_37 => ?_)
            obtain rfl : x_37 = iZ (((gz f ((a * 6) + 0)) - (gz f ((b * 6) + 0))) + (((12 - (g1 - h1)) * (gz f ((b * 6) + 0))) / 6)) := ex_37.trans (iZ_add ((gz f ((a * 6) + 0)) - (gz f ((b * 6) + 0))) (((12 - (g1 - h1)) * (gz f ((b * 6) + 0))) / 6))
            refine lv_istore (lv' := [(11, .int (iZ (((gz f ((a * 6) + 0)) - (gz f ((b * 6) + 0))) + (((12 - (g1 - h1)) * (gz f ((b * 6) + 0))) / 6)))), (10, .int (iZ (12 - (g1 - h1)))), (9, .int (iZ (g1 - h1))), (8, .int (iZ (gz f ((a * 6) + 0)))), (7, .int (iZ (gz f ((b * 6) + 0)))), (6, .int (iZ (gz f ((b * 6) + 0)))), (5, .int (iZ (gz f ((a * 6) + 0)))), (0, .ref h), (1, .int (iZ a)), (2, .int (iZ h1)), (3, .int (iZ b)), (4, .int (iZ g1))]) hx hb dX5_apart_117 hl (bl rfl) rfl (fun ls hl => ?_)
            refine lv_iload hx hb dX5_apart_119 (lv_at hl 0 rfl) ?_
            refine lv_iconst (v := iZ 1) hx hb dX5_apart_121 rfl ?_
            refine lv_icmp_ge (tgt := 129) hx hb dX5_apart_122 rfl (fun c_38 => ?_) (fun c_38 => ?_)
            ·
              have c_38 := (zle (x := iZ 1) (y := iZ (((gz f ((a * 6) + 0)) - (gz f ((b * 6) + 0))) + (((12 - (g1 - h1)) * (gz f ((b * 6) + 0))) / 6))) rfl rfl wn_1 ⟨by omega, by omega⟩).mp c_38
              refine lv_iload hx hb dX5_apart_129 (lv_at hl 0 rfl) ?_
              exact ERi hx hb hr hlocks (congrArg iZ (by simp only [ap, lg0, nr, fr, sp, tn, c_1, c_10, c_11, c_12, c_27, c_38, if_true, if_false])) dX5_apart_131
            ·
              have c_38 := mt (zle (x := iZ 1) (y := iZ (((gz f ((a * 6) + 0)) - (gz f ((b * 6) + 0))) + (((12 - (g1 - h1)) * (gz f ((b * 6) + 0))) / 6))) rfl rfl wn_1 ⟨by omega, by omega⟩).mpr c_38
              refine lv_iconst (v := iZ 1) hx hb dX5_apart_125 rfl ?_
              refine lv_goto (tgt := 131) hx hb dX5_apart_126 rfl ?_
              exact ERi hx hb hr hlocks (congrArg iZ (by simp only [ap, lg0, nr, fr, sp, tn, c_1, c_10, c_11, c_12, c_27, c_38, if_true, if_false])) dX5_apart_131
      ·
        have c_11 := mt (zle (x := iZ (gz f ((b * 6) + 0))) (y := iZ (gz f ((a * 6) + 0))) rfl rfl (gz_rg f ((b * 6) + 0)) (gz_rg f ((a * 6) + 0))).mpr c_11
        exact absurd c_11 (by omega)
    ·
      have c_10 := mt (zle (x := iZ (gz f ((b * 6) + 0))) (y := iZ (gz f ((a * 6) + 0))) rfl rfl (gz_rg f ((b * 6) + 0)) (gz_rg f ((a * 6) + 0))).mpr c_10
      refine lv_iload hx hb dX5_apart_40 (lv_at hl 1 rfl) ?_
      refine lv_goto (tgt := 47) hx hb dX5_apart_42 rfl ?_
      refine lv_istore (lv' := [(7, .int (iZ (gz f ((a * 6) + 0)))), (6, .int (iZ (gz f ((b * 6) + 0)))), (5, .int (iZ (gz f ((a * 6) + 0)))), (0, .ref h), (1, .int (iZ a)), (2, .int (iZ h1)), (3, .int (iZ b)), (4, .int (iZ g1))]) hx hb dX5_apart_47 hl (bl rfl) rfl (fun ls hl => ?_)
      refine lv_iload hx hb dX5_apart_49 (lv_at hl 2 rfl) ?_
      refine lv_iload hx hb dX5_apart_51 (lv_at hl 1 rfl) ?_
      refine lv_icmp_ge (tgt := 61) hx hb dX5_apart_53 rfl (fun c_39 => ?_) (fun c_39 => ?_)
      ·
        have c_39 := (zle (x := iZ (gz f ((b * 6) + 0))) (y := iZ (gz f ((a * 6) + 0))) rfl rfl (gz_rg f ((b * 6) + 0)) (gz_rg f ((a * 6) + 0))).mp c_39
        exact absurd c_39 (by omega)
      ·
        have c_39 := mt (zle (x := iZ (gz f ((b * 6) + 0))) (y := iZ (gz f ((a * 6) + 0))) rfl rfl (gz_rg f ((b * 6) + 0)) (gz_rg f ((a * 6) + 0))).mpr c_39
        refine lv_iload hx hb dX5_apart_56 (lv_at hl 1 rfl) ?_
        refine lv_goto (tgt := 63) hx hb dX5_apart_58 rfl ?_
        refine lv_istore (lv' := [(8, .int (iZ (gz f ((b * 6) + 0)))), (7, .int (iZ (gz f ((a * 6) + 0)))), (6, .int (iZ (gz f ((b * 6) + 0)))), (5, .int (iZ (gz f ((a * 6) + 0)))), (0, .ref h), (1, .int (iZ a)), (2, .int (iZ h1)), (3, .int (iZ b)), (4, .int (iZ g1))]) hx hb dX5_apart_63 hl (bl rfl) rfl (fun ls hl => ?_)
        refine lv_iload_n hx hb dX5_apart_65 rfl (lv_at hl 6 rfl) ?_
        refine lv_iload hx hb dX5_apart_66 (lv_at hl 8 rfl) ?_
        refine lv_icmp_ge (tgt := 78) hx hb dX5_apart_68 rfl (fun c_40 => ?_) (fun c_40 => ?_)
        ·
          have c_40 := (zle (x := iZ g1) (y := iZ h1) rfl rfl ⟨by omega, by omega⟩ ⟨by omega, by omega⟩).mp c_40
          refine lv_iload_n hx hb dX5_apart_78 rfl (lv_at hl 6 rfl) ?_
          refine lv_iload hx hb dX5_apart_79 (lv_at hl 8 rfl) ?_
          refine lv_isub hx hb dX5_apart_81 ?_
          refine lv_topi (fun x_41 ex_41 => ?_)
          obtain rfl : x_41 = iZ (h1 - g1) := ex_41.trans (iZ_sub h1 g1)
          refine lv_istore (lv' := [(9, .int (iZ (h1 - g1))), (8, .int (iZ (gz f ((b * 6) + 0)))), (7, .int (iZ (gz f ((a * 6) + 0)))), (6, .int (iZ (gz f ((b * 6) + 0)))), (5, .int (iZ (gz f ((a * 6) + 0)))), (0, .ref h), (1, .int (iZ a)), (2, .int (iZ h1)), (3, .int (iZ b)), (4, .int (iZ g1))]) hx hb dX5_apart_82 hl (bl rfl) rfl (fun ls hl => ?_)
          refine lv_iload hx hb dX5_apart_84 (lv_at hl 0 rfl) ?_
          refine lv_bipush (v := iZ 6) hx hb dX5_apart_86 bip_6 ?_
          refine lv_icmp_le (tgt := 99) hx hb dX5_apart_88 rfl (fun c_42 => ?_) (fun c_42 => ?_)
          ·
            have c_42 := (zle (x := iZ (h1 - g1)) (y := iZ 6) rfl rfl ⟨by omega, by omega⟩ wn_6).mp c_42
            refine lv_iload hx hb dX5_apart_99 (lv_at hl 0 rfl) ?_
            refine lv_istore (lv' := [(10, .int (iZ (h1 - g1))), (9, .int (iZ (h1 - g1))), (8, .int (iZ (gz f ((b * 6) + 0)))), (7, .int (iZ (gz f ((a * 6) + 0)))), (6, .int (iZ (gz f ((b * 6) + 0)))), (5, .int (iZ (gz f ((a * 6) + 0)))), (0, .ref h), (1, .int (iZ a)), (2, .int (iZ h1)), (3, .int (iZ b)), (4, .int (iZ g1))]) hx hb dX5_apart_101 hl (bl rfl) rfl (fun ls hl => ?_)
            refine lv_iload hx hb dX5_apart_103 (lv_at hl 2 rfl) ?_
            refine lv_iload hx hb dX5_apart_105 (lv_at hl 3 rfl) ?_
            refine lv_isub hx hb dX5_apart_107 ?_
            refine lv_topi (fun x_43 ex_43 => ?_)
            obtain rfl : x_43 = iZ ((gz f ((b * 6) + 0)) - (gz f ((a * 6) + 0))) := ex_43.trans (iZ_sub (gz f ((b * 6) + 0)) (gz f ((a * 6) + 0)))
            refine lv_iload hx hb dX5_apart_108 (lv_at hl 0 rfl) ?_
            refine lv_iload hx hb dX5_apart_110 (lv_at hl 3 rfl) ?_
            have hm_112 := mul_b (a := (h1 - g1)) (b := (gz f ((a * 6) + 0))) (A := 6) (B := 20) (by omega) (by omega) (by omega) (by omega)
            refine lv_imul hx hb dX5_apart_112 ?_
            refine lv_topi (fun x_44 ex_44 => ?_)
            obtain rfl : x_44 = iZ ((h1 - g1) * (gz f ((a * 6) + 0))) := ex_44.trans (iZ_mul (h1 - g1) (gz f ((a * 6) + 0)))
            refine lv_bipush (v := iZ 6) hx hb dX5_apart_113 bip_6 ?_
            refine lv_idiv hx hb dX5_apart_115 (by rw [zne rfl ⟨by omega, by omega⟩]; omega) ?_
            have hd_115 := zdiv_b (a := ((h1 - g1) * (gz f ((a * 6) + 0)))) (b := 6) (by omega) (by omega)
            refine lv_topi (fun x_45 ex_45 => ?_)
            obtain rfl : x_45 = iZ (((h1 - g1) * (gz f ((a * 6) + 0))) / 6) := ex_45.trans (iZ_div (a := ((h1 - g1) * (gz f ((a * 6) + 0)))) (b := 6) (by omega) (by omega) (by omega) (by omega))
            refine lv_iadd hx hb dX5_apart_116 ?_
            refine lv_topi (fun x_46 ex_46 => ?_)
            obtain rfl : x_46 = iZ (((gz f ((b * 6) + 0)) - (gz f ((a * 6) + 0))) + (((h1 - g1) * (gz f ((a * 6) + 0))) / 6)) := ex_46.trans (iZ_add ((gz f ((b * 6) + 0)) - (gz f ((a * 6) + 0))) (((h1 - g1) * (gz f ((a * 6) + 0))) / 6))
            refine lv_istore (lv' := [(11, .int (iZ (((gz f ((b * 6) + 0)) - (gz f ((a * 6) + 0))) + (((h1 - g1) * (gz f ((a * 6) + 0))) / 6)))), (10, .int (iZ (h1 - g1))), (9, .int (iZ (h1 - g1))), (8, .int (iZ (gz f ((b * 6) + 0)))), (7, .int (iZ (gz f ((a * 6) + 0)))), (6, .int (iZ (gz f ((b * 6) + 0)))), (5, .int (iZ (gz f ((a * 6) + 0)))), (0, .ref h), (1, .int (iZ a)), (2, .int (iZ h1)), (3, .int (iZ b)), (4, .int (iZ g1))]) hx hb dX5_apart_117 hl (bl rfl) rfl (fun ls hl => ?_)
            refine lv_iload hx hb dX5_apart_119 (lv_at hl 0 rfl) ?_
            refine lv_iconst (v := iZ 1) hx hb dX5_apart_121 rfl ?_
            refine lv_icmp_ge (tgt := 129) hx hb dX5_apart_122 rfl (fun c_47 => ?_) (fun c_47 => ?_)
            ·
              have c_47 := (zle (x := iZ 1) (y := iZ (((gz f ((b * 6) + 0)) - (gz f ((a * 6) + 0))) + (((h1 - g1) * (gz f ((a * 6) + 0))) / 6))) rfl rfl wn_1 ⟨by omega, by omega⟩).mp c_47
              refine lv_iload hx hb dX5_apart_129 (lv_at hl 0 rfl) ?_
              exact ERi hx hb hr hlocks (congrArg iZ (by simp only [ap, lg0, nr, fr, sp, tn, c_1, c_10, c_39, c_40, c_42, c_47, if_true, if_false])) dX5_apart_131
            ·
              have c_47 := mt (zle (x := iZ 1) (y := iZ (((gz f ((b * 6) + 0)) - (gz f ((a * 6) + 0))) + (((h1 - g1) * (gz f ((a * 6) + 0))) / 6))) rfl rfl wn_1 ⟨by omega, by omega⟩).mpr c_47
              refine lv_iconst (v := iZ 1) hx hb dX5_apart_125 rfl ?_
              refine lv_goto (tgt := 131) hx hb dX5_apart_126 rfl ?_
              exact ERi hx hb hr hlocks (congrArg iZ (by simp only [ap, lg0, nr, fr, sp, tn, c_1, c_10, c_39, c_40, c_42, c_47, if_true, if_false])) dX5_apart_131
          ·
            have c_42 := mt (zle (x := iZ (h1 - g1)) (y := iZ 6) rfl rfl ⟨by omega, by omega⟩ wn_6).mpr c_42
            refine lv_bipush (v := iZ 12) hx hb dX5_apart_91 bip_12 ?_
            refine lv_iload hx hb dX5_apart_93 (lv_at hl 0 rfl) ?_
            refine lv_isub hx hb dX5_apart_95 ?_
            refine lv_topi (fun x_48 ex_48 => ?_)
            obtain rfl : x_48 = iZ (12 - (h1 - g1)) := ex_48.trans (iZ_sub 12 (h1 - g1))
            refine lv_goto (tgt := 101) hx hb dX5_apart_96 rfl ?_
            refine lv_istore (lv' := [(10, .int (iZ (12 - (h1 - g1)))), (9, .int (iZ (h1 - g1))), (8, .int (iZ (gz f ((b * 6) + 0)))), (7, .int (iZ (gz f ((a * 6) + 0)))), (6, .int (iZ (gz f ((b * 6) + 0)))), (5, .int (iZ (gz f ((a * 6) + 0)))), (0, .ref h), (1, .int (iZ a)), (2, .int (iZ h1)), (3, .int (iZ b)), (4, .int (iZ g1))]) hx hb dX5_apart_101 hl (bl rfl) rfl (fun ls hl => ?_)
            refine lv_iload hx hb dX5_apart_103 (lv_at hl 2 rfl) ?_
            refine lv_iload hx hb dX5_apart_105 (lv_at hl 3 rfl) ?_
            refine lv_isub hx hb dX5_apart_107 ?_
            refine lv_topi (fun x_49 ex_49 => ?_)
            obtain rfl : x_49 = iZ ((gz f ((b * 6) + 0)) - (gz f ((a * 6) + 0))) := ex_49.trans (iZ_sub (gz f ((b * 6) + 0)) (gz f ((a * 6) + 0)))
            refine lv_iload hx hb dX5_apart_108 (lv_at hl 0 rfl) ?_
            refine lv_iload hx hb dX5_apart_110 (lv_at hl 3 rfl) ?_
            have hm_112 := mul_b (a := (12 - (h1 - g1))) (b := (gz f ((a * 6) + 0))) (A := 6) (B := 20) (by omega) (by omega) (by omega) (by omega)
            refine lv_imul hx hb dX5_apart_112 ?_
            refine lv_topi (fun x_50 ex_50 => ?_)
            obtain rfl : x_50 = iZ ((12 - (h1 - g1)) * (gz f ((a * 6) + 0))) := ex_50.trans (iZ_mul (12 - (h1 - g1)) (gz f ((a * 6) + 0)))
            refine lv_bipush (v := iZ 6) hx hb dX5_apart_113 bip_6 ?_
            refine lv_idiv hx hb dX5_apart_115 (by rw [zne rfl ⟨by omega, by omega⟩]; omega) ?_
            have hd_115 := zdiv_b (a := ((12 - (h1 - g1)) * (gz f ((a * 6) + 0)))) (b := 6) (by omega) (by omega)
            refine lv_topi (fun x_51 ex_51 => ?_)
            obtain rfl : x_51 = iZ (((12 - (h1 - g1)) * (gz f ((a * 6) + 0))) / 6) := ex_51.trans (iZ_div (a := ((12 - (h1 - g1)) * (gz f ((a * 6) + 0)))) (b := 6) (by omega) (by omega) (by omega) (by omega))
            refine lv_iadd hx hb dX5_apart_116 ?_
            refine lv_topi (fun x_52 ex_52 => ?_)
            obtain rfl : x_52 = iZ (((gz f ((b * 6) + 0)) - (gz f ((a * 6) + 0))) + (((12 - (h1 - g1)) * (gz f ((a * 6) + 0))) / 6)) := ex_52.trans (iZ_add ((gz f ((b * 6) + 0)) - (gz f ((a * 6) + 0))) (((12 - (h1 - g1)) * (gz f ((a * 6) + 0))) / 6))
            refine lv_istore (lv' := [(11, .int (iZ (((gz f ((b * 6) + 0)) - (gz f ((a * 6) + 0))) + (((12 - (h1 - g1)) * (gz f ((a * 6) + 0))) / 6)))), (10, .int (iZ (12 - (h1 - g1)))), (9, .int (iZ (h1 - g1))), (8, .int (iZ (gz f ((b * 6) + 0)))), (7, .int (iZ (gz f ((a * 6) + 0)))), (6, .int (iZ (gz f ((b * 6) + 0)))), (5, .int (iZ (gz f ((a * 6) + 0)))), (0, .ref h), (1, .int (iZ a)), (2, .int (iZ h1)), (3, .int (iZ b)), (4, .int (iZ g1))]) hx hb dX5_apart_117 hl (bl rfl) rfl (fun ls hl => ?_)
            refine lv_iload hx hb dX5_apart_119 (lv_at hl 0 rfl) ?_
            refine lv_iconst (v := iZ 1) hx hb dX5_apart_121 rfl ?_
            refine lv_icmp_ge (tgt := 129) hx hb dX5_apart_122 rfl (fun c_53 => ?_) (fun c_53 => ?_)
            ·
              have c_53 := (zle (x := iZ 1) (y := iZ (((gz f ((b * 6) + 0)) - (gz f ((a * 6) + 0))) + (((12 - (h1 - g1)) * (gz f ((a * 6) + 0))) / 6))) rfl rfl wn_1 ⟨by omega, by omega⟩).mp c_53
              refine lv_iload hx hb dX5_apart_129 (lv_at hl 0 rfl) ?_
              exact ERi hx hb hr hlocks (congrArg iZ (by simp only [ap, lg0, nr, fr, sp, tn, c_1, c_10, c_39, c_40, c_42, c_53, if_true, if_false])) dX5_apart_131
            ·
              have c_53 := mt (zle (x := iZ 1) (y := iZ (((gz f ((b * 6) + 0)) - (gz f ((a * 6) + 0))) + (((12 - (h1 - g1)) * (gz f ((a * 6) + 0))) / 6))) rfl rfl wn_1 ⟨by omega, by omega⟩).mpr c_53
              refine lv_iconst (v := iZ 1) hx hb dX5_apart_125 rfl ?_
              refine lv_goto (tgt := 131) hx hb dX5_apart_126 rfl ?_
              exact ERi hx hb hr hlocks (congrArg iZ (by simp only [ap, lg0, nr, fr, sp, tn, c_1, c_10, c_39, c_40, c_42, c_53, if_true, if_false])) dX5_apart_131
        ·
          have c_40 := mt (zle (x := iZ g1) (y := iZ h1) rfl rfl ⟨by omega, by omega⟩ ⟨by omega, by omega⟩).mpr c_40
          refine lv_iload hx hb dX5_apart_71 (lv_at hl 8 rfl) ?_
          refine lv_iload_n hx hb dX5_apart_73 rfl (lv_at hl 6 rfl) ?_
          refine lv_isub hx hb dX5_apart_74 ?_
          refine lv_topi (fun x_54 ex_54 => ?_)
          obtain rfl : x_54 = iZ (g1 - h1) := ex_54.trans (iZ_sub g1 h1)
          refine lv_goto (tgt := 82) hx hb dX5_apart_75 rfl ?_
          refine lv_istore (lv' := [(9, .int (iZ (g1 - h1))), (8, .int (iZ (gz f ((b * 6) + 0)))), (7, .int (iZ (gz f ((a * 6) + 0)))), (6, .int (iZ (gz f ((b * 6) + 0)))), (5, .int (iZ (gz f ((a * 6) + 0)))), (0, .ref h), (1, .int (iZ a)), (2, .int (iZ h1)), (3, .int (iZ b)), (4, .int (iZ g1))]) hx hb dX5_apart_82 hl (bl rfl) rfl (fun ls hl => ?_)
          refine lv_iload hx hb dX5_apart_84 (lv_at hl 0 rfl) ?_
          refine lv_bipush (v := iZ 6) hx hb dX5_apart_86 bip_6 ?_
          refine lv_icmp_le (tgt := 99) hx hb dX5_apart_88 rfl (fun c_55 => ?_) (fun c_55 => ?_)
          ·
            have c_55 := (zle (x := iZ (g1 - h1)) (y := iZ 6) rfl rfl ⟨by omega, by omega⟩ wn_6).mp c_55
            refine lv_iload hx hb dX5_apart_99 (lv_at hl 0 rfl) ?_
            refine lv_istore (lv' := [(10, .int (iZ (g1 - h1))), (9, .int (iZ (g1 - h1))), (8, .int (iZ (gz f ((b * 6) + 0)))), (7, .int (iZ (gz f ((a * 6) + 0)))), (6, .int (iZ (gz f ((b * 6) + 0)))), (5, .int (iZ (gz f ((a * 6) + 0)))), (0, .ref h), (1, .int (iZ a)), (2, .int (iZ h1)), (3, .int (iZ b)), (4, .int (iZ g1))]) hx hb dX5_apart_101 hl (bl rfl) rfl (fun ls hl => ?_)
            refine lv_iload hx hb dX5_apart_103 (lv_at hl 2 rfl) ?_
            refine lv_iload hx hb dX5_apart_105 (lv_at hl 3 rfl) ?_
            refine lv_isub hx hb dX5_apart_107 ?_
            refine lv_topi (fun x_56 ex_56 => ?_)
            obtain rfl : x_56 = iZ ((gz f ((b * 6) + 0)) - (gz f ((a * 6) + 0))) := ex_56.trans (iZ_sub (gz f ((b * 6) + 0)) (gz f ((a * 6) + 0)))
            refine lv_iload hx hb dX5_apart_108 (lv_at hl 0 rfl) ?_
            refine lv_iload hx hb dX5_apart_110 (lv_at hl 3 rfl) ?_
            have hm_112 := mul_b (a := (g1 - h1)) (b := (gz f ((a * 6) + 0))) (A := 6) (B := 20) (by omega) (by omega) (by omega) (by omega)
            refine lv_imul hx hb dX5_apart_112 ?_
            refine lv_topi (fun x_57 ex_57 => ?_)
            obtain rfl : x_57 = iZ ((g1 - h1) * (gz f ((a * 6) + 0))) := ex_57.trans (iZ_mul (g1 - h1) (gz f ((a * 6) + 0)))
            refine lv_bipush (v := iZ 6) hx hb dX5_apart_113 bip_6 ?_
            refine lv_idiv hx hb dX5_apart_115 (by rw [zne rfl ⟨by omega, by omega⟩]; omega) ?_
            have hd_115 := zdiv_b (a := ((g1 - h1) * (gz f ((a * 6) + 0)))) (b := 6) (by omega) (by omega)
            refine lv_topi (fun x_58 ex_58 => ?_)
            obtain rfl : x_58 = iZ (((g1 - h1) * (gz f ((a * 6) + 0))) / 6) := ex_58.trans (iZ_div (a := ((g1 - h1) * (gz f ((a * 6) + 0)))) (b := 6) (by omega) (by omega) (by omega) (by omega))
            refine lv_iadd hx hb dX5_apart_116 ?_
            refine lv_topi (fun x_59 ex_59 => ?_)
            obtain rfl : x_59 = iZ (((gz f ((b * 6) + 0)) - (gz f ((a * 6) + 0))) + (((g1 - h1) * (gz f ((a * 6) + 0))) / 6)) := ex_59.trans (iZ_add ((gz f ((b * 6) + 0)) - (gz f ((a * 6) + 0))) (((g1 - h1) * (gz f ((a * 6) + 0))) / 6))
            refine lv_istore (lv' := [(11, .int (iZ (((gz f ((b * 6) + 0)) - (gz f ((a * 6) + 0))) + (((g1 - h1) * (gz f ((a * 6) + 0))) / 6)))), (10, .int (iZ (g1 - h1))), (9, .int (iZ (g1 - h1))), (8, .int (iZ (gz f ((b * 6) + 0)))), (7, .int (iZ (gz f ((a * 6) + 0)))), (6, .int (iZ (gz f ((b * 6) + 0)))), (5, .int (iZ (gz f ((a * 6) + 0)))), (0, .ref h), (1, .int (iZ a)), (2, .int (iZ h1)), (3, .int (iZ b)), (4, .int (iZ g1))]) hx hb dX5_apart_117 hl (bl rfl) rfl (fun ls hl => ?_)
            refine lv_iload hx hb dX5_apart_119 (lv_at hl 0 rfl) ?_
            refine lv_iconst (v := iZ 1) hx hb dX5_apart_121 rfl ?_
            refine lv_icmp_ge (tgt := 129) hx hb dX5_apart_122 rfl (fun c_60 => ?_) (fun c_60 => ?_)
            ·
              have c_60 := (zle (x := iZ 1) (y := iZ (((gz f ((b * 6) + 0)) - (gz f ((a * 6) + 0))) + (((g1 - h1) * (gz f ((a * 6) + 0))) / 6))) rfl rfl wn_1 ⟨by omega, by omega⟩).mp c_60
              refine lv_iload hx hb dX5_apart_129 (lv_at hl 0 rfl) ?_
              exact ERi hx hb hr hlocks (congrArg iZ (by simp only [ap, lg0, nr, fr, sp, tn, c_1, c_10, c_39, c_40, c_55, c_60, if_true, if_false])) dX5_apart_131
            ·
              have c_60 := mt (zle (x := iZ 1) (y := iZ (((gz f ((b * 6) + 0)) - (gz f ((a * 6) + 0))) + (((g1 - h1) * (gz f ((a * 6) + 0))) / 6))) rfl rfl wn_1 ⟨by omega, by omega⟩).mpr c_60
              refine lv_iconst (v := iZ 1) hx hb dX5_apart_125 rfl ?_
              refine lv_goto (tgt := 131) hx hb dX5_apart_126 rfl ?_
              exact ERi hx hb hr hlocks (congrArg iZ (by simp only [ap, lg0, nr, fr, sp, tn, c_1, c_10, c_39, c_40, c_55, c_60, if_true, if_false])) dX5_apart_131
          ·
            have c_55 := mt (zle (x := iZ (g1 - h1)) (y := iZ 6) rfl rfl ⟨by omega, by omega⟩ wn_6).mpr c_55
            refine lv_bipush (v := iZ 12) hx hb dX5_apart_91 bip_12 ?_
            refine lv_iload hx hb dX5_apart_93 (lv_at hl 0 rfl) ?_
            refine lv_isub hx hb dX5_apart_95 ?_
            refine lv_topi (fun x_61 ex_61 => ?_)
            obtain rfl : x_61 = iZ (12 - (g1 - h1)) := ex_61.trans (iZ_sub 12 (g1 - h1))
            refine lv_goto (tgt := 101) hx hb dX5_apart_96 rfl ?_
            refine lv_istore (lv' := [(10, .int (iZ (12 - (g1 - h1)))), (9, .int (iZ (g1 - h1))), (8, .int (iZ (gz f ((b * 6) + 0)))), (7, .int (iZ (gz f ((a * 6) + 0)))), (6, .int (iZ (gz f ((b * 6) + 0)))), (5, .int (iZ (gz f ((a * 6) + 0)))), (0, .ref h), (1, .int (iZ a)), (2, .int (iZ h1)), (3, .int (iZ b)), (4, .int (iZ g1))]) hx hb dX5_apart_101 hl (bl rfl) rfl (fun ls hl => ?_)
            refine lv_iload hx hb dX5_apart_103 (lv_at hl 2 rfl) ?_
            refine lv_iload hx hb dX5_apart_105 (lv_at hl 3 rfl) ?_
            refine lv_isub hx hb dX5_apart_107 ?_
            refine lv_topi (fun x_62 ex_62 => ?_)
            obtain rfl : x_62 = iZ ((gz f ((b * 6) + 0)) - (gz f ((a * 6) + 0))) := ex_62.trans (iZ_sub (gz f ((b * 6) + 0)) (gz f ((a * 6) + 0)))
            refine lv_iload hx hb dX5_apart_108 (lv_at hl 0 rfl) ?_
            refine lv_iload hx hb dX5_apart_110 (lv_at hl 3 rfl) ?_
            have hm_112 := mul_b (a := (12 - (g1 - h1))) (b := (gz f ((a * 6) + 0))) (A := 6) (B := 20) (by omega) (by omega) (by omega) (by omega)
            refine lv_imul hx hb dX5_apart_112 ?_
            refine lv_topi (fun x_63 ex_63 => ?_)
            obtain rfl : x_63 = iZ ((12 - (g1 - h1)) * (gz f ((a * 6) + 0))) := ex_63.trans (iZ_mul (12 - (g1 - h1)) (gz f ((a * 6) + 0)))
            refine lv_bipush (v := iZ 6) hx hb dX5_apart_113 bip_6 ?_
            refine lv_idiv hx hb dX5_apart_115 (by rw [zne rfl ⟨by omega, by omega⟩]; omega) ?_
            have hd_115 := zdiv_b (a := ((12 - (g1 - h1)) * (gz f ((a * 6) + 0)))) (b := 6) (by omega) (by omega)
            refine lv_topi (fun x_64 ex_64 => ?_)
            obtain rfl : x_64 = iZ (((12 - (g1 - h1)) * (gz f ((a * 6) + 0))) / 6) := ex_64.trans (iZ_div (a := ((12 - (g1 - h1)) * (gz f ((a * 6) + 0)))) (b := 6) (by omega) (by omega) (by omega) (by omega))
            refine lv_iadd hx hb dX5_apart_116 ?_
            refine lv_topi (fun x_65 ex_65 => ?_)
            obtain rfl : x_65 = iZ (((gz f ((b * 6) + 0)) - (gz f ((a * 6) + 0))) + (((12 - (g1 - h1)) * (gz f ((a * 6) + 0))) / 6)) := ex_65.trans (iZ_add ((gz f ((b * 6) + 0)) - (gz f ((a * 6) + 0))) (((12 - (g1 - h1)) * (gz f ((a * 6) + 0))) / 6))
            refine lv_istore (lv' := [(11, .int (iZ (((gz f ((b * 6) + 0)) - (gz f ((a * 6) + 0))) + (((12 - (g1 - h1)) * (gz f ((a * 6) + 0))) / 6)))), (10, .int (iZ (12 - (g1 - h1)))), (9, .int (iZ (g1 - h1))), (8, .int (iZ (gz f ((b * 6) + 0)))), (7, .int (iZ (gz f ((a * 6) + 0)))), (6, .int (iZ (gz f ((b * 6) + 0)))), (5, .int (iZ (gz f ((a * 6) + 0)))), (0, .ref h), (1, .int (iZ a)), (2, .int (iZ h1)), (3, .int (iZ b)), (4, .int (iZ g1))]) hx hb dX5_apart_117 hl (bl rfl) rfl (fun ls hl => ?_)
            refine lv_iload hx hb dX5_apart_119 (lv_at hl 0 rfl) ?_
            refine lv_iconst (v := iZ 1) hx hb dX5_apart_121 rfl ?_
            refine lv_icmp_ge (tgt := 129) hx hb dX5_apart_122 rfl (fun c_66 => ?_) (fun c_66 => ?_)
            ·
              have c_66 := (zle (x := iZ 1) (y := iZ (((gz f ((b * 6) + 0)) - (gz f ((a * 6) + 0))) + (((12 - (g1 - h1)) * (gz f ((a * 6) + 0))) / 6))) rfl rfl wn_1 ⟨by omega, by omega⟩).mp c_66
              refine lv_iload hx hb dX5_apart_129 (lv_at hl 0 rfl) ?_
              exact ERi hx hb hr hlocks (congrArg iZ (by simp only [ap, lg0, nr, fr, sp, tn, c_1, c_10, c_39, c_40, c_55, c_66, if_true, if_false])) dX5_apart_131
            ·
              have c_66 := mt (zle (x := iZ 1) (y := iZ (((gz f ((b * 6) + 0)) - (gz f ((a * 6) + 0))) + (((12 - (g1 - h1)) * (gz f ((a * 6) + 0))) / 6))) rfl rfl wn_1 ⟨by omega, by omega⟩).mpr c_66
              refine lv_iconst (v := iZ 1) hx hb dX5_apart_125 rfl ?_
              refine lv_goto (tgt := 131) hx hb dX5_apart_126 rfl ?_
              exact ERi hx hb hr hlocks (congrArg iZ (by simp only [ap, lg0, nr, fr, sp, tn, c_1, c_10, c_39, c_40, c_55, c_66, if_true, if_false])) dX5_apart_131
  ·
    have c_1 := (zeq (x := iZ a) (y := iZ b) rfl rfl ⟨by omega, by omega⟩ ⟨by omega, by omega⟩).mp c_1
    refine lv_iconst (v := iZ 0) hx hb dX5_apart_5 rfl ?_
    exact ERi hx hb hr hlocks (congrArg iZ (by simp only [ap, lg0, nr, fr, sp, tn, c_1, if_true, if_false])) dX5_apart_6
end
