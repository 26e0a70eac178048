theorem qf_X5_15 : Cond.fieldLink RX5 15 "SlowWorlds$Sky" "facts" "[I" ∈ gw := tbt (tb1 (List.mem_of_getElem? (i := 46) rfl)) rfl
theorem iX5 : ∀ w ∈ u_ws RX5 TX5 7, w ∈ gw := by
  intro w hw
  obtain ⟨k, hk, rfl⟩ := List.mem_map.mp hw
  have hk := List.mem_range.mp hk
  match k, hk with
  | 0, _ => exact tbt (tb1 (List.mem_of_getElem? (i := 67) rfl)) rfl
  | 1, _ => exact tbt (tb1 (List.mem_of_getElem? (i := 69) rfl)) rfl
  | 2, _ => exact tbt (tb1 (List.mem_of_getElem? (i := 71) rfl)) rfl
  | 3, _ => exact tbt (tb1 (List.mem_of_getElem? (i := 73) rfl)) rfl
  | 4, _ => exact tbt (tb1 (List.mem_of_getElem? (i := 75) rfl)) rfl
  | 5, _ => exact tbt (tb1 (List.mem_of_getElem? (i := 77) rfl)) rfl
  | 6, _ => exact tbt (tb1 (List.mem_of_getElem? (i := 79) rfl)) rfl
  | (k + 7), hk => exact absurd hk (by omega)
def fb_X5_apart_0 : List UInt8 := [0x1b, 0x1d, 0xa0, 0x00, 0x05, 0x03, 0xac, 0x2a, 0xb4, 0x00, 0x0f, 0x1b, 0x10, 0x06, 0x68, 0x03, 0x60, 0x2e, 0x36, 0x05, 0x2a, 0xb4, 0x00, 0x0f, 0x1d, 0x10, 0x06, 0x68, 0x03, 0x60, 0x2e, 0x36, 0x06, 0x15, 0x05, 0x15, 0x06, 0xa2, 0x00, 0x08, 0x15, 0x05, 0xa7, 0x00, 0x05, 0x15, 0x06, 0x36, 0x07, 0x15, 0x05, 0x15, 0x06, 0xa2, 0x00, 0x08, 0x15, 0x06, 0xa7, 0x00, 0x05, 0x15, 0x05, 0x36]
theorem fl_X5_apart_0 {p j : Nat} {b : UInt8} (e : p = 0 + j) (h : fb_X5_apart_0[j]? = some b) : cX5_apart.data.toList[p]? = some b := fq_l (n := 64) (show (cX5_apart.data.toList.drop 0).take 64 = fb_X5_apart_0 by decide +kernel) e h
theorem dX5_apart_0 : decode cX5_apart 0 = .ok (.iload_n 1, 1) := fq1_27 (fl_X5_apart_0 (j := 0) rfl rfl)
theorem dX5_apart_1 : decode cX5_apart 1 = .ok (.iload_n 3, 1) := fq1_29 (fl_X5_apart_0 (j := 1) rfl rfl)
theorem dX5_apart_2 : decode cX5_apart 2 = .ok (.if_icmp .ne 5, 3) := fq3_160 (fl_X5_apart_0 (j := 2) rfl rfl) (fl_X5_apart_0 (j := 3) rfl rfl) (fl_X5_apart_0 (j := 4) rfl rfl) (s2p rfl (bl rfl))
theorem dX5_apart_5 : decode cX5_apart 5 = .ok (.iconst 0, 1) := fq1_3 (fl_X5_apart_0 (j := 5) rfl rfl)
theorem dX5_apart_6 : decode cX5_apart 6 = .ok (.ireturn, 1) := fq1_172 (fl_X5_apart_0 (j := 6) rfl rfl)
theorem dX5_apart_7 : decode cX5_apart 7 = .ok (.aload_n 0, 1) := fq1_42 (fl_X5_apart_0 (j := 7) rfl rfl)
theorem dX5_apart_8 : decode cX5_apart 8 = .ok (.getfield 15, 3) := fq3_180 (fl_X5_apart_0 (j := 8) rfl rfl) (fl_X5_apart_0 (j := 9) rfl rfl) (fl_X5_apart_0 (j := 10) rfl rfl) rfl
theorem dX5_apart_11 : decode cX5_apart 11 = .ok (.iload_n 1, 1) := fq1_27 (fl_X5_apart_0 (j := 11) rfl rfl)
theorem dX5_apart_12 : decode cX5_apart 12 = .ok (.bipush 6, 2) := fq2_16 (fl_X5_apart_0 (j := 12) rfl rfl) (fl_X5_apart_0 (j := 13) rfl rfl) (s1p rfl (bl rfl))
theorem dX5_apart_14 : decode cX5_apart 14 = .ok (.imul, 1) := fq1_104 (fl_X5_apart_0 (j := 14) rfl rfl)
theorem dX5_apart_15 : decode cX5_apart 15 = .ok (.iconst 0, 1) := fq1_3 (fl_X5_apart_0 (j := 15) rfl rfl)
theorem dX5_apart_16 : decode cX5_apart 16 = .ok (.iadd, 1) := fq1_96 (fl_X5_apart_0 (j := 16) rfl rfl)
theorem dX5_apart_17 : decode cX5_apart 17 = .ok (.iaload, 1) := fq1_46 (fl_X5_apart_0 (j := 17) rfl rfl)
theorem dX5_apart_18 : decode cX5_apart 18 = .ok (.istore 5, 2) := fq2_54 (fl_X5_apart_0 (j := 18) rfl rfl) (fl_X5_apart_0 (j := 19) rfl rfl) rfl
theorem dX5_apart_20 : decode cX5_apart 20 = .ok (.aload_n 0, 1) := fq1_42 (fl_X5_apart_0 (j := 20) rfl rfl)
theorem dX5_apart_21 : decode cX5_apart 21 = .ok (.getfield 15, 3) := fq3_180 (fl_X5_apart_0 (j := 21) rfl rfl) (fl_X5_apart_0 (j := 22) rfl rfl) (fl_X5_apart_0 (j := 23) rfl rfl) rfl
theorem dX5_apart_24 : decode cX5_apart 24 = .ok (.iload_n 3, 1) := fq1_29 (fl_X5_apart_0 (j := 24) rfl rfl)
theorem dX5_apart_25 : decode cX5_apart 25 = .ok (.bipush 6, 2) := fq2_16 (fl_X5_apart_0 (j := 25) rfl rfl) (fl_X5_apart_0 (j := 26) rfl rfl) (s1p rfl (bl rfl))
theorem dX5_apart_27 : decode cX5_apart 27 = .ok (.imul, 1) := fq1_104 (fl_X5_apart_0 (j := 27) rfl rfl)
theorem dX5_apart_28 : decode cX5_apart 28 = .ok (.iconst 0, 1) := fq1_3 (fl_X5_apart_0 (j := 28) rfl rfl)
theorem dX5_apart_29 : decode cX5_apart 29 = .ok (.iadd, 1) := fq1_96 (fl_X5_apart_0 (j := 29) rfl rfl)
theorem dX5_apart_30 : decode cX5_apart 30 = .ok (.iaload, 1) := fq1_46 (fl_X5_apart_0 (j := 30) rfl rfl)
theorem dX5_apart_31 : decode cX5_apart 31 = .ok (.istore 6, 2) := fq2_54 (fl_X5_apart_0 (j := 31) rfl rfl) (fl_X5_apart_0 (j := 32) rfl rfl) rfl
theorem dX5_apart_33 : decode cX5_apart 33 = .ok (.iload 5, 2) := fq2_21 (fl_X5_apart_0 (j := 33) rfl rfl) (fl_X5_apart_0 (j := 34) rfl rfl) rfl
theorem dX5_apart_35 : decode cX5_apart 35 = .ok (.iload 6, 2) := fq2_21 (fl_X5_apart_0 (j := 35) rfl rfl) (fl_X5_apart_0 (j := 36) rfl rfl) rfl
theorem dX5_apart_37 : decode cX5_apart 37 = .ok (.if_icmp .ge 8, 3) := fq3_162 (fl_X5_apart_0 (j := 37) rfl rfl) (fl_X5_apart_0 (j := 38) rfl rfl) (fl_X5_apart_0 (j := 39) rfl rfl) (s2p rfl (bl rfl))
theorem dX5_apart_40 : decode cX5_apart 40 = .ok (.iload 5, 2) := fq2_21 (fl_X5_apart_0 (j := 40) rfl rfl) (fl_X5_apart_0 (j := 41) rfl rfl) rfl
theorem dX5_apart_42 : decode cX5_apart 42 = .ok (.goto 5, 3) := fq3_167 (fl_X5_apart_0 (j := 42) rfl rfl) (fl_X5_apart_0 (j := 43) rfl rfl) (fl_X5_apart_0 (j := 44) rfl rfl) (s2p rfl (bl rfl))
theorem dX5_apart_45 : decode cX5_apart 45 = .ok (.iload 6, 2) := fq2_21 (fl_X5_apart_0 (j := 45) rfl rfl) (fl_X5_apart_0 (j := 46) rfl rfl) rfl
theorem dX5_apart_47 : decode cX5_apart 47 = .ok (.istore 7, 2) := fq2_54 (fl_X5_apart_0 (j := 47) rfl rfl) (fl_X5_apart_0 (j := 48) rfl rfl) rfl
theorem dX5_apart_49 : decode cX5_apart 49 = .ok (.iload 5, 2) := fq2_21 (fl_X5_apart_0 (j := 49) rfl rfl) (fl_X5_apart_0 (j := 50) rfl rfl) rfl
theorem dX5_apart_51 : decode cX5_apart 51 = .ok (.iload 6, 2) := fq2_21 (fl_X5_apart_0 (j := 51) rfl rfl) (fl_X5_apart_0 (j := 52) rfl rfl) rfl
theorem dX5_apart_53 : decode cX5_apart 53 = .ok (.if_icmp .ge 8, 3) := fq3_162 (fl_X5_apart_0 (j := 53) rfl rfl) (fl_X5_apart_0 (j := 54) rfl rfl) (fl_X5_apart_0 (j := 55) rfl rfl) (s2p rfl (bl rfl))
theorem dX5_apart_56 : decode cX5_apart 56 = .ok (.iload 6, 2) := fq2_21 (fl_X5_apart_0 (j := 56) rfl rfl) (fl_X5_apart_0 (j := 57) rfl rfl) rfl
theorem dX5_apart_58 : decode cX5_apart 58 = .ok (.goto 5, 3) := fq3_167 (fl_X5_apart_0 (j := 58) rfl rfl) (fl_X5_apart_0 (j := 59) rfl rfl) (fl_X5_apart_0 (j := 60) rfl rfl) (s2p rfl (bl rfl))
theorem dX5_apart_61 : decode cX5_apart 61 = .ok (.iload 5, 2) := fq2_21 (fl_X5_apart_0 (j := 61) rfl rfl) (fl_X5_apart_0 (j := 62) rfl rfl) rfl
def fb_X5_apart_1 : List UInt8 := [0x08, 0x1c, 0x15, 0x04, 0xa2, 0x00, 0x0a, 0x15, 0x04, 0x1c, 0x64, 0xa7, 0x00, 0x07, 0x1c, 0x15, 0x04, 0x64, 0x36, 0x09, 0x15, 0x09, 0x10, 0x06, 0xa4, 0x00, 0x0b, 0x10, 0x0c, 0x15, 0x09, 0x64, 0xa7, 0x00, 0x05, 0x15, 0x09, 0x36, 0x0a, 0x15, 0x08, 0x15, 0x07, 0x64, 0x15, 0x0a, 0x15, 0x07, 0x68, 0x10, 0x06, 0x6c, 0x60, 0x36, 0x0b, 0x15, 0x0b, 0x04, 0xa2, 0x00, 0x07, 0x04, 0xa7, 0x00]
theorem fl_X5_apart_1 {p j : Nat} {b : UInt8} (e : p = 64 + j) (h : fb_X5_apart_1[j]? = some b) : cX5_apart.data.toList[p]? = some b := fq_l (n := 64) (show (cX5_apart.data.toList.drop 64).take 64 = fb_X5_apart_1 by decide +kernel) e h
theorem dX5_apart_63 : decode cX5_apart 63 = .ok (.istore 8, 2) := fq2_54 (fl_X5_apart_0 (j := 63) rfl rfl) (fl_X5_apart_1 (j := 0) rfl rfl) rfl
theorem dX5_apart_65 : decode cX5_apart 65 = .ok (.iload_n 2, 1) := fq1_28 (fl_X5_apart_1 (j := 1) rfl rfl)
theorem dX5_apart_66 : decode cX5_apart 66 = .ok (.iload 4, 2) := fq2_21 (fl_X5_apart_1 (j := 2) rfl rfl) (fl_X5_apart_1 (j := 3) rfl rfl) rfl
theorem dX5_apart_68 : decode cX5_apart 68 = .ok (.if_icmp .ge 10, 3) := fq3_162 (fl_X5_apart_1 (j := 4) rfl rfl) (fl_X5_apart_1 (j := 5) rfl rfl) (fl_X5_apart_1 (j := 6) rfl rfl) (s2p rfl (bl rfl))
theorem dX5_apart_71 : decode cX5_apart 71 = .ok (.iload 4, 2) := fq2_21 (fl_X5_apart_1 (j := 7) rfl rfl) (fl_X5_apart_1 (j := 8) rfl rfl) rfl
theorem dX5_apart_73 : decode cX5_apart 73 = .ok (.iload_n 2, 1) := fq1_28 (fl_X5_apart_1 (j := 9) rfl rfl)
theorem dX5_apart_74 : decode cX5_apart 74 = .ok (.isub, 1) := fq1_100 (fl_X5_apart_1 (j := 10) rfl rfl)
theorem dX5_apart_75 : decode cX5_apart 75 = .ok (.goto 7, 3) := fq3_167 (fl_X5_apart_1 (j := 11) rfl rfl) (fl_X5_apart_1 (j := 12) rfl rfl) (fl_X5_apart_1 (j := 13) rfl rfl) (s2p rfl (bl rfl))
theorem dX5_apart_78 : decode cX5_apart 78 = .ok (.iload_n 2, 1) := fq1_28 (fl_X5_apart_1 (j := 14) rfl rfl)
theorem dX5_apart_79 : decode cX5_apart 79 = .ok (.iload 4, 2) := fq2_21 (fl_X5_apart_1 (j := 15) rfl rfl) (fl_X5_apart_1 (j := 16) rfl rfl) rfl
theorem dX5_apart_81 : decode cX5_apart 81 = .ok (.isub, 1) := fq1_100 (fl_X5_apart_1 (j := 17) rfl rfl)
theorem dX5_apart_82 : decode cX5_apart 82 = .ok (.istore 9, 2) := fq2_54 (fl_X5_apart_1 (j := 18) rfl rfl) (fl_X5_apart_1 (j := 19) rfl rfl) rfl
theorem dX5_apart_84 : decode cX5_apart 84 = .ok (.iload 9, 2) := fq2_21 (fl_X5_apart_1 (j := 20) rfl rfl) (fl_X5_apart_1 (j := 21) rfl rfl) rfl
theorem dX5_apart_86 : decode cX5_apart 86 = .ok (.bipush 6, 2) := fq2_16 (fl_X5_apart_1 (j := 22) rfl rfl) (fl_X5_apart_1 (j := 23) rfl rfl) (s1p rfl (bl rfl))
theorem dX5_apart_88 : decode cX5_apart 88 = .ok (.if_icmp .le 11, 3) := fq3_164 (fl_X5_apart_1 (j := 24) rfl rfl) (fl_X5_apart_1 (j := 25) rfl rfl) (fl_X5_apart_1 (j := 26) rfl rfl) (s2p rfl (bl rfl))
theorem dX5_apart_91 : decode cX5_apart 91 = .ok (.bipush 12, 2) := fq2_16 (fl_X5_apart_1 (j := 27) rfl rfl) (fl_X5_apart_1 (j := 28) rfl rfl) (s1p rfl (bl rfl))
theorem dX5_apart_93 : decode cX5_apart 93 = .ok (.iload 9, 2) := fq2_21 (fl_X5_apart_1 (j := 29) rfl rfl) (fl_X5_apart_1 (j := 30) rfl rfl) rfl
theorem dX5_apart_95 : decode cX5_apart 95 = .ok (.isub, 1) := fq1_100 (fl_X5_apart_1 (j := 31) rfl rfl)
theorem dX5_apart_96 : decode cX5_apart 96 = .ok (.goto 5, 3) := fq3_167 (fl_X5_apart_1 (j := 32) rfl rfl) (fl_X5_apart_1 (j := 33) rfl rfl) (fl_X5_apart_1 (j := 34) rfl rfl) (s2p rfl (bl rfl))
theorem dX5_apart_99 : decode cX5_apart 99 = .ok (.iload 9, 2) := fq2_21 (fl_X5_apart_1 (j := 35) rfl rfl) (fl_X5_apart_1 (j := 36) rfl rfl) rfl
theorem dX5_apart_101 : decode cX5_apart 101 = .ok (.istore 10, 2) := fq2_54 (fl_X5_apart_1 (j := 37) rfl rfl) (fl_X5_apart_1 (j := 38) rfl rfl) rfl
theorem dX5_apart_103 : decode cX5_apart 103 = .ok (.iload 8, 2) := fq2_21 (fl_X5_apart_1 (j := 39) rfl rfl) (fl_X5_apart_1 (j := 40) rfl rfl) rfl
theorem dX5_apart_105 : decode cX5_apart 105 = .ok (.iload 7, 2) := fq2_21 (fl_X5_apart_1 (j := 41) rfl rfl) (fl_X5_apart_1 (j := 42) rfl rfl) rfl
theorem dX5_apart_107 : decode cX5_apart 107 = .ok (.isub, 1) := fq1_100 (fl_X5_apart_1 (j := 43) rfl rfl)
theorem dX5_apart_108 : decode cX5_apart 108 = .ok (.iload 10, 2) := fq2_21 (fl_X5_apart_1 (j := 44) rfl rfl) (fl_X5_apart_1 (j := 45) rfl rfl) rfl
theorem dX5_apart_110 : decode cX5_apart 110 = .ok (.iload 7, 2) := fq2_21 (fl_X5_apart_1 (j := 46) rfl rfl) (fl_X5_apart_1 (j := 47) rfl rfl) rfl
theorem dX5_apart_112 : decode cX5_apart 112 = .ok (.imul, 1) := fq1_104 (fl_X5_apart_1 (j := 48) rfl rfl)
theorem dX5_apart_113 : decode cX5_apart 113 = .ok (.bipush 6, 2) := fq2_16 (fl_X5_apart_1 (j := 49) rfl rfl) (fl_X5_apart_1 (j := 50) rfl rfl) (s1p rfl (bl rfl))
theorem dX5_apart_115 : decode cX5_apart 115 = .ok (.idiv, 1) := fq1_108 (fl_X5_apart_1 (j := 51) rfl rfl)
theorem dX5_apart_116 : decode cX5_apart 116 = .ok (.iadd, 1) := fq1_96 (fl_X5_apart_1 (j := 52) rfl rfl)
theorem dX5_apart_117 : decode cX5_apart 117 = .ok (.istore 11, 2) := fq2_54 (fl_X5_apart_1 (j := 53) rfl rfl) (fl_X5_apart_1 (j := 54) rfl rfl) rfl
theorem dX5_apart_119 : decode cX5_apart 119 = .ok (.iload 11, 2) := fq2_21 (fl_X5_apart_1 (j := 55) rfl rfl) (fl_X5_apart_1 (j := 56) rfl rfl) rfl
theorem dX5_apart_121 : decode cX5_apart 121 = .ok (.iconst 1, 1) := fq1_4 (fl_X5_apart_1 (j := 57) rfl rfl)
theorem dX5_apart_122 : decode cX5_apart 122 = .ok (.if_icmp .ge 7, 3) := fq3_162 (fl_X5_apart_1 (j := 58) rfl rfl) (fl_X5_apart_1 (j := 59) rfl rfl) (fl_X5_apart_1 (j := 60) rfl rfl) (s2p rfl (bl rfl))
theorem dX5_apart_125 : decode cX5_apart 125 = .ok (.iconst 1, 1) := fq1_4 (fl_X5_apart_1 (j := 61) rfl rfl)
def fb_X5_apart_2 : List UInt8 := [0x05, 0x15, 0x0b, 0xac]
theorem fl_X5_apart_2 {p j : Nat} {b : UInt8} (e : p = 128 + j) (h : fb_X5_apart_2[j]? = some b) : cX5_apart.data.toList[p]? = some b := fq_l (n := 64) (show (cX5_apart.data.toList.drop 128).take 64 = fb_X5_apart_2 by decide +kernel) e h
theorem dX5_apart_126 : decode cX5_apart 126 = .ok (.goto 5, 3) := fq3_167 (fl_X5_apart_1 (j := 62) rfl rfl) (fl_X5_apart_1 (j := 63) rfl rfl) (fl_X5_apart_2 (j := 0) rfl rfl) (s2p rfl (bl rfl))
theorem dX5_apart_129 : decode cX5_apart 129 = .ok (.iload 11, 2) := fq2_21 (fl_X5_apart_2 (j := 1) rfl rfl) (fl_X5_apart_2 (j := 2) rfl rfl) rfl
theorem dX5_apart_131 : decode cX5_apart 131 = .ok (.ireturn, 1) := fq1_172 (fl_X5_apart_2 (j := 3) rfl rfl)
def fb_X5_heading_0 : List UInt8 := [0x2a, 0xb4, 0x00, 0x0f, 0x1b, 0x10, 0x06, 0x68, 0x04, 0x60, 0x2e, 0x3e, 0x1d, 0x04, 0xa2, 0x00, 0x07, 0x03, 0xa7, 0x00, 0x09, 0x10, 0x0c, 0x1c, 0x68, 0x1d, 0x6c, 0x36, 0x04, 0x2a, 0xb4, 0x00, 0x0f, 0x1b, 0x10, 0x06, 0x68, 0x05, 0x60, 0x2e, 0x15, 0x04, 0x60, 0x10, 0x0c, 0x70, 0xac]
theorem fl_X5_heading_0 {p j : Nat} {b : UInt8} (e : p = 0 + j) (h : fb_X5_heading_0[j]? = some b) : cX5_heading.data.toList[p]? = some b := fq_l (n := 64) (show (cX5_heading.data.toList.drop 0).take 64 = fb_X5_heading_0 by decide +kernel) e h
theorem dX5_heading_0 : decode cX5_heading 0 = .ok (.aload_n 0, 1) := fq1_42 (fl_X5_heading_0 (j := 0) rfl rfl)
theorem dX5_heading_1 : decode cX5_heading 1 = .ok (.getfield 15, 3) := fq3_180 (fl_X5_heading_0 (j := 1) rfl rfl) (fl_X5_heading_0 (j := 2) rfl rfl) (fl_X5_heading_0 (j := 3) rfl rfl) rfl
theorem dX5_heading_4 : decode cX5_heading 4 = .ok (.iload_n 1, 1) := fq1_27 (fl_X5_heading_0 (j := 4) rfl rfl)
theorem dX5_heading_5 : decode cX5_heading 5 = .ok (.bipush 6, 2) := fq2_16 (fl_X5_heading_0 (j := 5) rfl rfl) (fl_X5_heading_0 (j := 6) rfl rfl) (s1p rfl (bl rfl))
theorem dX5_heading_7 : decode cX5_heading 7 = .ok (.imul, 1) := fq1_104 (fl_X5_heading_0 (j := 7) rfl rfl)
theorem dX5_heading_8 : decode cX5_heading 8 = .ok (.iconst 1, 1) := fq1_4 (fl_X5_heading_0 (j := 8) rfl rfl)
theorem dX5_heading_9 : decode cX5_heading 9 = .ok (.iadd, 1) := fq1_96 (fl_X5_heading_0 (j := 9) rfl rfl)
theorem dX5_heading_10 : decode cX5_heading 10 = .ok (.iaload, 1) := fq1_46 (fl_X5_heading_0 (j := 10) rfl rfl)
theorem dX5_heading_11 : decode cX5_heading 11 = .ok (.istore_n 3, 1) := fq1_62 (fl_X5_heading_0 (j := 11) rfl rfl)
theorem dX5_heading_12 : decode cX5_heading 12 = .ok (.iload_n 3, 1) := fq1_29 (fl_X5_heading_0 (j := 12) rfl rfl)
theorem dX5_heading_13 : decode cX5_heading 13 = .ok (.iconst 1, 1) := fq1_4 (fl_X5_heading_0 (j := 13) rfl rfl)
theorem dX5_heading_14 : decode cX5_heading 14 = .ok (.if_icmp .ge 7, 3) := fq3_162 (fl_X5_heading_0 (j := 14) rfl rfl) (fl_X5_heading_0 (j := 15) rfl rfl) (fl_X5_heading_0 (j := 16) rfl rfl) (s2p rfl (bl rfl))
theorem dX5_heading_21 : decode cX5_heading 21 = .ok (.bipush 12, 2) := fq2_16 (fl_X5_heading_0 (j := 21) rfl rfl) (fl_X5_heading_0 (j := 22) rfl rfl) (s1p rfl (bl rfl))
theorem dX5_heading_23 : decode cX5_heading 23 = .ok (.iload_n 2, 1) := fq1_28 (fl_X5_heading_0 (j := 23) rfl rfl)
theorem dX5_heading_24 : decode cX5_heading 24 = .ok (.imul, 1) := fq1_104 (fl_X5_heading_0 (j := 24) rfl rfl)
theorem dX5_heading_25 : decode cX5_heading 25 = .ok (.iload_n 3, 1) := fq1_29 (fl_X5_heading_0 (j := 25) rfl rfl)
theorem dX5_heading_26 : decode cX5_heading 26 = .ok (.idiv, 1) := fq1_108 (fl_X5_heading_0 (j := 26) rfl rfl)
theorem dX5_heading_27 : decode cX5_heading 27 = .ok (.istore 4, 2) := fq2_54 (fl_X5_heading_0 (j := 27) rfl rfl) (fl_X5_heading_0 (j := 28) rfl rfl) rfl
theorem dX5_heading_29 : decode cX5_heading 29 = .ok (.aload_n 0, 1) := fq1_42 (fl_X5_heading_0 (j := 29) rfl rfl)
theorem dX5_heading_30 : decode cX5_heading 30 = .ok (.getfield 15, 3) := fq3_180 (fl_X5_heading_0 (j := 30) rfl rfl) (fl_X5_heading_0 (j := 31) rfl rfl) (fl_X5_heading_0 (j := 32) rfl rfl) rfl
theorem dX5_heading_33 : decode cX5_heading 33 = .ok (.iload_n 1, 1) := fq1_27 (fl_X5_heading_0 (j := 33) rfl rfl)
theorem dX5_heading_34 : decode cX5_heading 34 = .ok (.bipush 6, 2) := fq2_16 (fl_X5_heading_0 (j := 34) rfl rfl) (fl_X5_heading_0 (j := 35) rfl rfl) (s1p rfl (bl rfl))
theorem dX5_heading_36 : decode cX5_heading 36 = .ok (.imul, 1) := fq1_104 (fl_X5_heading_0 (j := 36) rfl rfl)
theorem dX5_heading_37 : decode cX5_heading 37 = .ok (.iconst 2, 1) := fq1_5 (fl_X5_heading_0 (j := 37) rfl rfl)
theorem dX5_heading_38 : decode cX5_heading 38 = .ok (.iadd, 1) := fq1_96 (fl_X5_heading_0 (j := 38) rfl rfl)
theorem dX5_heading_39 : decode cX5_heading 39 = .ok (.iaload, 1) := fq1_46 (fl_X5_heading_0 (j := 39) rfl rfl)
theorem dX5_heading_40 : decode cX5_heading 40 = .ok (.iload 4, 2) := fq2_21 (fl_X5_heading_0 (j := 40) rfl rfl) (fl_X5_heading_0 (j := 41) rfl rfl) rfl
theorem dX5_heading_42 : decode cX5_heading 42 = .ok (.iadd, 1) := fq1_96 (fl_X5_heading_0 (j := 42) rfl rfl)
theorem dX5_heading_43 : decode cX5_heading 43 = .ok (.bipush 12, 2) := fq2_16 (fl_X5_heading_0 (j := 43) rfl rfl) (fl_X5_heading_0 (j := 44) rfl rfl) (s1p rfl (bl rfl))
theorem dX5_heading_45 : decode cX5_heading 45 = .ok (.irem, 1) := fq1_112 (fl_X5_heading_0 (j := 45) rfl rfl)
theorem dX5_heading_46 : decode cX5_heading 46 = .ok (.ireturn, 1) := fq1_172 (fl_X5_heading_0 (j := 46) rfl rfl)
