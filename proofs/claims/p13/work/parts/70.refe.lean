section
theorem qc_X12_is : Cond.code yX12_is cX12_is 2 (some .boolean) ∈ gw := tbt (tb6 (List.mem_of_getElem? (i := 175) rfl)) rfl
theorem qi_yX12_is : Cond.instanceMethod yX12_is ∈ gw := tbt (tb6 (List.mem_of_getElem? (i := 174) rfl)) rfl
theorem qs_X12_is : Cond.selects (yX12_is).cls yX12_is yX12_is ∈ gw := tb0 (List.mem_of_getElem? (i := 37) rfl) rfl
theorem ci_X12_is : CIv yX12_is cX12_is 2 (some .boolean) 1 := ⟨qc_X12_is, qi_yX12_is, qs_X12_is, qz_X12, by decide +kernel⟩
theorem qm_X12_89 : Cond.methodLink RX12 89 yX12_is ∈ gw := tbt (tb6 (List.mem_of_getElem? (i := 172) rfl)) rfl
theorem qc_X12_tellsBy : Cond.code yX12_tellsBy cX12_tellsBy 11 (some .boolean) ∈ gw := tbt (tb8 (List.mem_of_getElem? (i := 186) rfl)) rfl
theorem qi_yX12_tellsBy : Cond.instanceMethod yX12_tellsBy ∈ gw := tbt (tb8 (List.mem_of_getElem? (i := 185) rfl)) rfl
theorem qs_X12_tellsBy : Cond.selects (yX12_tellsBy).cls yX12_tellsBy yX12_tellsBy ∈ gw := tb0 (List.mem_of_getElem? (i := 93) rfl) rfl
theorem ci_X12_tellsBy : CIv yX12_tellsBy cX12_tellsBy 11 (some .boolean) 2 := ⟨qc_X12_tellsBy, qi_yX12_tellsBy, qs_X12_tellsBy, qz_X12, by decide +kernel⟩
theorem qm_X12_359 : Cond.methodLink RX12 359 yX12_tellsBy ∈ gw := tbt (tb8 (List.mem_of_getElem? (i := 183) rfl)) rfl
def fb_X12_meanPrice_0 : List UInt8 := [0x2a, 0x1b, 0xb6, 0x00, 0xf3, 0x99, 0x00, 0x16, 0x1c, 0xb8, 0x01, 0x02, 0x99, 0x00, 0x0f, 0x1d, 0xb8, 0x01, 0x02, 0x99, 0x00, 0x08, 0x1d, 0x1c, 0xa2, 0x00, 0x09, 0x2a, 0x04, 0xb6, 0x00, 0x59, 0xac, 0x09, 0x37, 0x04, 0x1c, 0x36, 0x06, 0x15, 0x06, 0x1d, 0xa3, 0x00, 0x16, 0x16, 0x04, 0x2a, 0x1b, 0x15, 0x06, 0xb6, 0x01, 0x61, 0x85, 0x61, 0x37, 0x04, 0x84, 0x06, 0x01, 0xa7, 0xff, 0xea]
theorem fl_X12_meanPrice_0 {p j : Nat} {b : UInt8} (e : p = 0 + j) (h : fb_X12_meanPrice_0[j]? = some b) : cX12_meanPrice.data.toList[p]? = some b := fq_l (n := 64) (show (cX12_meanPrice.data.toList.drop 0).take 64 = fb_X12_meanPrice_0 by decide +kernel) e h
theorem dX12_meanPrice_0 : decode cX12_meanPrice 0 = .ok (.aload_n 0, 1) := fq1_42 (fl_X12_meanPrice_0 (j := 0) rfl rfl)
theorem dX12_meanPrice_1 : decode cX12_meanPrice 1 = .ok (.iload_n 1, 1) := fq1_27 (fl_X12_meanPrice_0 (j := 1) rfl rfl)
theorem dX12_meanPrice_2 : decode cX12_meanPrice 2 = .ok (.invokevirtual 243, 3) := fq3_182 (fl_X12_meanPrice_0 (j := 2) rfl rfl) (fl_X12_meanPrice_0 (j := 3) rfl rfl) (fl_X12_meanPrice_0 (j := 4) rfl rfl) rfl
theorem dX12_meanPrice_5 : decode cX12_meanPrice 5 = .ok (.ifCond .eq 22, 3) := fq3_153 (fl_X12_meanPrice_0 (j := 5) rfl rfl) (fl_X12_meanPrice_0 (j := 6) rfl rfl) (fl_X12_meanPrice_0 (j := 7) rfl rfl) (s2p rfl (bl rfl))
theorem dX12_meanPrice_8 : decode cX12_meanPrice 8 = .ok (.iload_n 2, 1) := fq1_28 (fl_X12_meanPrice_0 (j := 8) rfl rfl)
theorem dX12_meanPrice_9 : decode cX12_meanPrice 9 = .ok (.invokestatic 258, 3) := fq3_184 (fl_X12_meanPrice_0 (j := 9) rfl rfl) (fl_X12_meanPrice_0 (j := 10) rfl rfl) (fl_X12_meanPrice_0 (j := 11) rfl rfl) rfl
theorem dX12_meanPrice_12 : decode cX12_meanPrice 12 = .ok (.ifCond .eq 15, 3) := fq3_153 (fl_X12_meanPrice_0 (j := 12) rfl rfl) (fl_X12_meanPrice_0 (j := 13) rfl rfl) (fl_X12_meanPrice_0 (j := 14) rfl rfl) (s2p rfl (bl rfl))
theorem dX12_meanPrice_15 : decode cX12_meanPrice 15 = .ok (.iload_n 3, 1) := fq1_29 (fl_X12_meanPrice_0 (j := 15) rfl rfl)
theorem dX12_meanPrice_16 : decode cX12_meanPrice 16 = .ok (.invokestatic 258, 3) := fq3_184 (fl_X12_meanPrice_0 (j := 16) rfl rfl) (fl_X12_meanPrice_0 (j := 17) rfl rfl) (fl_X12_meanPrice_0 (j := 18) rfl rfl) rfl
theorem dX12_meanPrice_19 : decode cX12_meanPrice 19 = .ok (.ifCond .eq 8, 3) := fq3_153 (fl_X12_meanPrice_0 (j := 19) rfl rfl) (fl_X12_meanPrice_0 (j := 20) rfl rfl) (fl_X12_meanPrice_0 (j := 21) rfl rfl) (s2p rfl (bl rfl))
theorem dX12_meanPrice_22 : decode cX12_meanPrice 22 = .ok (.iload_n 3, 1) := fq1_29 (fl_X12_meanPrice_0 (j := 22) rfl rfl)
theorem dX12_meanPrice_23 : decode cX12_meanPrice 23 = .ok (.iload_n 2, 1) := fq1_28 (fl_X12_meanPrice_0 (j := 23) rfl rfl)
theorem dX12_meanPrice_24 : decode cX12_meanPrice 24 = .ok (.if_icmp .ge 9, 3) := fq3_162 (fl_X12_meanPrice_0 (j := 24) rfl rfl) (fl_X12_meanPrice_0 (j := 25) rfl rfl) (fl_X12_meanPrice_0 (j := 26) rfl rfl) (s2p rfl (bl rfl))
theorem dX12_meanPrice_27 : decode cX12_meanPrice 27 = .ok (.aload_n 0, 1) := fq1_42 (fl_X12_meanPrice_0 (j := 27) rfl rfl)
theorem dX12_meanPrice_28 : decode cX12_meanPrice 28 = .ok (.iconst 1, 1) := fq1_4 (fl_X12_meanPrice_0 (j := 28) rfl rfl)
theorem dX12_meanPrice_29 : decode cX12_meanPrice 29 = .ok (.invokevirtual 89, 3) := fq3_182 (fl_X12_meanPrice_0 (j := 29) rfl rfl) (fl_X12_meanPrice_0 (j := 30) rfl rfl) (fl_X12_meanPrice_0 (j := 31) rfl rfl) rfl
theorem dX12_meanPrice_32 : decode cX12_meanPrice 32 = .ok (.ireturn, 1) := fq1_172 (fl_X12_meanPrice_0 (j := 32) rfl rfl)
theorem dX12_meanPrice_33 : decode cX12_meanPrice 33 = .ok (.lconst 0, 1) := fq1_9 (fl_X12_meanPrice_0 (j := 33) rfl rfl)
theorem dX12_meanPrice_34 : decode cX12_meanPrice 34 = .ok (.lstore 4, 2) := fq2_55 (fl_X12_meanPrice_0 (j := 34) rfl rfl) (fl_X12_meanPrice_0 (j := 35) rfl rfl) rfl
theorem dX12_meanPrice_36 : decode cX12_meanPrice 36 = .ok (.iload_n 2, 1) := fq1_28 (fl_X12_meanPrice_0 (j := 36) rfl rfl)
theorem dX12_meanPrice_37 : decode cX12_meanPrice 37 = .ok (.istore 6, 2) := fq2_54 (fl_X12_meanPrice_0 (j := 37) rfl rfl) (fl_X12_meanPrice_0 (j := 38) rfl rfl) rfl
theorem dX12_meanPrice_39 : decode cX12_meanPrice 39 = .ok (.iload 6, 2) := fq2_21 (fl_X12_meanPrice_0 (j := 39) rfl rfl) (fl_X12_meanPrice_0 (j := 40) rfl rfl) rfl
theorem dX12_meanPrice_41 : decode cX12_meanPrice 41 = .ok (.iload_n 3, 1) := fq1_29 (fl_X12_meanPrice_0 (j := 41) rfl rfl)
theorem dX12_meanPrice_42 : decode cX12_meanPrice 42 = .ok (.if_icmp .gt 22, 3) := fq3_163 (fl_X12_meanPrice_0 (j := 42) rfl rfl) (fl_X12_meanPrice_0 (j := 43) rfl rfl) (fl_X12_meanPrice_0 (j := 44) rfl rfl) (s2p rfl (bl rfl))
theorem dX12_meanPrice_45 : decode cX12_meanPrice 45 = .ok (.lload 4, 2) := fq2_22 (fl_X12_meanPrice_0 (j := 45) rfl rfl) (fl_X12_meanPrice_0 (j := 46) rfl rfl) rfl
theorem dX12_meanPrice_47 : decode cX12_meanPrice 47 = .ok (.aload_n 0, 1) := fq1_42 (fl_X12_meanPrice_0 (j := 47) rfl rfl)
theorem dX12_meanPrice_48 : decode cX12_meanPrice 48 = .ok (.iload_n 1, 1) := fq1_27 (fl_X12_meanPrice_0 (j := 48) rfl rfl)
theorem dX12_meanPrice_49 : decode cX12_meanPrice 49 = .ok (.iload 6, 2) := fq2_21 (fl_X12_meanPrice_0 (j := 49) rfl rfl) (fl_X12_meanPrice_0 (j := 50) rfl rfl) rfl
theorem dX12_meanPrice_51 : decode cX12_meanPrice 51 = .ok (.invokevirtual 353, 3) := fq3_182 (fl_X12_meanPrice_0 (j := 51) rfl rfl) (fl_X12_meanPrice_0 (j := 52) rfl rfl) (fl_X12_meanPrice_0 (j := 53) rfl rfl) rfl
theorem dX12_meanPrice_54 : decode cX12_meanPrice 54 = .ok (.i2l, 1) := fq1_133 (fl_X12_meanPrice_0 (j := 54) rfl rfl)
theorem dX12_meanPrice_55 : decode cX12_meanPrice 55 = .ok (.ladd, 1) := fq1_97 (fl_X12_meanPrice_0 (j := 55) rfl rfl)
theorem dX12_meanPrice_56 : decode cX12_meanPrice 56 = .ok (.lstore 4, 2) := fq2_55 (fl_X12_meanPrice_0 (j := 56) rfl rfl) (fl_X12_meanPrice_0 (j := 57) rfl rfl) rfl
theorem dX12_meanPrice_58 : decode cX12_meanPrice 58 = .ok (.iinc 6 1, 3) := fq3_132 (fl_X12_meanPrice_0 (j := 58) rfl rfl) (fl_X12_meanPrice_0 (j := 59) rfl rfl) (fl_X12_meanPrice_0 (j := 60) rfl rfl) rfl (s1p rfl (bl rfl))
theorem dX12_meanPrice_61 : decode cX12_meanPrice 61 = .ok (.goto (-22), 3) := fq3_167 (fl_X12_meanPrice_0 (j := 61) rfl rfl) (fl_X12_meanPrice_0 (j := 62) rfl rfl) (fl_X12_meanPrice_0 (j := 63) rfl rfl) (by decide)
def fb_X12_meanPrice_1 : List UInt8 := [0x2a, 0x16, 0x04, 0x1d, 0x1c, 0x64, 0x04, 0x60, 0x85, 0xb6, 0x01, 0x67, 0xac]
theorem fl_X12_meanPrice_1 {p j : Nat} {b : UInt8} (e : p = 64 + j) (h : fb_X12_meanPrice_1[j]? = some b) : cX12_meanPrice.data.toList[p]? = some b := fq_l (n := 64) (show (cX12_meanPrice.data.toList.drop 64).take 64 = fb_X12_meanPrice_1 by decide +kernel) e h
theorem dX12_meanPrice_64 : decode cX12_meanPrice 64 = .ok (.aload_n 0, 1) := fq1_42 (fl_X12_meanPrice_1 (j := 0) rfl rfl)
theorem dX12_meanPrice_65 : decode cX12_meanPrice 65 = .ok (.lload 4, 2) := fq2_22 (fl_X12_meanPrice_1 (j := 1) rfl rfl) (fl_X12_meanPrice_1 (j := 2) rfl rfl) rfl
theorem dX12_meanPrice_67 : decode cX12_meanPrice 67 = .ok (.iload_n 3, 1) := fq1_29 (fl_X12_meanPrice_1 (j := 3) rfl rfl)
theorem dX12_meanPrice_68 : decode cX12_meanPrice 68 = .ok (.iload_n 2, 1) := fq1_28 (fl_X12_meanPrice_1 (j := 4) rfl rfl)
theorem dX12_meanPrice_69 : decode cX12_meanPrice 69 = .ok (.isub, 1) := fq1_100 (fl_X12_meanPrice_1 (j := 5) rfl rfl)
theorem dX12_meanPrice_70 : decode cX12_meanPrice 70 = .ok (.iconst 1, 1) := fq1_4 (fl_X12_meanPrice_1 (j := 6) rfl rfl)
theorem dX12_meanPrice_71 : decode cX12_meanPrice 71 = .ok (.iadd, 1) := fq1_96 (fl_X12_meanPrice_1 (j := 7) rfl rfl)
theorem dX12_meanPrice_72 : decode cX12_meanPrice 72 = .ok (.i2l, 1) := fq1_133 (fl_X12_meanPrice_1 (j := 8) rfl rfl)
theorem dX12_meanPrice_73 : decode cX12_meanPrice 73 = .ok (.invokevirtual 359, 3) := fq3_182 (fl_X12_meanPrice_1 (j := 9) rfl rfl) (fl_X12_meanPrice_1 (j := 10) rfl rfl) (fl_X12_meanPrice_1 (j := 11) rfl rfl) rfl
theorem dX12_meanPrice_76 : decode cX12_meanPrice 76 = .ok (.ireturn, 1) := fq1_172 (fl_X12_meanPrice_1 (j := 12) rfl rfl)
def fb_X12_tellsBy_0 : List UInt8 := [0x1f, 0x37, 0x05, 0x21, 0x37, 0x07, 0x16, 0x07, 0x09, 0x94, 0x99, 0x00, 0x15, 0x16, 0x05, 0x16, 0x07, 0x71, 0x37, 0x09, 0x16, 0x07, 0x37, 0x05, 0x16, 0x09, 0x37, 0x07, 0xa7, 0xff, 0xea, 0x2a, 0x1f, 0x16, 0x05, 0x6d, 0xb5, 0x00, 0x4e, 0x2a, 0x21, 0x16, 0x05, 0x6d, 0xb5, 0x00, 0x11, 0x2a, 0x03, 0xb6, 0x00, 0x59, 0xac]
theorem fl_X12_tellsBy_0 {p j : Nat} {b : UInt8} (e : p = 0 + j) (h : fb_X12_tellsBy_0[j]? = some b) : cX12_tellsBy.data.toList[p]? = some b := fq_l (n := 64) (show (cX12_tellsBy.data.toList.drop 0).take 64 = fb_X12_tellsBy_0 by decide +kernel) e h
theorem dX12_tellsBy_0 : decode cX12_tellsBy 0 = .ok (.lload_n 1, 1) := fq1_31 (fl_X12_tellsBy_0 (j := 0) rfl rfl)
theorem dX12_tellsBy_1 : decode cX12_tellsBy 1 = .ok (.lstore 5, 2) := fq2_55 (fl_X12_tellsBy_0 (j := 1) rfl rfl) (fl_X12_tellsBy_0 (j := 2) rfl rfl) rfl
theorem dX12_tellsBy_3 : decode cX12_tellsBy 3 = .ok (.lload_n 3, 1) := fq1_33 (fl_X12_tellsBy_0 (j := 3) rfl rfl)
theorem dX12_tellsBy_4 : decode cX12_tellsBy 4 = .ok (.lstore 7, 2) := fq2_55 (fl_X12_tellsBy_0 (j := 4) rfl rfl) (fl_X12_tellsBy_0 (j := 5) rfl rfl) rfl
theorem dX12_tellsBy_6 : decode cX12_tellsBy 6 = .ok (.lload 7, 2) := fq2_22 (fl_X12_tellsBy_0 (j := 6) rfl rfl) (fl_X12_tellsBy_0 (j := 7) rfl rfl) rfl
theorem dX12_tellsBy_8 : decode cX12_tellsBy 8 = .ok (.lconst 0, 1) := fq1_9 (fl_X12_tellsBy_0 (j := 8) rfl rfl)
theorem dX12_tellsBy_9 : decode cX12_tellsBy 9 = .ok (.lcmp, 1) := fq1_148 (fl_X12_tellsBy_0 (j := 9) rfl rfl)
theorem dX12_tellsBy_10 : decode cX12_tellsBy 10 = .ok (.ifCond .eq 21, 3) := fq3_153 (fl_X12_tellsBy_0 (j := 10) rfl rfl) (fl_X12_tellsBy_0 (j := 11) rfl rfl) (fl_X12_tellsBy_0 (j := 12) rfl rfl) (s2p rfl (bl rfl))
theorem dX12_tellsBy_13 : decode cX12_tellsBy 13 = .ok (.lload 5, 2) := fq2_22 (fl_X12_tellsBy_0 (j := 13) rfl rfl) (fl_X12_tellsBy_0 (j := 14) rfl rfl) rfl
theorem dX12_tellsBy_15 : decode cX12_tellsBy 15 = .ok (.lload 7, 2) := fq2_22 (fl_X12_tellsBy_0 (j := 15) rfl rfl) (fl_X12_tellsBy_0 (j := 16) rfl rfl) rfl
theorem dX12_tellsBy_17 : decode cX12_tellsBy 17 = .ok (.lrem, 1) := fq1_113 (fl_X12_tellsBy_0 (j := 17) rfl rfl)
theorem dX12_tellsBy_18 : decode cX12_tellsBy 18 = .ok (.lstore 9, 2) := fq2_55 (fl_X12_tellsBy_0 (j := 18) rfl rfl) (fl_X12_tellsBy_0 (j := 19) rfl rfl) rfl
theorem dX12_tellsBy_20 : decode cX12_tellsBy 20 = .ok (.lload 7, 2) := fq2_22 (fl_X12_tellsBy_0 (j := 20) rfl rfl) (fl_X12_tellsBy_0 (j := 21) rfl rfl) rfl
theorem dX12_tellsBy_22 : decode cX12_tellsBy 22 = .ok (.lstore 5, 2) := fq2_55 (fl_X12_tellsBy_0 (j := 22) rfl rfl) (fl_X12_tellsBy_0 (j := 23) rfl rfl) rfl
theorem dX12_tellsBy_24 : decode cX12_tellsBy 24 = .ok (.lload 9, 2) := fq2_22 (fl_X12_tellsBy_0 (j := 24) rfl rfl) (fl_X12_tellsBy_0 (j := 25) rfl rfl) rfl
theorem dX12_tellsBy_26 : decode cX12_tellsBy 26 = .ok (.lstore 7, 2) := fq2_55 (fl_X12_tellsBy_0 (j := 26) rfl rfl) (fl_X12_tellsBy_0 (j := 27) rfl rfl) rfl
theorem dX12_tellsBy_28 : decode cX12_tellsBy 28 = .ok (.goto (-22), 3) := fq3_167 (fl_X12_tellsBy_0 (j := 28) rfl rfl) (fl_X12_tellsBy_0 (j := 29) rfl rfl) (fl_X12_tellsBy_0 (j := 30) rfl rfl) (by decide)
theorem dX12_tellsBy_31 : decode cX12_tellsBy 31 = .ok (.aload_n 0, 1) := fq1_42 (fl_X12_tellsBy_0 (j := 31) rfl rfl)
theorem dX12_tellsBy_32 : decode cX12_tellsBy 32 = .ok (.lload_n 1, 1) := fq1_31 (fl_X12_tellsBy_0 (j := 32) rfl rfl)
theorem dX12_tellsBy_33 : decode cX12_tellsBy 33 = .ok (.lload 5, 2) := fq2_22 (fl_X12_tellsBy_0 (j := 33) rfl rfl) (fl_X12_tellsBy_0 (j := 34) rfl rfl) rfl
theorem dX12_tellsBy_35 : decode cX12_tellsBy 35 = .ok (.ldiv, 1) := fq1_109 (fl_X12_tellsBy_0 (j := 35) rfl rfl)
theorem dX12_tellsBy_36 : decode cX12_tellsBy 36 = .ok (.putfield 78, 3) := fq3_181 (fl_X12_tellsBy_0 (j := 36) rfl rfl) (fl_X12_tellsBy_0 (j := 37) rfl rfl) (fl_X12_tellsBy_0 (j := 38) rfl rfl) rfl
theorem dX12_tellsBy_39 : decode cX12_tellsBy 39 = .ok (.aload_n 0, 1) := fq1_42 (fl_X12_tellsBy_0 (j := 39) rfl rfl)
theorem dX12_tellsBy_40 : decode cX12_tellsBy 40 = .ok (.lload_n 3, 1) := fq1_33 (fl_X12_tellsBy_0 (j := 40) rfl rfl)
theorem dX12_tellsBy_41 : decode cX12_tellsBy 41 = .ok (.lload 5, 2) := fq2_22 (fl_X12_tellsBy_0 (j := 41) rfl rfl) (fl_X12_tellsBy_0 (j := 42) rfl rfl) rfl
theorem dX12_tellsBy_43 : decode cX12_tellsBy 43 = .ok (.ldiv, 1) := fq1_109 (fl_X12_tellsBy_0 (j := 43) rfl rfl)
theorem dX12_tellsBy_44 : decode cX12_tellsBy 44 = .ok (.putfield 17, 3) := fq3_181 (fl_X12_tellsBy_0 (j := 44) rfl rfl) (fl_X12_tellsBy_0 (j := 45) rfl rfl) (fl_X12_tellsBy_0 (j := 46) rfl rfl) rfl
theorem dX12_tellsBy_47 : decode cX12_tellsBy 47 = .ok (.aload_n 0, 1) := fq1_42 (fl_X12_tellsBy_0 (j := 47) rfl rfl)
theorem dX12_tellsBy_48 : decode cX12_tellsBy 48 = .ok (.iconst 0, 1) := fq1_3 (fl_X12_tellsBy_0 (j := 48) rfl rfl)
theorem dX12_tellsBy_49 : decode cX12_tellsBy 49 = .ok (.invokevirtual 89, 3) := fq3_182 (fl_X12_tellsBy_0 (j := 49) rfl rfl) (fl_X12_tellsBy_0 (j := 50) rfl rfl) (fl_X12_tellsBy_0 (j := 51) rfl rfl) rfl
theorem dX12_tellsBy_52 : decode cX12_tellsBy 52 = .ok (.ireturn, 1) := fq1_172 (fl_X12_tellsBy_0 (j := 52) rfl rfl)
end

section
theorem gz_hit {f g : Nat → Int32} {e v : Int} (hg : g = upd f (iZ e).toNatClampNeg (iZ v)) (he : 0 ≤ e ∧ e < 2147483648) (hv : -2147483648 ≤ v ∧ v < 2147483648) : gz g e = v := by
  rw [gz_up hg he hv he.1, if_pos rfl]
theorem gz_missl {f g : Nat → Int32} {e v j : Int} (hg : g = upd f (iZ e).toNatClampNeg (iZ v)) (he : 0 ≤ e ∧ e < 2147483648) (hv : -2147483648 ≤ v ∧ v < 2147483648) (hj : 0 ≤ j ∧ j < e) : gz g j = gz f j := by
  rw [gz_up hg he hv hj.1, if_neg (by omega)]
theorem gz_missr {f g : Nat → Int32} {e v j : Int} (hg : g = upd f (iZ e).toNatClampNeg (iZ v)) (he : 0 ≤ e ∧ e < 2147483648) (hv : -2147483648 ≤ v ∧ v < 2147483648) (hj : e < j) : gz g j = gz f j := by
  rw [gz_up hg he hv (by omega), if_neg (by omega)]
/-- weeks in which rocks know; 1000000: never -/
def KR (f : Nat → Int32) (n : Int) : Prop := ∀ e : Int, 0 ≤ e → e < n → (0 ≤ gz f e ∧ gz f e ≤ 420) ∨ gz f e = 1000000
theorem KR.up {f g : Nat → Int32} {n e v : Int} (h : KR f n) (hg : g = upd f (iZ e).toNatClampNeg (iZ v)) (he : 0 ≤ e ∧ e < 2147483648) (hv : (0 ≤ v ∧ v ≤ 420) ∨ v = 1000000) : KR g n := by
  intro j h1 h2
  have c := gz_upc hg he ⟨by omega, by omega⟩ h1
  have := h j h1 h2
  omega
theorem KR.ext {f g : Nat → Int32} {n v : Int} (h : KR f n) (hg : g = upd f (iZ n).toNatClampNeg (iZ v)) (he : 0 ≤ n ∧ n < 2147483648) (hv : (0 ≤ v ∧ v ≤ 420) ∨ v = 1000000) : KR g (n + 1) := by
  intro j h1 h2
  have c := gz_upc hg he ⟨by omega, by omega⟩ h1
  rcases c with c | c
  · omega
  · have := h j h1 (by omega)
    omega

theorem lrem_t (x y : Int64) : (x - x / y * y).toInt = x.toInt.tmod y.toInt := by
  have hr := Int64.toInt_mod x y
  have h1 := Int64.toInt_lt (x % y)
  have h2 := Int64.le_toInt (x % y)
  rw [hr] at h1 h2
  have hq : x.toInt - x.toInt.tdiv y.toInt * y.toInt = x.toInt.tmod y.toInt := by
    have := Int.tmod_add_mul_tdiv x.toInt y.toInt
    rw [Int.mul_comm] at this
    omega
  rw [Int64.toInt_sub, Int64.toInt_mul, Int64.toInt_div]
  simp only [Int.bmod_mul_bmod, Int.sub_bmod_bmod]
  rw [hq, Int.bmod_eq_of_le (by omega) (by omega)]
theorem tm_lt {a b r : Int} (hb : ¬ b = 0) (h : r = a.tmod b) : (r.natAbs : Int) < (b.natAbs : Int) := by
  rw [h, Int.natAbs_tmod]
  have := Nat.mod_lt a.natAbs (show b.natAbs > 0 by omega)
  omega
set_option maxHeartbeats 4000000 in
set_option maxRecDepth 100000 in
theorem m_tellsBy (l : Launch) (D : va_G) (k : Nat → ClassId) (hm : Nat) (Ma : Nat) (Mn : Nat) (Ms : Nat) (My : Nat) (Mt : Nat) (Mp : Nat) (Mx : Nat) (Mo : Nat) (Mk : Nat) (Ml : Nat) (Mb : Nat) (Mh : Nat) (Mc : Nat) (Mz : Nat) (Mr : Nat) (Mq : Nat) (Mst : Int) (Mtd : Int) (Msz : Int) (Mtk : Int) (Mfr : Int) (Men : Int) (Mva : Int) (Mfk : Int) (Mfp : Int) (Mfs : Int) (Mse : Int) (Mlt : Int) (Mdp : Int) (Mct : Int) (Mdr : Int) (Mrs : Int) (Mit : Int) (Mmk : Int) (Mtp : Int64) (Mbt : Int64) (x : Int64) (y : Int64) (hy9 : 0 < y.toInt ∧ y.toInt ≤ 1000) : WD (σ := ((Int × Int) × (Int64 × Int64 × Int64) × (Unit) × (Unit))) l yX12_tellsBy cX12_tellsBy 11 (some .boolean) 1 0 0 D k [.ref hm, .long x, .long y] [(hm, .inr (12, [.ref Ma, .ref Mn, .int (iZ Mst), .long Mtp, .long Mbt, .ref Ms, .ref My, .ref Mt, .ref Mp, .ref Mx, .int (iZ Mtd), .int (iZ Msz), .int (iZ Mtk), .int (iZ Mfr), .int (iZ Men), .int (iZ Mva), .int (iZ Mfk), .int (iZ Mfp), .int (iZ Mfs), .int (iZ Mse), .int (iZ Mlt), .ref Mo, .int (iZ Mdp), .int (iZ Mct), .ref Mk, .ref Ml, .ref Mb, .ref Mh, .ref Mc, .int (iZ Mdr), .int (iZ Mrs), .ref Mz, .ref Mr, .ref Mq, .int (iZ Mit), .int (iZ Mmk)]))] (fun _ => some (.int (iZ 1))) (fun _ => True) (fun u => [(hm, .inr (12, [.ref Ma, .ref Mn, .int (iZ u.1.2), .long u.2.1.2.1, .long u.2.1.2.2, .ref Ms, .ref My, .ref Mt, .ref Mp, .ref Mx, .int (iZ Mtd), .int (iZ Msz), .int (iZ Mtk), .int (iZ Mfr), .int (iZ Men), .int (iZ Mva), .int (iZ Mfk), .int (iZ Mfp), .int (iZ Mfs), .int (iZ Mse), .int (iZ Mlt), .ref Mo, .int (iZ Mdp), .int (iZ Mct), .ref Mk, .ref Ml, .ref Mb, .ref Mh, .ref Mc, .int (iZ Mdr), .int (iZ Mrs), .ref Mz, .ref Mr, .ref Mq, .int (iZ Mit), .int (iZ Mmk)]))]) := by
  refine MW (by decide) (Nat.le_of_ble_eq_true rfl) (fun p e s m below meth c ls A hx hb hml hr hlocks hin hts hown hKK hP hD hS hA hl => ?_)
  have hK := hKK.1
  have hl : lv_has ls 11 [(0, .ref hm), (1, .long x), (3, .long y)] := hl
  have t0 : (0 : Int64).toInt = 0 := by decide
  refine lv_lload_n hx hb dX12_tellsBy_0 rfl (lv_at hl 1 rfl) ?_
  refine lv_lstore (lv' := [(5, .long x), (0, .ref hm), (1, .long x), (3, .long y)]) hx hb dX12_tellsBy_1 hl (bl rfl) rfl (fun ls hl => ?_)
  refine lv_lload_n hx hb dX12_tellsBy_3 rfl (lv_at hl 3 rfl) ?_
  refine lv_lstore (lv' := [(7, .long y), (5, .long x), (0, .ref hm), (1, .long x), (3, .long y)]) hx hb dX12_tellsBy_4 hl (bl rfl) rfl (fun ls hl => ?_)
  have HL1 : ∀ (fu : Nat) (va : Int64) (vb : Int64) (H : Heap) (locs : List Loc) (ls : Array Slot), ((vb.toInt.natAbs : Int) + 1) < (fu : Int) → (¬ (va).toInt = 0 ∨ ¬ (vb).toInt = 0) → (((vb).toInt.natAbs : Int) ≤ 1000) → va_P D vwCl [(hm, .inr (12, [.ref Ma, .ref Mn, .int (iZ Mst), .long Mtp, .long Mbt, .ref Ms, .ref My, .ref Mt, .ref Mp, .ref Mx, .int (iZ Mtd), .int (iZ Msz), .int (iZ Mtk), .int (iZ Mfr), .int (iZ Men), .int (iZ Mva), .int (iZ Mfk), .int (iZ Mfp), .int (iZ Mfs), .int (iZ Mse), .int (iZ Mlt), .ref Mo, .int (iZ Mdp), .int (iZ Mct), .ref Mk, .ref Ml, .ref Mb, .ref Mh, .ref Mc, .int (iZ Mdr), .int (iZ Mrs), .ref Mz, .ref Mr, .ref Mq, .int (iZ Mit), .int (iZ Mmk)]))] H → va_D A [(hm, .inr (12, [.ref Ma, .ref Mn, .int (iZ Mst), .long Mtp, .long Mbt, .ref Ms, .ref My, .ref Mt, .ref Mp, .ref Mx, .int (iZ Mtd), .int (iZ Msz), .int (iZ Mtk), .int (iZ Mfr), .int (iZ Men), .int (iZ Mva), .int (iZ Mfk), .int (iZ Mfp), .int (iZ Mfs), .int (iZ Mse), .int (iZ Mlt), .ref Mo, .int (iZ Mdp), .int (iZ Mct), .ref Mk, .ref Ml, .ref Mb, .ref Mh, .ref Mc, .int (iZ Mdr), .int (iZ Mrs), .ref Mz, .ref Mr, .ref Mq, .int (iZ Mit), .int (iZ Mmk)]))] → va_S A s.heap H locs → lv_has ls 11 [(7, .long vb), (5, .long va), (0, .ref hm), (1, .long x), (3, .long y)] → W p l e (rj 1 0 0) s m [.ref hm, .long x, .long y].toArray below meth c H locs 0 0 (MQ below (QW (σ := ((Int × Int) × (Int64 × Int64 × Int64) × (Unit) × (Unit))) (fun _ => some (.int (iZ 1))) (fun _ => True) (fun u => [(hm, .inr (12, [.ref Ma, .ref Mn, .int (iZ u.1.2), .long u.2.1.2.1, .long u.2.1.2.2, .ref Ms, .ref My, .ref Mt, .ref Mp, .ref Mx, .int (iZ Mtd), .int (iZ Msz), .int (iZ Mtk), .int (iZ Mfr), .int (iZ Men), .int (iZ Mva), .int (iZ Mfk), .int (iZ Mfp), .int (iZ Mfs), .int (iZ Mse), .int (iZ Mlt), .ref Mo, .int (iZ Mdp), .int (iZ Mct), .ref Mk, .ref Ml, .ref Mb, .ref Mh, .ref Mc, .int (iZ Mdr), .int (iZ Mrs), .ref Mz, .ref Mr, .ref Mq, .int (iZ Mit), .int (iZ Mmk)]))]) D A) [.ref hm, .long x, .long y].toArray s 0 0 A) (F0 m 6 ls []) := by
    intro fu
    induction fu with
    | zero => intro va vb H locs ls hμ1 hva hvm hP hD hS hl; exact absurd hμ1 (by omega)
    | succ fu ih1 =>
      intro va vb H locs ls hμ1 hva hvm hP hD hS hl
      refine lv_lload hx hb dX12_tellsBy_6 (lv_at hl 0 rfl) ?_
      refine lv_lconst (v := 0) hx hb dX12_tellsBy_8 rfl ?_
      refine W.lcmp hx hb dX12_tellsBy_9 ?_
      refine lv_if_eq (tgt := 31) hx hb dX12_tellsBy_10 rfl (fun c_1 => ?_) (fun c_1 => ?_)
      ·
        have c_1 := Int64.toInt_inj.symm.mp ((lg_cmp_eq vb 0).mp c_1)
        refine lv_aload_n hx hb dX12_tellsBy_31 rfl (lv_at hl 2 rfl) ?_
        refine lv_lload_n hx hb dX12_tellsBy_32 rfl (lv_at hl 3 rfl) ?_
        refine lv_lload hx hb dX12_tellsBy_33 (lv_at hl 1 rfl) ?_
        refine lv_ldiv hx hb dX12_tellsBy_35 (fun h9 => absurd (congrArg Int64.toInt h9) (by omega)) ?_
        refine lv_topl (fun y_2 ey_2 => ?_)
        refine va_put (D := D) (ci := 12) (v := .long y_2) (ty := .long) (C := RX12) (T := TX12) (N := 36) hx hb hts iX12 tyX12 tyX12_ok nmX12 hown hK hP hD hS 0 rfl rfl 3 (bl rfl) (hts _ qf_X12_78) (fun _ h => h) rfl (by decide +kernel) rfl rfl (Nat.le_of_ble_eq_true rfl) dX12_tellsBy_36 (fun H locs hP hD hS => ?_)
        refine lv_aload_n hx hb dX12_tellsBy_39 rfl (lv_at hl 2 rfl) ?_
        refine lv_lload_n hx hb dX12_tellsBy_40 rfl (lv_at hl 4 rfl) ?_
        refine lv_lload hx hb dX12_tellsBy_41 (lv_at hl 1 rfl) ?_
        refine lv_ldiv hx hb dX12_tellsBy_43 (fun h9 => absurd (congrArg Int64.toInt h9) (by omega)) ?_
        refine lv_topl (fun y_3 ey_3 => ?_)
        refine va_put (D := D) (ci := 12) (v := .long y_3) (ty := .long) (C := RX12) (T := TX12) (N := 36) hx hb hts iX12 tyX12 tyX12_ok nmX12 hown hK hP hD hS 0 rfl rfl 4 (bl rfl) (hts _ qf_X12_17) (fun _ h => h) rfl (by decide +kernel) rfl rfl (Nat.le_of_ble_eq_true rfl) dX12_tellsBy_44 (fun H locs hP hD hS => ?_)
        refine lv_aload_n hx hb dX12_tellsBy_47 rfl (lv_at hl 2 rfl) ?_
        refine lv_iconst (v := iZ 0) hx hb dX12_tellsBy_48 rfl ?_
        refine CWV (As := [.int (iZ 0)]) (rest := []) (wc := _) (wr := []) hx hb hml hown hts hKK hP hD hS hA (m_is0 l D k hm Ma Mn Ms My Mt Mp Mx Mo Mk Ml Mb Mh Mc Mz Mr Mq Mst Mtd Msz Mtk Mfr Men Mva Mfk Mfp Mfs Mse Mlt Mdp Mct Mdr Mrs Mit Mmk y_2 y_3) ci_X12_is qm_X12_89 ⟨Nat.le_of_ble_eq_true rfl, Nat.le_of_ble_eq_true rfl⟩ ⟨Nat.le_of_ble_eq_true rfl, Nat.le_of_ble_eq_true rfl⟩ [0] [] rfl rfl rfl rfl rfl (dj rfl) 0 rfl rfl rfl hl.1 rfl (Nat.le_of_ble_eq_true rfl) dX12_tellsBy_49 (fun u_4 H locs hφ hP hD hS => ?_)
        refine W.eq (g2 := F0 m 52 ls [.int (iZ 1)]) rfl ?_
        exact EWz hx hb hr hlocks hS ((0, 0), (0, y_2, y_3), (), ()) rfl rfl trivial (hP.sub [0] rfl) (hD.sub [0] rfl rfl) dX12_tellsBy_52
      ·
        have c_1 := mt (fun h9 => (lg_cmp_eq vb 0).mpr (Int64.toInt_inj.symm.mpr h9)) c_1
        refine lv_lload hx hb dX12_tellsBy_13 (lv_at hl 1 rfl) ?_
        refine lv_lload hx hb dX12_tellsBy_15 (lv_at hl 0 rfl) ?_
        refine lv_lrem hx hb dX12_tellsBy_17 (fun h9 => c_1 (congrArg Int64.toInt h9)) ?_
        refine lv_topl (fun y_5 ey_5 => ?_)
        have hr_6 := tm_lt (by omega) ((congrArg Int64.toInt ey_5).trans (lrem_t va vb))
        refine lv_lstore (lv' := [(9, .long y_5), (7, .long vb), (5, .long va), (0, .ref hm), (1, .long x), (3, .long y)]) hx hb dX12_tellsBy_18 hl (bl rfl) rfl (fun ls hl => ?_)
        refine lv_lload hx hb dX12_tellsBy_20 (lv_at hl 1 rfl) ?_
        refine lv_lstore (lv' := [(5, .long vb), (9, .long y_5), (7, .long vb), (0, .ref hm), (1, .long x), (3, .long y)]) hx hb dX12_tellsBy_22 hl (bl rfl) rfl (fun ls hl => ?_)
        refine lv_lload hx hb dX12_tellsBy_24 (lv_at hl 1 rfl) ?_
        refine lv_lstore (lv' := [(7, .long y_5), (5, .long vb), (9, .long y_5), (0, .ref hm), (1, .long x), (3, .long y)]) hx hb dX12_tellsBy_26 hl (bl rfl) rfl (fun ls hl => ?_)
        refine lv_goto (tgt := 6) hx hb dX12_tellsBy_28 rfl ?_
        exact ih1  vb y_5 _ _ _ (by omega) (show ¬ (vb).toInt = 0 ∨ ¬ (y_5).toInt = 0 from (by omega)) (show ((y_5).toInt.natAbs : Int) ≤ 1000 from (by omega)) (hP.sub [0] rfl) (hD.sub [0] rfl rfl) hS (lv_sub hl [0, 1, 3, 4, 5] rfl)
  exact HL1 1003 x y _ _ _ (by omega) (show ¬ (x).toInt = 0 ∨ ¬ (y).toInt = 0 from (by omega)) (show ((y).toInt.natAbs : Int) ≤ 1000 from (by omega)) (hP.sub [0] rfl) (hD.sub [0] rfl rfl) hS (lv_sub hl [0, 1, 2, 3, 4] rfl)
set_option maxHeartbeats 4000000 in
set_option maxRecDepth 100000 in
theorem q_meanPrice (l : Launch) (D : va_G) (k : Nat → ClassId) (hm : Nat) (Ma : Nat) (Mn : Nat) (Ms : Nat) (My : Nat) (Mt : Nat) (Mp : Nat) (Mx : Nat) (Mo : Nat) (Mk : Nat) (Ml : Nat) (Mb : Nat) (Mh : Nat) (Mc : Nat) (Mz : Nat) (Mr : Nat) (Mq : Nat) (Mst : Int) (Mtd : Int) (Msz : Int) (Mtk : Int) (Mfr : Int) (Men : Int) (Mva : Int) (Mfk : Int) (Mfp : Int) (Mfs : Int) (Mse : Int) (Mlt : Int) (Mdp : Int) (Mct : Int) (Mdr : Int) (Mrs : Int) (Mit : Int) (Mmk : Int) (Mtp : Int64) (Mbt : Int64) (Af : Nat → Int32) (x1 : Int) (x2 : Int) (x3 : Int) (hM : M0 Af) (h9x1 : -2147483648 ≤ x1 ∧ x1 < 2147483648) (h9x2 : -2147483648 ≤ x2 ∧ x2 < 2147483648) (h9x3 : -2147483648 ≤ x3 ∧ x3 < 2147483648) : WD (σ := ((Int × Int) × (Int64 × Int64 × Int64) × (Unit) × (Unit))) l yX12_meanPrice cX12_meanPrice 7 (some .boolean) 3 0 0 D k [.ref hm, .int (iZ x1), .int (iZ x2), .int (iZ x3)] [(hm, .inr (12, [.ref Ma, .ref Mn, .int (iZ Mst), .long Mtp, .long Mbt, .ref Ms, .ref My, .ref Mt, .ref Mp, .ref Mx, .int (iZ Mtd), .int (iZ Msz), .int (iZ Mtk), .int (iZ Mfr), .int (iZ Men), .int (iZ Mva), .int (iZ Mfk), .int (iZ Mfp), .int (iZ Mfs), .int (iZ Mse), .int (iZ Mlt), .ref Mo, .int (iZ Mdp), .int (iZ Mct), .ref Mk, .ref Ml, .ref Mb, .ref Mh, .ref Mc, .int (iZ Mdr), .int (iZ Mrs), .ref Mz, .ref Mr, .ref Mq, .int (iZ Mit), .int (iZ Mmk)])), (Ma, .inl (k 1, 5340, .inl Af))] (fun u => some (.int (iZ u.1.1))) (fun u => ((u.1.1 : Int) = 1 ∧ ((0 ≤ x1 ∧ x1 < (gz Af 0)) ∧ (0 ≤ x2 ∧ x2 ≤ 500) ∧ (0 ≤ x3 ∧ x3 ≤ 500) ∧ x2 ≤ x3)) ∨ ((u.1.1 : Int) = 0 ∧ ¬ ((0 ≤ x1 ∧ x1 < (gz Af 0)) ∧ (0 ≤ x2 ∧ x2 ≤ 500) ∧ (0 ≤ x3 ∧ x3 ≤ 500) ∧ x2 ≤ x3))) (fun u => [(hm, .inr (12, [.ref Ma, .ref Mn, .int (iZ u.1.2), .long u.2.1.2.1, .long u.2.1.2.2, .ref Ms, .ref My, .ref Mt, .ref Mp, .ref Mx, .int (iZ Mtd), .int (iZ Msz), .int (iZ Mtk), .int (iZ Mfr), .int (iZ Men), .int (iZ Mva), .int (iZ Mfk), .int (iZ Mfp), .int (iZ Mfs), .int (iZ Mse), .int (iZ Mlt), .ref Mo, .int (iZ Mdp), .int (iZ Mct), .ref Mk, .ref Ml, .ref Mb, .ref Mh, .ref Mc, .int (iZ Mdr), .int (iZ Mrs), .ref Mz, .ref Mr, .ref Mq, .int (iZ Mit), .int (iZ Mmk)])), (Ma, .inl (k 1, 5340, .inl Af))]) := by
  refine MW (by decide) (Nat.le_of_ble_eq_true rfl) (fun p e s m below meth c ls A hx hb hml hr hlocks hin hts hown hKK hP hD hS hA hl => ?_)
  have hK := hKK.1
  have hl : lv_has ls 7 [(0, .ref hm), (1, .int (iZ x1)), (2, .int (iZ x2)), (3, .int (iZ x3))] := hl
  obtain ⟨m0, m1, m3, m4, m5, mF, mO, mS⟩ := id hM
  refine lv_aload_n hx hb dX12_meanPrice_0 rfl (lv_at hl 0 rfl) ?_
  refine lv_iload_n hx hb dX12_meanPrice_1 rfl (lv_at hl 1 rfl) ?_
  refine CPV (As := [.int (iZ x1)]) (rest := []) hx hb hml hown hts hKK hP (m_isRock l D k ([.ref Ma, .ref Mn, .int (iZ Mst), .long Mtp, .long Mbt, .ref Ms, .ref My, .ref Mt, .ref Mp, .ref Mx, .int (iZ Mtd), .int (iZ Msz), .int (iZ Mtk), .int (iZ Mfr), .int (iZ Men), .int (iZ Mva), .int (iZ Mfk), .int (iZ Mfp), .int (iZ Mfs), .int (iZ Mse), .int (iZ Mlt), .ref Mo, .int (iZ Mdp), .int (iZ Mct), .ref Mk, .ref Ml, .ref Mb, .ref Mh, .ref Mc, .int (iZ Mdr), .int (iZ Mrs), .ref Mz, .ref Mr, .ref Mq, .int (iZ Mit), .int (iZ Mmk)]) hm Ma Af x1 rfl hM ⟨by omega, by omega⟩) ci_X12_isRock qm_X12_243 ⟨Nat.le_of_ble_eq_true rfl, Nat.le_of_ble_eq_true rfl⟩ ⟨Nat.le_of_ble_eq_true rfl, Nat.le_of_ble_eq_true rfl⟩ 0 rfl rfl rfl hl.1 rfl (Nat.le_of_ble_eq_true rfl) dX12_meanPrice_2 (fun z_1 hz_1 => ?_)
  rcases hz_1 with ⟨qz_1, hz_1⟩ | ⟨qz_1, hz_1⟩
  ·
    subst qz_1
    refine lv_if_eq (tgt := 27) hx hb dX12_meanPrice_5 rfl (fun c => absurd c (by decide)) (fun _ => ?_)
    refine lv_iload_n hx hb dX12_meanPrice_8 rfl (lv_at hl 2 rfl) ?_
    refine CPS (As := [.int (iZ x2)]) (rest := []) hx hb hml hown hts hKK (hP.sub (ws' := []) [] rfl) (m_isAsked l D k x2 ⟨by omega, by omega⟩) ci_X12_isAsked qm_X12_258 ⟨Nat.le_of_ble_eq_true rfl, Nat.le_of_ble_eq_true rfl⟩ ⟨Nat.le_of_ble_eq_true rfl, Nat.le_of_ble_eq_true rfl⟩ rfl hl.1 rfl (Nat.le_of_ble_eq_true rfl) dX12_meanPrice_9 (fun z_3 hz_3 => ?_)
    rcases hz_3 with ⟨qz_3, hz_3⟩ | ⟨qz_3, hz_3⟩
    ·
      subst qz_3
      refine lv_if_eq (tgt := 27) hx hb dX12_meanPrice_12 rfl (fun c => absurd c (by decide)) (fun _ => ?_)
      refine lv_iload_n hx hb dX12_meanPrice_15 rfl (lv_at hl 3 rfl) ?_
      refine CPS (As := [.int (iZ x3)]) (rest := []) hx hb hml hown hts hKK (hP.sub (ws' := []) [] rfl) (m_isAsked l D k x3 ⟨by omega, by omega⟩) ci_X12_isAsked qm_X12_258 ⟨Nat.le_of_ble_eq_true rfl, Nat.le_of_ble_eq_true rfl⟩ ⟨Nat.le_of_ble_eq_true rfl, Nat.le_of_ble_eq_true rfl⟩ rfl hl.1 rfl (Nat.le_of_ble_eq_true rfl) dX12_meanPrice_16 (fun z_5 hz_5 => ?_)
      rcases hz_5 with ⟨qz_5, hz_5⟩ | ⟨qz_5, hz_5⟩
      ·
        subst qz_5
        refine lv_if_eq (tgt := 27) hx hb dX12_meanPrice_19 rfl (fun c => absurd c (by decide)) (fun _ => ?_)
        refine lv_iload_n hx hb dX12_meanPrice_22 rfl (lv_at hl 3 rfl) ?_
        refine lv_iload_n hx hb dX12_meanPrice_23 rfl (lv_at hl 2 rfl) ?_
        refine lv_icmp_ge (tgt := 33) hx hb dX12_meanPrice_24 rfl (fun c_7 => ?_) (fun c_7 => ?_)
        ·
          have c_7 := (zle (x := iZ x2) (y := iZ x3) rfl rfl ⟨by omega, by omega⟩ ⟨by omega, by omega⟩).mp c_7
          refine lv_lconst (v := 0) hx hb dX12_meanPrice_33 rfl ?_
          refine lv_lstore (lv' := [(4, .long 0), (0, .ref hm), (1, .int (iZ x1)), (2, .int (iZ x2)), (3, .int (iZ x3))]) hx hb dX12_meanPrice_34 hl (bl rfl) rfl (fun ls hl => ?_)
          refine lv_iload_n hx hb dX12_meanPrice_36 rfl (lv_at hl 3 rfl) ?_
          refine lv_istore (lv' := [(6, .int (iZ x2)), (4, .long 0), (0, .ref hm), (1, .int (iZ x1)), (2, .int (iZ x2)), (3, .int (iZ x3))]) hx hb dX12_meanPrice_37 hl (bl rfl) rfl (fun ls hl => ?_)
          have HL39 : ∀ (fu : Nat) (v4_39 : Int64) (v6_39 : Int) (H : Heap) (locs : List Loc) (ls : Array Slot), ((x3) + 2 - v6_39) < (fu : Int) → ((x2 ≤ v6_39 ∧ v6_39 ≤ (x3) + 1)) → va_P D vwCl [(hm, .inr (12, [.ref Ma, .ref Mn, .int (iZ Mst), .long Mtp, .long Mbt, .ref Ms, .ref My, .ref Mt, .ref Mp, .ref Mx, .int (iZ Mtd), .int (iZ Msz), .int (iZ Mtk), .int (iZ Mfr), .int (iZ Men), .int (iZ Mva), .int (iZ Mfk), .int (iZ Mfp), .int (iZ Mfs), .int (iZ Mse), .int (iZ Mlt), .ref Mo, .int (iZ Mdp), .int (iZ Mct), .ref Mk, .ref Ml, .ref Mb, .ref Mh, .ref Mc, .int (iZ Mdr), .int (iZ Mrs), .ref Mz, .ref Mr, .ref Mq, .int (iZ Mit), .int (iZ Mmk)])), (Ma, .inl (k 1, 5340, .inl Af))] H → va_D A [(hm, .inr (12, [.ref Ma, .ref Mn, .int (iZ Mst), .long Mtp, .long Mbt, .ref Ms, .ref My, .ref Mt, .ref Mp, .ref Mx, .int (iZ Mtd), .int (iZ Msz), .int (iZ Mtk), .int (iZ Mfr), .int (iZ Men), .int (iZ Mva), .int (iZ Mfk), .int (iZ Mfp), .int (iZ Mfs), .int (iZ Mse), .int (iZ Mlt), .ref Mo, .int (iZ Mdp), .int (iZ Mct), .ref Mk, .ref Ml, .ref Mb, .ref Mh, .ref Mc, .int (iZ Mdr), .int (iZ Mrs), .ref Mz, .ref Mr, .ref Mq, .int (iZ Mit), .int (iZ Mmk)])), (Ma, .inl (k 1, 5340, .inl Af))] → va_S A s.heap H locs → lv_has ls 7 [(6, .int (iZ v6_39)), (4, .long v4_39), (0, .ref hm), (1, .int (iZ x1)), (2, .int (iZ x2)), (3, .int (iZ x3))] → W p l e (rj 3 0 0) s m [.ref hm, .int (iZ x1), .int (iZ x2), .int (iZ x3)].toArray below meth c H locs 0 0 (MQ below (QW (σ := ((Int × Int) × (Int64 × Int64 × Int64) × (Unit) × (Unit))) (fun u => some (.int (iZ u.1.1))) (fun u => ((u.1.1 : Int) = 1 ∧ ((0 ≤ x1 ∧ x1 < (gz Af 0)) ∧ (0 ≤ x2 ∧ x2 ≤ 500) ∧ (0 ≤ x3 ∧ x3 ≤ 500) ∧ x2 ≤ x3)) ∨ ((u.1.1 : Int) = 0 ∧ ¬ ((0 ≤ x1 ∧ x1 < (gz Af 0)) ∧ (0 ≤ x2 ∧ x2 ≤ 500) ∧ (0 ≤ x3 ∧ x3 ≤ 500) ∧ x2 ≤ x3))) (fun u => [(hm, .inr (12, [.ref Ma, .ref Mn, .int (iZ u.1.2), .long u.2.1.2.1, .long u.2.1.2.2, .ref Ms, .ref My, .ref Mt, .ref Mp, .ref Mx, .int (iZ Mtd), .int (iZ Msz), .int (iZ Mtk), .int (iZ Mfr), .int (iZ Men), .int (iZ Mva), .int (iZ Mfk), .int (iZ Mfp), .int (iZ Mfs), .int (iZ Mse), .int (iZ Mlt), .ref Mo, .int (iZ Mdp), .int (iZ Mct), .ref Mk, .ref Ml, .ref Mb, .ref Mh, .ref Mc, .int (iZ Mdr), .int (iZ Mrs), .ref Mz, .ref Mr, .ref Mq, .int (iZ Mit), .int (iZ Mmk)])), (Ma, .inl (k 1, 5340, .inl Af))]) D A) [.ref hm, .int (iZ x1), .int (iZ x2), .int (iZ x3)].toArray s 0 0 A) (F0 m 39 ls []) := by
            intro fu
            induction fu with
            | zero => intro v4_39 v6_39 H locs ls hμ39 hi39 hP hD hS hl; exact absurd hμ39 (by omega)
            | succ fu ih39 =>
              intro v4_39 v6_39 H locs ls hμ39 hi39 hP hD hS hl
              refine lv_iload hx hb dX12_meanPrice_39 (lv_at hl 0 rfl) ?_
              refine lv_iload_n hx hb dX12_meanPrice_41 rfl (lv_at hl 5 rfl) ?_
              refine lv_icmp_gt (tgt := 64) hx hb dX12_meanPrice_42 rfl (fun c_8 => ?_) (fun c_8 => ?_)
              ·
                have c_8 := (zlt (x := iZ x3) (y := iZ v6_39) rfl rfl ⟨by omega, by omega⟩ ⟨by omega, by omega⟩).mp c_8
                refine lv_aload_n hx hb dX12_meanPrice_64 rfl (lv_at hl 2 rfl) ?_
                refine lv_lload hx hb dX12_meanPrice_65 (lv_at hl 1 rfl) ?_
                refine lv_iload_n hx hb dX12_meanPrice_67 rfl (lv_at hl 5 rfl) ?_
                refine lv_iload_n hx hb dX12_meanPrice_68 rfl (lv_at hl 4 rfl) ?_
                refine lv_isub hx hb dX12_meanPrice_69 ?_
                refine lv_topi (fun x_9 ex_9 => ?_)
                obtain rfl : x_9 = iZ (x3 - x2) := ex_9.trans (iZ_sub x3 x2)
                refine lv_iconst (v := iZ 1) hx hb dX12_meanPrice_70 rfl ?_
                refine lv_iadd hx hb dX12_meanPrice_71 ?_
                refine lv_topi (fun x_10 ex_10 => ?_)
                obtain rfl : x_10 = iZ ((x3 - x2) + 1) := ex_10.trans (iZ_add (x3 - x2) 1)
                refine lv_i2l (v := (iZ ((x3 - x2) + 1)).toInt64) hx hb dX12_meanPrice_72 rfl ?_
                refine CWV (As := [.long v4_39, .long ((iZ ((x3 - x2) + 1)).toInt64)]) (rest := []) (wc := _) (wr := [(Ma, .inl (k 1, 5340, .inl Af))]) hx hb hml hown hts hKK hP hD hS hA (m_tellsBy l D k hm Ma Mn Ms My Mt Mp Mx Mo Mk Ml Mb Mh Mc Mz Mr Mq Mst Mtd Msz Mtk Mfr Men Mva Mfk Mfp Mfs Mse Mlt Mdp Mct Mdr Mrs Mit Mmk Mtp Mbt v4_39 ((iZ ((x3 - x2) + 1)).toInt64) (by have t9 := tI64 (z := ((x3 - x2) + 1)) ⟨by omega, by omega⟩; omega)) ci_X12_tellsBy qm_X12_359 ⟨Nat.le_of_ble_eq_true rfl, Nat.le_of_ble_eq_true rfl⟩ ⟨Nat.le_of_ble_eq_true rfl, Nat.le_of_ble_eq_true rfl⟩ [0] [1] rfl rfl rfl rfl rfl (dj rfl) 0 rfl rfl rfl hl.1 rfl (Nat.le_of_ble_eq_true rfl) dX12_meanPrice_73 (fun u_11 H locs hφ hP hD hS => ?_)
                refine W.eq (g2 := F0 m 76 ls [.int (iZ 1)]) rfl ?_
                exact EWz hx hb hr hlocks hS ((1, u_11.1.2), (0, u_11.2.1.2.1, u_11.2.1.2.2), (), ()) rfl rfl (show ((1 : Int) = 1 ∧ ((0 ≤ x1 ∧ x1 < (gz Af 0)) ∧ (0 ≤ x2 ∧ x2 ≤ 500) ∧ (0 ≤ x3 ∧ x3 ≤ 500) ∧ x2 ≤ x3)) ∨ ((1 : Int) = 0 ∧ ¬ ((0 ≤ x1 ∧ x1 < (gz Af 0)) ∧ (0 ≤ x2 ∧ x2 ≤ 500) ∧ (0 ≤ x3 ∧ x3 ≤ 500) ∧ x2 ≤ x3)) from (by omega)) (hP.sub [1, 0] rfl) (hD.sub [1, 0] rfl rfl) dX12_meanPrice_76
              ·
                have c_8 := mt (zlt (x := iZ x3) (y := iZ v6_39) rfl rfl ⟨by omega, by omega⟩ ⟨by omega, by omega⟩).mpr c_8
                refine lv_lload hx hb dX12_meanPrice_45 (lv_at hl 1 rfl) ?_
                refine lv_aload_n hx hb dX12_meanPrice_47 rfl (lv_at hl 2 rfl) ?_
                refine lv_iload_n hx hb dX12_meanPrice_48 rfl (lv_at hl 3 rfl) ?_
                refine lv_iload hx hb dX12_meanPrice_49 (lv_at hl 0 rfl) ?_
                refine CRV (As := [.int (iZ x1), .int (iZ v6_39)]) (rest := [.long v4_39]) hx hb hml hown hts hKK hP (m_price l D k ([.ref Ma, .ref Mn, .int (iZ Mst), .long Mtp, .long Mbt, .ref Ms, .ref My, .ref Mt, .ref Mp, .ref Mx, .int (iZ Mtd), .int (iZ Msz), .int (iZ Mtk), .int (iZ Mfr), .int (iZ Men), .int (iZ Mva), .int (iZ Mfk), .int (iZ Mfp), .int (iZ Mfs), .int (iZ Mse), .int (iZ Mlt), .ref Mo, .int (iZ Mdp), .int (iZ Mct), .ref Mk, .ref Ml, .ref Mb, .ref Mh, .ref Mc, .int (iZ Mdr), .int (iZ Mrs), .ref Mz, .ref Mr, .ref Mq, .int (iZ Mit), .int (iZ Mmk)]) hm Ma Af x1 v6_39 rfl hM ⟨by omega, by omega⟩ ⟨by omega, by omega⟩) ci_X12_priceOf qm_X12_353 ⟨Nat.le_of_ble_eq_true rfl, Nat.le_of_ble_eq_true rfl⟩ ⟨Nat.le_of_ble_eq_true rfl, Nat.le_of_ble_eq_true rfl⟩ 0 rfl rfl rfl hl.1 rfl (Nat.le_of_ble_eq_true rfl) dX12_meanPrice_51 ?_
                have hp_h_12 := pr_rg (f := (sh Af 10)) (a := x1) (w := v6_39) hM.2.2.2.2.2.1 ⟨by omega, by omega⟩
                refine lv_i2l (v := (iZ (pr (sh Af 10) x1 v6_39)).toInt64) hx hb dX12_meanPrice_54 rfl ?_
                refine lv_ladd hx hb dX12_meanPrice_55 ?_
                refine lv_topl (fun y_13 ey_13 => ?_)
                refine lv_lstore (lv' := [(4, .long y_13), (6, .int (iZ v6_39)), (0, .ref hm), (1, .int (iZ x1)), (2, .int (iZ x2)), (3, .int (iZ x3))]) hx hb dX12_meanPrice_56 hl (bl rfl) rfl (fun ls hl => ?_)
                refine lv_iinc (v := iZ (v6_39 + 1)) (lv' := [(6, .int (iZ (v6_39 + 1))), (4, .long y_13), (0, .ref hm), (1, .int (iZ x1)), (2, .int (iZ x2)), (3, .int (iZ x3))]) hx hb dX12_meanPrice_58 hl (k := 1) rfl (iZ_add v6_39 1) (by decide) rfl (fun ls hl => ?_)
                refine lv_goto (tgt := 39) hx hb dX12_meanPrice_61 rfl ?_
                exact ih39  y_13 (v6_39 + 1) _ _ _ (by omega) (show (x2 ≤ (v6_39 + 1) ∧ (v6_39 + 1) ≤ (x3) + 1) from ⟨by omega, by omega⟩) (hP.sub [0, 1] rfl) (hD.sub [0, 1] rfl rfl) hS (lv_sub hl [0, 1, 2, 3, 4, 5] rfl)
          exact HL39 504 0 x2 _ _ _ (by omega) (show (x2 ≤ x2 ∧ x2 ≤ (x3) + 1) from ⟨by omega, by omega⟩) (hP.sub [0, 1] rfl) (hD.sub [0, 1] rfl rfl) hS (lv_sub hl [0, 1, 2, 3, 4, 5] rfl)
        ·
          have c_7 := mt (zle (x := iZ x2) (y := iZ x3) rfl rfl ⟨by omega, by omega⟩ ⟨by omega, by omega⟩).mpr c_7
          refine lv_aload_n hx hb dX12_meanPrice_27 rfl (lv_at hl 0 rfl) ?_
          refine lv_iconst (v := iZ 1) hx hb dX12_meanPrice_28 rfl ?_
          refine CWV (As := [.int (iZ 1)]) (rest := []) (wc := _) (wr := [(Ma, .inl (k 1, 5340, .inl Af))]) hx hb hml hown hts hKK hP hD hS hA (m_isN l D k hm Ma Mn Ms My Mt Mp Mx Mo Mk Ml Mb Mh Mc Mz Mr Mq Mst Mtd Msz Mtk Mfr Men Mva Mfk Mfp Mfs Mse Mlt Mdp Mct Mdr Mrs Mit Mmk Mtp Mbt 1 ⟨by omega, by omega⟩ (by omega)) ci_X12_is qm_X12_89 ⟨Nat.le_of_ble_eq_true rfl, Nat.le_of_ble_eq_true rfl⟩ ⟨Nat.le_of_ble_eq_true rfl, Nat.le_of_ble_eq_true rfl⟩ [0] [1] rfl rfl rfl rfl rfl (dj rfl) 0 rfl rfl rfl hl.1 rfl (Nat.le_of_ble_eq_true rfl) dX12_meanPrice_29 (fun u_14 H locs hφ hP hD hS => ?_)
          refine W.eq (g2 := F0 m 32 ls [.int (iZ 0)]) rfl ?_
          exact EWz hx hb hr hlocks hS ((0, 1), (0, Mtp, Mbt), (), ()) rfl rfl (show ((0 : Int) = 1 ∧ ((0 ≤ x1 ∧ x1 < (gz Af 0)) ∧ (0 ≤ x2 ∧ x2 ≤ 500) ∧ (0 ≤ x3 ∧ x3 ≤ 500) ∧ x2 ≤ x3)) ∨ ((0 : Int) = 0 ∧ ¬ ((0 ≤ x1 ∧ x1 < (gz Af 0)) ∧ (0 ≤ x2 ∧ x2 ≤ 500) ∧ (0 ≤ x3 ∧ x3 ≤ 500) ∧ x2 ≤ x3)) from (by omega)) (hP.sub [1, 0] rfl) (hD.sub [1, 0] rfl rfl) dX12_meanPrice_32
      ·
        subst qz_5
        refine lv_if_eq (tgt := 27) hx hb dX12_meanPrice_19 rfl (fun _ => ?_) (fun c => absurd (by decide) c)
        refine lv_aload_n hx hb dX12_meanPrice_27 rfl (lv_at hl 0 rfl) ?_
        refine lv_iconst (v := iZ 1) hx hb dX12_meanPrice_28 rfl ?_
        refine CWV (As := [.int (iZ 1)]) (rest := []) (wc := _) (wr := [(Ma, .inl (k 1, 5340, .inl Af))]) hx hb hml hown hts hKK hP hD hS hA (m_isN l D k hm Ma Mn Ms My Mt Mp Mx Mo Mk Ml Mb Mh Mc Mz Mr Mq Mst Mtd Msz Mtk Mfr Men Mva Mfk Mfp Mfs Mse Mlt Mdp Mct Mdr Mrs Mit Mmk Mtp Mbt 1 ⟨by omega, by omega⟩ (by omega)) ci_X12_is qm_X12_89 ⟨Nat.le_of_ble_eq_true rfl, Nat.le_of_ble_eq_true rfl⟩ ⟨Nat.le_of_ble_eq_true rfl, Nat.le_of_ble_eq_true rfl⟩ [0] [1] rfl rfl rfl rfl rfl (dj rfl) 0 rfl rfl rfl hl.1 rfl (Nat.le_of_ble_eq_true rfl) dX12_meanPrice_29 (fun u_16 H locs hφ hP hD hS => ?_)
        refine W.eq (g2 := F0 m 32 ls [.int (iZ 0)]) rfl ?_
        exact EWz hx hb hr hlocks hS ((0, 1), (0, Mtp, Mbt), (), ()) rfl rfl (show ((0 : Int) = 1 ∧ ((0 ≤ x1 ∧ x1 < (gz Af 0)) ∧ (0 ≤ x2 ∧ x2 ≤ 500) ∧ (0 ≤ x3 ∧ x3 ≤ 500) ∧ x2 ≤ x3)) ∨ ((0 : Int) = 0 ∧ ¬ ((0 ≤ x1 ∧ x1 < (gz Af 0)) ∧ (0 ≤ x2 ∧ x2 ≤ 500) ∧ (0 ≤ x3 ∧ x3 ≤ 500) ∧ x2 ≤ x3)) from (by omega)) (hP.sub [1, 0] rfl) (hD.sub [1, 0] rfl rfl) dX12_meanPrice_32
    ·
      subst qz_3
      refine lv_if_eq (tgt := 27) hx hb dX12_meanPrice_12 rfl (fun _ => ?_) (fun c => absurd (by decide) c)
      refine lv_aload_n hx hb dX12_meanPrice_27 rfl (lv_at hl 0 rfl) ?_
      refine lv_iconst (v := iZ 1) hx hb dX12_meanPrice_28 rfl ?_
      refine CWV (As := [.int (iZ 1)]) (rest := []) (wc := _) (wr := [(Ma, .inl (k 1, 5340, .inl Af))]) hx hb hml hown hts hKK hP hD hS hA (m_isN l D k hm Ma Mn Ms My Mt Mp Mx Mo Mk Ml Mb Mh Mc Mz Mr Mq Mst Mtd Msz Mtk Mfr Men Mva Mfk Mfp Mfs Mse Mlt Mdp Mct Mdr Mrs Mit Mmk Mtp Mbt 1 ⟨by omega, by omega⟩ (by omega)) ci_X12_is qm_X12_89 ⟨Nat.le_of_ble_eq_true rfl, Nat.le_of_ble_eq_true rfl⟩ ⟨Nat.le_of_ble_eq_true rfl, Nat.le_of_ble_eq_true rfl⟩ [0] [1] rfl rfl rfl rfl rfl (dj rfl) 0 rfl rfl rfl hl.1 rfl (Nat.le_of_ble_eq_true rfl) dX12_meanPrice_29 (fun u_18 H locs hφ hP hD hS => ?_)
      refine W.eq (g2 := F0 m 32 ls [.int (iZ 0)]) rfl ?_
      exact EWz hx hb hr hlocks hS ((0, 1), (0, Mtp, Mbt), (), ()) rfl rfl (show ((0 : Int) = 1 ∧ ((0 ≤ x1 ∧ x1 < (gz Af 0)) ∧ (0 ≤ x2 ∧ x2 ≤ 500) ∧ (0 ≤ x3 ∧ x3 ≤ 500) ∧ x2 ≤ x3)) ∨ ((0 : Int) = 0 ∧ ¬ ((0 ≤ x1 ∧ x1 < (gz Af 0)) ∧ (0 ≤ x2 ∧ x2 ≤ 500) ∧ (0 ≤ x3 ∧ x3 ≤ 500) ∧ x2 ≤ x3)) from (by omega)) (hP.sub [1, 0] rfl) (hD.sub [1, 0] rfl rfl) dX12_meanPrice_32
  ·
    subst qz_1
    refine lv_if_eq (tgt := 27) hx hb dX12_meanPrice_5 rfl (fun _ => ?_) (fun c => absurd (by decide) c)
    refine lv_aload_n hx hb dX12_meanPrice_27 rfl (lv_at hl 0 rfl) ?_
    refine lv_iconst (v := iZ 1) hx hb dX12_meanPrice_28 rfl ?_
    refine CWV (As := [.int (iZ 1)]) (rest := []) (wc := _) (wr := [(Ma, .inl (k 1, 5340, .inl Af))]) hx hb hml hown hts hKK hP hD hS hA (m_isN l D k hm Ma Mn Ms My Mt Mp Mx Mo Mk Ml Mb Mh Mc Mz Mr Mq Mst Mtd Msz Mtk Mfr Men Mva Mfk Mfp Mfs Mse Mlt Mdp Mct Mdr Mrs Mit Mmk Mtp Mbt 1 ⟨by omega, by omega⟩ (by omega)) ci_X12_is qm_X12_89 ⟨Nat.le_of_ble_eq_true rfl, Nat.le_of_ble_eq_true rfl⟩ ⟨Nat.le_of_ble_eq_true rfl, Nat.le_of_ble_eq_true rfl⟩ [0] [1] rfl rfl rfl rfl rfl (dj rfl) 0 rfl rfl rfl hl.1 rfl (Nat.le_of_ble_eq_true rfl) dX12_meanPrice_29 (fun u_20 H locs hφ hP hD hS => ?_)
    refine W.eq (g2 := F0 m 32 ls [.int (iZ 0)]) rfl ?_
    exact EWz hx hb hr hlocks hS ((0, 1), (0, Mtp, Mbt), (), ()) rfl rfl (show ((0 : Int) = 1 ∧ ((0 ≤ x1 ∧ x1 < (gz Af 0)) ∧ (0 ≤ x2 ∧ x2 ≤ 500) ∧ (0 ≤ x3 ∧ x3 ≤ 500) ∧ x2 ≤ x3)) ∨ ((0 : Int) = 0 ∧ ¬ ((0 ≤ x1 ∧ x1 < (gz Af 0)) ∧ (0 ≤ x2 ∧ x2 ≤ 500) ∧ (0 ≤ x3 ∧ x3 ≤ 500) ∧ x2 ≤ x3)) from (by omega)) (hP.sub [1, 0] rfl) (hD.sub [1, 0] rfl rfl) dX12_meanPrice_32
end

section
theorem qf_X12_47 : Cond.fieldLink RX12 47 "SlowWorldsModel" "known" "[I" ∈ gw := tbt (tb6 (List.mem_of_getElem? (i := 68) rfl)) rfl
theorem qf_X12_50 : Cond.fieldLink RX12 50 "SlowWorldsModel" "tellers" "[I" ∈ gw := tbt (tb6 (List.mem_of_getElem? (i := 69) rfl)) rfl
theorem qf_X12_53 : Cond.fieldLink RX12 53 "SlowWorldsModel" "by" "[I" ∈ gw := tbt (tb6 (List.mem_of_getElem? (i := 70) rfl)) rfl
def fb_X12_lays_0 : List UInt8 := [0x03, 0x3e, 0x03, 0x36, 0x04, 0x15, 0x04, 0x10, 0x06, 0xa2, 0x00, 0x2c, 0x2a, 0xb4, 0x00, 0x2f, 0x15, 0x04, 0x15, 0x04, 0x1b, 0xa0, 0x00, 0x07, 0x1c, 0xa7, 0x00, 0x05, 0x12, 0x58, 0x4f, 0x2a, 0xb4, 0x00, 0x32, 0x15, 0x04, 0x02, 0x4f, 0x2a, 0xb4, 0x00, 0x35, 0x15, 0x04, 0x03, 0x4f, 0x84, 0x04, 0x01, 0xa7, 0xff, 0xd3, 0x02, 0x36, 0x04, 0x03, 0x36, 0x05, 0x15, 0x05, 0x2a, 0xb4, 0x00]
theorem fl_X12_lays_0 {p j : Nat} {b : UInt8} (e : p = 0 + j) (h : fb_X12_lays_0[j]? = some b) : cX12_lays.data.toList[p]? = some b := fq_l (n := 64) (show (cX12_lays.data.toList.drop 0).take 64 = fb_X12_lays_0 by decide +kernel) e h
theorem dX12_lays_0 : decode cX12_lays 0 = .ok (.iconst 0, 1) := fq1_3 (fl_X12_lays_0 (j := 0) rfl rfl)
theorem dX12_lays_1 : decode cX12_lays 1 = .ok (.istore_n 3, 1) := fq1_62 (fl_X12_lays_0 (j := 1) rfl rfl)
theorem dX12_lays_2 : decode cX12_lays 2 = .ok (.iconst 0, 1) := fq1_3 (fl_X12_lays_0 (j := 2) rfl rfl)
theorem dX12_lays_3 : decode cX12_lays 3 = .ok (.istore 4, 2) := fq2_54 (fl_X12_lays_0 (j := 3) rfl rfl) (fl_X12_lays_0 (j := 4) rfl rfl) rfl
theorem dX12_lays_5 : decode cX12_lays 5 = .ok (.iload 4, 2) := fq2_21 (fl_X12_lays_0 (j := 5) rfl rfl) (fl_X12_lays_0 (j := 6) rfl rfl) rfl
theorem dX12_lays_7 : decode cX12_lays 7 = .ok (.bipush 6, 2) := fq2_16 (fl_X12_lays_0 (j := 7) rfl rfl) (fl_X12_lays_0 (j := 8) rfl rfl) (s1p rfl (bl rfl))
theorem dX12_lays_9 : decode cX12_lays 9 = .ok (.if_icmp .ge 44, 3) := fq3_162 (fl_X12_lays_0 (j := 9) rfl rfl) (fl_X12_lays_0 (j := 10) rfl rfl) (fl_X12_lays_0 (j := 11) rfl rfl) (s2p rfl (bl rfl))
theorem dX12_lays_12 : decode cX12_lays 12 = .ok (.aload_n 0, 1) := fq1_42 (fl_X12_lays_0 (j := 12) rfl rfl)
theorem dX12_lays_13 : decode cX12_lays 13 = .ok (.getfield 47, 3) := fq3_180 (fl_X12_lays_0 (j := 13) rfl rfl) (fl_X12_lays_0 (j := 14) rfl rfl) (fl_X12_lays_0 (j := 15) rfl rfl) rfl
theorem dX12_lays_16 : decode cX12_lays 16 = .ok (.iload 4, 2) := fq2_21 (fl_X12_lays_0 (j := 16) rfl rfl) (fl_X12_lays_0 (j := 17) rfl rfl) rfl
theorem dX12_lays_18 : decode cX12_lays 18 = .ok (.iload 4, 2) := fq2_21 (fl_X12_lays_0 (j := 18) rfl rfl) (fl_X12_lays_0 (j := 19) rfl rfl) rfl
theorem dX12_lays_20 : decode cX12_lays 20 = .ok (.iload_n 1, 1) := fq1_27 (fl_X12_lays_0 (j := 20) rfl rfl)
theorem dX12_lays_21 : decode cX12_lays 21 = .ok (.if_icmp .ne 7, 3) := fq3_160 (fl_X12_lays_0 (j := 21) rfl rfl) (fl_X12_lays_0 (j := 22) rfl rfl) (fl_X12_lays_0 (j := 23) rfl rfl) (s2p rfl (bl rfl))
theorem dX12_lays_24 : decode cX12_lays 24 = .ok (.iload_n 2, 1) := fq1_28 (fl_X12_lays_0 (j := 24) rfl rfl)
theorem dX12_lays_25 : decode cX12_lays 25 = .ok (.goto 5, 3) := fq3_167 (fl_X12_lays_0 (j := 25) rfl rfl) (fl_X12_lays_0 (j := 26) rfl rfl) (fl_X12_lays_0 (j := 27) rfl rfl) (s2p rfl (bl rfl))
theorem dX12_lays_28 : decode cX12_lays 28 = .ok (.ldc 88, 2) := fq2_18 (fl_X12_lays_0 (j := 28) rfl rfl) (fl_X12_lays_0 (j := 29) rfl rfl) rfl
theorem dX12_lays_30 : decode cX12_lays 30 = .ok (.iastore, 1) := fq1_79 (fl_X12_lays_0 (j := 30) rfl rfl)
theorem dX12_lays_31 : decode cX12_lays 31 = .ok (.aload_n 0, 1) := fq1_42 (fl_X12_lays_0 (j := 31) rfl rfl)
theorem dX12_lays_32 : decode cX12_lays 32 = .ok (.getfield 50, 3) := fq3_180 (fl_X12_lays_0 (j := 32) rfl rfl) (fl_X12_lays_0 (j := 33) rfl rfl) (fl_X12_lays_0 (j := 34) rfl rfl) rfl
theorem dX12_lays_35 : decode cX12_lays 35 = .ok (.iload 4, 2) := fq2_21 (fl_X12_lays_0 (j := 35) rfl rfl) (fl_X12_lays_0 (j := 36) rfl rfl) rfl
theorem dX12_lays_37 : decode cX12_lays 37 = .ok (.iconst (-1), 1) := fq1_2 (fl_X12_lays_0 (j := 37) rfl rfl)
theorem dX12_lays_38 : decode cX12_lays 38 = .ok (.iastore, 1) := fq1_79 (fl_X12_lays_0 (j := 38) rfl rfl)
theorem dX12_lays_39 : decode cX12_lays 39 = .ok (.aload_n 0, 1) := fq1_42 (fl_X12_lays_0 (j := 39) rfl rfl)
theorem dX12_lays_40 : decode cX12_lays 40 = .ok (.getfield 53, 3) := fq3_180 (fl_X12_lays_0 (j := 40) rfl rfl) (fl_X12_lays_0 (j := 41) rfl rfl) (fl_X12_lays_0 (j := 42) rfl rfl) rfl
theorem dX12_lays_43 : decode cX12_lays 43 = .ok (.iload 4, 2) := fq2_21 (fl_X12_lays_0 (j := 43) rfl rfl) (fl_X12_lays_0 (j := 44) rfl rfl) rfl
theorem dX12_lays_45 : decode cX12_lays 45 = .ok (.iconst 0, 1) := fq1_3 (fl_X12_lays_0 (j := 45) rfl rfl)
theorem dX12_lays_46 : decode cX12_lays 46 = .ok (.iastore, 1) := fq1_79 (fl_X12_lays_0 (j := 46) rfl rfl)
theorem dX12_lays_47 : decode cX12_lays 47 = .ok (.iinc 4 1, 3) := fq3_132 (fl_X12_lays_0 (j := 47) rfl rfl) (fl_X12_lays_0 (j := 48) rfl rfl) (fl_X12_lays_0 (j := 49) rfl rfl) rfl (s1p rfl (bl rfl))
theorem dX12_lays_50 : decode cX12_lays 50 = .ok (.goto (-45), 3) := fq3_167 (fl_X12_lays_0 (j := 50) rfl rfl) (fl_X12_lays_0 (j := 51) rfl rfl) (fl_X12_lays_0 (j := 52) rfl rfl) (by decide)
theorem dX12_lays_53 : decode cX12_lays 53 = .ok (.iconst (-1), 1) := fq1_2 (fl_X12_lays_0 (j := 53) rfl rfl)
theorem dX12_lays_54 : decode cX12_lays 54 = .ok (.istore 4, 2) := fq2_54 (fl_X12_lays_0 (j := 54) rfl rfl) (fl_X12_lays_0 (j := 55) rfl rfl) rfl
theorem dX12_lays_56 : decode cX12_lays 56 = .ok (.iconst 0, 1) := fq1_3 (fl_X12_lays_0 (j := 56) rfl rfl)
theorem dX12_lays_57 : decode cX12_lays 57 = .ok (.istore 5, 2) := fq2_54 (fl_X12_lays_0 (j := 57) rfl rfl) (fl_X12_lays_0 (j := 58) rfl rfl) rfl
theorem dX12_lays_59 : decode cX12_lays 59 = .ok (.iload 5, 2) := fq2_21 (fl_X12_lays_0 (j := 59) rfl rfl) (fl_X12_lays_0 (j := 60) rfl rfl) rfl
theorem dX12_lays_61 : decode cX12_lays 61 = .ok (.aload_n 0, 1) := fq1_42 (fl_X12_lays_0 (j := 61) rfl rfl)
def fb_X12_lays_1 : List UInt8 := [0x07, 0x03, 0x2e, 0xa2, 0x00, 0x39, 0x1d, 0x15, 0x05, 0x7a, 0x04, 0x7e, 0x9a, 0x00, 0x2a, 0x2a, 0xb4, 0x00, 0x2f, 0x15, 0x05, 0x2e, 0x12, 0x58, 0xa2, 0x00, 0x1e, 0x15, 0x04, 0x02, 0x9f, 0x00, 0x14, 0x2a, 0xb4, 0x00, 0x2f, 0x15, 0x05, 0x2e, 0x2a, 0xb4, 0x00, 0x2f, 0x15, 0x04, 0x2e, 0xa2, 0x00, 0x07, 0x15, 0x05, 0x36, 0x04, 0x84, 0x05, 0x01, 0xa7, 0xff, 0xc2, 0x15, 0x04, 0x02, 0xa0]
theorem fl_X12_lays_1 {p j : Nat} {b : UInt8} (e : p = 64 + j) (h : fb_X12_lays_1[j]? = some b) : cX12_lays.data.toList[p]? = some b := fq_l (n := 64) (show (cX12_lays.data.toList.drop 64).take 64 = fb_X12_lays_1 by decide +kernel) e h
theorem dX12_lays_62 : decode cX12_lays 62 = .ok (.getfield 7, 3) := fq3_180 (fl_X12_lays_0 (j := 62) rfl rfl) (fl_X12_lays_0 (j := 63) rfl rfl) (fl_X12_lays_1 (j := 0) rfl rfl) rfl
theorem dX12_lays_65 : decode cX12_lays 65 = .ok (.iconst 0, 1) := fq1_3 (fl_X12_lays_1 (j := 1) rfl rfl)
theorem dX12_lays_66 : decode cX12_lays 66 = .ok (.iaload, 1) := fq1_46 (fl_X12_lays_1 (j := 2) rfl rfl)
theorem dX12_lays_67 : decode cX12_lays 67 = .ok (.if_icmp .ge 57, 3) := fq3_162 (fl_X12_lays_1 (j := 3) rfl rfl) (fl_X12_lays_1 (j := 4) rfl rfl) (fl_X12_lays_1 (j := 5) rfl rfl) (s2p rfl (bl rfl))
theorem dX12_lays_70 : decode cX12_lays 70 = .ok (.iload_n 3, 1) := fq1_29 (fl_X12_lays_1 (j := 6) rfl rfl)
theorem dX12_lays_71 : decode cX12_lays 71 = .ok (.iload 5, 2) := fq2_21 (fl_X12_lays_1 (j := 7) rfl rfl) (fl_X12_lays_1 (j := 8) rfl rfl) rfl
theorem dX12_lays_73 : decode cX12_lays 73 = .ok (.ishr, 1) := fq1_122 (fl_X12_lays_1 (j := 9) rfl rfl)
theorem dX12_lays_74 : decode cX12_lays 74 = .ok (.iconst 1, 1) := fq1_4 (fl_X12_lays_1 (j := 10) rfl rfl)
theorem dX12_lays_75 : decode cX12_lays 75 = .ok (.iand, 1) := fq1_126 (fl_X12_lays_1 (j := 11) rfl rfl)
theorem dX12_lays_76 : decode cX12_lays 76 = .ok (.ifCond .ne 42, 3) := fq3_154 (fl_X12_lays_1 (j := 12) rfl rfl) (fl_X12_lays_1 (j := 13) rfl rfl) (fl_X12_lays_1 (j := 14) rfl rfl) (s2p rfl (bl rfl))
theorem dX12_lays_79 : decode cX12_lays 79 = .ok (.aload_n 0, 1) := fq1_42 (fl_X12_lays_1 (j := 15) rfl rfl)
theorem dX12_lays_80 : decode cX12_lays 80 = .ok (.getfield 47, 3) := fq3_180 (fl_X12_lays_1 (j := 16) rfl rfl) (fl_X12_lays_1 (j := 17) rfl rfl) (fl_X12_lays_1 (j := 18) rfl rfl) rfl
theorem dX12_lays_83 : decode cX12_lays 83 = .ok (.iload 5, 2) := fq2_21 (fl_X12_lays_1 (j := 19) rfl rfl) (fl_X12_lays_1 (j := 20) rfl rfl) rfl
theorem dX12_lays_85 : decode cX12_lays 85 = .ok (.iaload, 1) := fq1_46 (fl_X12_lays_1 (j := 21) rfl rfl)
theorem dX12_lays_86 : decode cX12_lays 86 = .ok (.ldc 88, 2) := fq2_18 (fl_X12_lays_1 (j := 22) rfl rfl) (fl_X12_lays_1 (j := 23) rfl rfl) rfl
theorem dX12_lays_88 : decode cX12_lays 88 = .ok (.if_icmp .ge 30, 3) := fq3_162 (fl_X12_lays_1 (j := 24) rfl rfl) (fl_X12_lays_1 (j := 25) rfl rfl) (fl_X12_lays_1 (j := 26) rfl rfl) (s2p rfl (bl rfl))
theorem dX12_lays_91 : decode cX12_lays 91 = .ok (.iload 4, 2) := fq2_21 (fl_X12_lays_1 (j := 27) rfl rfl) (fl_X12_lays_1 (j := 28) rfl rfl) rfl
theorem dX12_lays_93 : decode cX12_lays 93 = .ok (.iconst (-1), 1) := fq1_2 (fl_X12_lays_1 (j := 29) rfl rfl)
theorem dX12_lays_94 : decode cX12_lays 94 = .ok (.if_icmp .eq 20, 3) := fq3_159 (fl_X12_lays_1 (j := 30) rfl rfl) (fl_X12_lays_1 (j := 31) rfl rfl) (fl_X12_lays_1 (j := 32) rfl rfl) (s2p rfl (bl rfl))
theorem dX12_lays_97 : decode cX12_lays 97 = .ok (.aload_n 0, 1) := fq1_42 (fl_X12_lays_1 (j := 33) rfl rfl)
theorem dX12_lays_98 : decode cX12_lays 98 = .ok (.getfield 47, 3) := fq3_180 (fl_X12_lays_1 (j := 34) rfl rfl) (fl_X12_lays_1 (j := 35) rfl rfl) (fl_X12_lays_1 (j := 36) rfl rfl) rfl
theorem dX12_lays_101 : decode cX12_lays 101 = .ok (.iload 5, 2) := fq2_21 (fl_X12_lays_1 (j := 37) rfl rfl) (fl_X12_lays_1 (j := 38) rfl rfl) rfl
theorem dX12_lays_103 : decode cX12_lays 103 = .ok (.iaload, 1) := fq1_46 (fl_X12_lays_1 (j := 39) rfl rfl)
theorem dX12_lays_104 : decode cX12_lays 104 = .ok (.aload_n 0, 1) := fq1_42 (fl_X12_lays_1 (j := 40) rfl rfl)
theorem dX12_lays_105 : decode cX12_lays 105 = .ok (.getfield 47, 3) := fq3_180 (fl_X12_lays_1 (j := 41) rfl rfl) (fl_X12_lays_1 (j := 42) rfl rfl) (fl_X12_lays_1 (j := 43) rfl rfl) rfl
theorem dX12_lays_108 : decode cX12_lays 108 = .ok (.iload 4, 2) := fq2_21 (fl_X12_lays_1 (j := 44) rfl rfl) (fl_X12_lays_1 (j := 45) rfl rfl) rfl
theorem dX12_lays_110 : decode cX12_lays 110 = .ok (.iaload, 1) := fq1_46 (fl_X12_lays_1 (j := 46) rfl rfl)
theorem dX12_lays_111 : decode cX12_lays 111 = .ok (.if_icmp .ge 7, 3) := fq3_162 (fl_X12_lays_1 (j := 47) rfl rfl) (fl_X12_lays_1 (j := 48) rfl rfl) (fl_X12_lays_1 (j := 49) rfl rfl) (s2p rfl (bl rfl))
theorem dX12_lays_114 : decode cX12_lays 114 = .ok (.iload 5, 2) := fq2_21 (fl_X12_lays_1 (j := 50) rfl rfl) (fl_X12_lays_1 (j := 51) rfl rfl) rfl
theorem dX12_lays_116 : decode cX12_lays 116 = .ok (.istore 4, 2) := fq2_54 (fl_X12_lays_1 (j := 52) rfl rfl) (fl_X12_lays_1 (j := 53) rfl rfl) rfl
theorem dX12_lays_118 : decode cX12_lays 118 = .ok (.iinc 5 1, 3) := fq3_132 (fl_X12_lays_1 (j := 54) rfl rfl) (fl_X12_lays_1 (j := 55) rfl rfl) (fl_X12_lays_1 (j := 56) rfl rfl) rfl (s1p rfl (bl rfl))
theorem dX12_lays_121 : decode cX12_lays 121 = .ok (.goto (-62), 3) := fq3_167 (fl_X12_lays_1 (j := 57) rfl rfl) (fl_X12_lays_1 (j := 58) rfl rfl) (fl_X12_lays_1 (j := 59) rfl rfl) (by decide)
theorem dX12_lays_124 : decode cX12_lays 124 = .ok (.iload 4, 2) := fq2_21 (fl_X12_lays_1 (j := 60) rfl rfl) (fl_X12_lays_1 (j := 61) rfl rfl) rfl
theorem dX12_lays_126 : decode cX12_lays 126 = .ok (.iconst (-1), 1) := fq1_2 (fl_X12_lays_1 (j := 62) rfl rfl)
def fb_X12_lays_2 : List UInt8 := [0x00, 0x04, 0xb1, 0x1d, 0x04, 0x15, 0x04, 0x78, 0x80, 0x3e, 0x03, 0x36, 0x05, 0x15, 0x05, 0x2a, 0xb4, 0x00, 0x07, 0x03, 0x2e, 0xa2, 0x00, 0x74, 0x2a, 0x15, 0x04, 0x2a, 0xb4, 0x00, 0x2f, 0x15, 0x04, 0x2e, 0x15, 0x05, 0xb6, 0x01, 0x18, 0x36, 0x06, 0x1d, 0x15, 0x05, 0x7a, 0x04, 0x7e, 0x04, 0x9f, 0x00, 0x53, 0x15, 0x06, 0x2a, 0xb4, 0x00, 0x2f, 0x15, 0x05, 0x2e, 0xa3, 0x00, 0x47, 0x15]
theorem fl_X12_lays_2 {p j : Nat} {b : UInt8} (e : p = 128 + j) (h : fb_X12_lays_2[j]? = some b) : cX12_lays.data.toList[p]? = some b := fq_l (n := 64) (show (cX12_lays.data.toList.drop 128).take 64 = fb_X12_lays_2 by decide +kernel) e h
theorem dX12_lays_127 : decode cX12_lays 127 = .ok (.if_icmp .ne 4, 3) := fq3_160 (fl_X12_lays_1 (j := 63) rfl rfl) (fl_X12_lays_2 (j := 0) rfl rfl) (fl_X12_lays_2 (j := 1) rfl rfl) (s2p rfl (bl rfl))
theorem dX12_lays_130 : decode cX12_lays 130 = .ok (.return_, 1) := fq1_177 (fl_X12_lays_2 (j := 2) rfl rfl)
theorem dX12_lays_131 : decode cX12_lays 131 = .ok (.iload_n 3, 1) := fq1_29 (fl_X12_lays_2 (j := 3) rfl rfl)
theorem dX12_lays_132 : decode cX12_lays 132 = .ok (.iconst 1, 1) := fq1_4 (fl_X12_lays_2 (j := 4) rfl rfl)
theorem dX12_lays_133 : decode cX12_lays 133 = .ok (.iload 4, 2) := fq2_21 (fl_X12_lays_2 (j := 5) rfl rfl) (fl_X12_lays_2 (j := 6) rfl rfl) rfl
theorem dX12_lays_135 : decode cX12_lays 135 = .ok (.ishl, 1) := fq1_120 (fl_X12_lays_2 (j := 7) rfl rfl)
theorem dX12_lays_136 : decode cX12_lays 136 = .ok (.ior, 1) := fq1_128 (fl_X12_lays_2 (j := 8) rfl rfl)
theorem dX12_lays_137 : decode cX12_lays 137 = .ok (.istore_n 3, 1) := fq1_62 (fl_X12_lays_2 (j := 9) rfl rfl)
theorem dX12_lays_138 : decode cX12_lays 138 = .ok (.iconst 0, 1) := fq1_3 (fl_X12_lays_2 (j := 10) rfl rfl)
theorem dX12_lays_139 : decode cX12_lays 139 = .ok (.istore 5, 2) := fq2_54 (fl_X12_lays_2 (j := 11) rfl rfl) (fl_X12_lays_2 (j := 12) rfl rfl) rfl
theorem dX12_lays_141 : decode cX12_lays 141 = .ok (.iload 5, 2) := fq2_21 (fl_X12_lays_2 (j := 13) rfl rfl) (fl_X12_lays_2 (j := 14) rfl rfl) rfl
theorem dX12_lays_143 : decode cX12_lays 143 = .ok (.aload_n 0, 1) := fq1_42 (fl_X12_lays_2 (j := 15) rfl rfl)
theorem dX12_lays_144 : decode cX12_lays 144 = .ok (.getfield 7, 3) := fq3_180 (fl_X12_lays_2 (j := 16) rfl rfl) (fl_X12_lays_2 (j := 17) rfl rfl) (fl_X12_lays_2 (j := 18) rfl rfl) rfl
theorem dX12_lays_147 : decode cX12_lays 147 = .ok (.iconst 0, 1) := fq1_3 (fl_X12_lays_2 (j := 19) rfl rfl)
theorem dX12_lays_148 : decode cX12_lays 148 = .ok (.iaload, 1) := fq1_46 (fl_X12_lays_2 (j := 20) rfl rfl)
theorem dX12_lays_149 : decode cX12_lays 149 = .ok (.if_icmp .ge 116, 3) := fq3_162 (fl_X12_lays_2 (j := 21) rfl rfl) (fl_X12_lays_2 (j := 22) rfl rfl) (fl_X12_lays_2 (j := 23) rfl rfl) (s2p rfl (bl rfl))
theorem dX12_lays_152 : decode cX12_lays 152 = .ok (.aload_n 0, 1) := fq1_42 (fl_X12_lays_2 (j := 24) rfl rfl)
theorem dX12_lays_153 : decode cX12_lays 153 = .ok (.iload 4, 2) := fq2_21 (fl_X12_lays_2 (j := 25) rfl rfl) (fl_X12_lays_2 (j := 26) rfl rfl) rfl
theorem dX12_lays_155 : decode cX12_lays 155 = .ok (.aload_n 0, 1) := fq1_42 (fl_X12_lays_2 (j := 27) rfl rfl)
theorem dX12_lays_156 : decode cX12_lays 156 = .ok (.getfield 47, 3) := fq3_180 (fl_X12_lays_2 (j := 28) rfl rfl) (fl_X12_lays_2 (j := 29) rfl rfl) (fl_X12_lays_2 (j := 30) rfl rfl) rfl
theorem dX12_lays_159 : decode cX12_lays 159 = .ok (.iload 4, 2) := fq2_21 (fl_X12_lays_2 (j := 31) rfl rfl) (fl_X12_lays_2 (j := 32) rfl rfl) rfl
theorem dX12_lays_161 : decode cX12_lays 161 = .ok (.iaload, 1) := fq1_46 (fl_X12_lays_2 (j := 33) rfl rfl)
theorem dX12_lays_162 : decode cX12_lays 162 = .ok (.iload 5, 2) := fq2_21 (fl_X12_lays_2 (j := 34) rfl rfl) (fl_X12_lays_2 (j := 35) rfl rfl) rfl
theorem dX12_lays_164 : decode cX12_lays 164 = .ok (.invokevirtual 280, 3) := fq3_182 (fl_X12_lays_2 (j := 36) rfl rfl) (fl_X12_lays_2 (j := 37) rfl rfl) (fl_X12_lays_2 (j := 38) rfl rfl) rfl
theorem dX12_lays_167 : decode cX12_lays 167 = .ok (.istore 6, 2) := fq2_54 (fl_X12_lays_2 (j := 39) rfl rfl) (fl_X12_lays_2 (j := 40) rfl rfl) rfl
theorem dX12_lays_169 : decode cX12_lays 169 = .ok (.iload_n 3, 1) := fq1_29 (fl_X12_lays_2 (j := 41) rfl rfl)
theorem dX12_lays_170 : decode cX12_lays 170 = .ok (.iload 5, 2) := fq2_21 (fl_X12_lays_2 (j := 42) rfl rfl) (fl_X12_lays_2 (j := 43) rfl rfl) rfl
theorem dX12_lays_172 : decode cX12_lays 172 = .ok (.ishr, 1) := fq1_122 (fl_X12_lays_2 (j := 44) rfl rfl)
theorem dX12_lays_173 : decode cX12_lays 173 = .ok (.iconst 1, 1) := fq1_4 (fl_X12_lays_2 (j := 45) rfl rfl)
theorem dX12_lays_174 : decode cX12_lays 174 = .ok (.iand, 1) := fq1_126 (fl_X12_lays_2 (j := 46) rfl rfl)
theorem dX12_lays_175 : decode cX12_lays 175 = .ok (.iconst 1, 1) := fq1_4 (fl_X12_lays_2 (j := 47) rfl rfl)
theorem dX12_lays_176 : decode cX12_lays 176 = .ok (.if_icmp .eq 83, 3) := fq3_159 (fl_X12_lays_2 (j := 48) rfl rfl) (fl_X12_lays_2 (j := 49) rfl rfl) (fl_X12_lays_2 (j := 50) rfl rfl) (s2p rfl (bl rfl))
theorem dX12_lays_179 : decode cX12_lays 179 = .ok (.iload 6, 2) := fq2_21 (fl_X12_lays_2 (j := 51) rfl rfl) (fl_X12_lays_2 (j := 52) rfl rfl) rfl
theorem dX12_lays_181 : decode cX12_lays 181 = .ok (.aload_n 0, 1) := fq1_42 (fl_X12_lays_2 (j := 53) rfl rfl)
theorem dX12_lays_182 : decode cX12_lays 182 = .ok (.getfield 47, 3) := fq3_180 (fl_X12_lays_2 (j := 54) rfl rfl) (fl_X12_lays_2 (j := 55) rfl rfl) (fl_X12_lays_2 (j := 56) rfl rfl) rfl
theorem dX12_lays_185 : decode cX12_lays 185 = .ok (.iload 5, 2) := fq2_21 (fl_X12_lays_2 (j := 57) rfl rfl) (fl_X12_lays_2 (j := 58) rfl rfl) rfl
theorem dX12_lays_187 : decode cX12_lays 187 = .ok (.iaload, 1) := fq1_46 (fl_X12_lays_2 (j := 59) rfl rfl)
theorem dX12_lays_188 : decode cX12_lays 188 = .ok (.if_icmp .gt 71, 3) := fq3_163 (fl_X12_lays_2 (j := 60) rfl rfl) (fl_X12_lays_2 (j := 61) rfl rfl) (fl_X12_lays_2 (j := 62) rfl rfl) (s2p rfl (bl rfl))
def fb_X12_lays_3 : List UInt8 := [0x06, 0x12, 0x58, 0x9f, 0x00, 0x40, 0x15, 0x06, 0x2a, 0xb4, 0x00, 0x2f, 0x15, 0x05, 0x2e, 0xa0, 0x00, 0x12, 0x15, 0x04, 0x2a, 0xb4, 0x00, 0x32, 0x15, 0x05, 0x2e, 0xa4, 0x00, 0x06, 0xa7, 0x00, 0x25, 0x2a, 0xb4, 0x00, 0x2f, 0x15, 0x05, 0x15, 0x06, 0x4f, 0x2a, 0xb4, 0x00, 0x32, 0x15, 0x05, 0x15, 0x04, 0x4f, 0x2a, 0xb4, 0x00, 0x35, 0x15, 0x05, 0x2a, 0xb4, 0x00, 0x35, 0x15, 0x04, 0x2e]
theorem fl_X12_lays_3 {p j : Nat} {b : UInt8} (e : p = 192 + j) (h : fb_X12_lays_3[j]? = some b) : cX12_lays.data.toList[p]? = some b := fq_l (n := 64) (show (cX12_lays.data.toList.drop 192).take 64 = fb_X12_lays_3 by decide +kernel) e h
theorem dX12_lays_191 : decode cX12_lays 191 = .ok (.iload 6, 2) := fq2_21 (fl_X12_lays_2 (j := 63) rfl rfl) (fl_X12_lays_3 (j := 0) rfl rfl) rfl
theorem dX12_lays_193 : decode cX12_lays 193 = .ok (.ldc 88, 2) := fq2_18 (fl_X12_lays_3 (j := 1) rfl rfl) (fl_X12_lays_3 (j := 2) rfl rfl) rfl
theorem dX12_lays_195 : decode cX12_lays 195 = .ok (.if_icmp .eq 64, 3) := fq3_159 (fl_X12_lays_3 (j := 3) rfl rfl) (fl_X12_lays_3 (j := 4) rfl rfl) (fl_X12_lays_3 (j := 5) rfl rfl) (s2p rfl (bl rfl))
theorem dX12_lays_198 : decode cX12_lays 198 = .ok (.iload 6, 2) := fq2_21 (fl_X12_lays_3 (j := 6) rfl rfl) (fl_X12_lays_3 (j := 7) rfl rfl) rfl
theorem dX12_lays_200 : decode cX12_lays 200 = .ok (.aload_n 0, 1) := fq1_42 (fl_X12_lays_3 (j := 8) rfl rfl)
theorem dX12_lays_201 : decode cX12_lays 201 = .ok (.getfield 47, 3) := fq3_180 (fl_X12_lays_3 (j := 9) rfl rfl) (fl_X12_lays_3 (j := 10) rfl rfl) (fl_X12_lays_3 (j := 11) rfl rfl) rfl
theorem dX12_lays_204 : decode cX12_lays 204 = .ok (.iload 5, 2) := fq2_21 (fl_X12_lays_3 (j := 12) rfl rfl) (fl_X12_lays_3 (j := 13) rfl rfl) rfl
theorem dX12_lays_206 : decode cX12_lays 206 = .ok (.iaload, 1) := fq1_46 (fl_X12_lays_3 (j := 14) rfl rfl)
theorem dX12_lays_207 : decode cX12_lays 207 = .ok (.if_icmp .ne 18, 3) := fq3_160 (fl_X12_lays_3 (j := 15) rfl rfl) (fl_X12_lays_3 (j := 16) rfl rfl) (fl_X12_lays_3 (j := 17) rfl rfl) (s2p rfl (bl rfl))
theorem dX12_lays_210 : decode cX12_lays 210 = .ok (.iload 4, 2) := fq2_21 (fl_X12_lays_3 (j := 18) rfl rfl) (fl_X12_lays_3 (j := 19) rfl rfl) rfl
theorem dX12_lays_212 : decode cX12_lays 212 = .ok (.aload_n 0, 1) := fq1_42 (fl_X12_lays_3 (j := 20) rfl rfl)
theorem dX12_lays_213 : decode cX12_lays 213 = .ok (.getfield 50, 3) := fq3_180 (fl_X12_lays_3 (j := 21) rfl rfl) (fl_X12_lays_3 (j := 22) rfl rfl) (fl_X12_lays_3 (j := 23) rfl rfl) rfl
theorem dX12_lays_216 : decode cX12_lays 216 = .ok (.iload 5, 2) := fq2_21 (fl_X12_lays_3 (j := 24) rfl rfl) (fl_X12_lays_3 (j := 25) rfl rfl) rfl
theorem dX12_lays_218 : decode cX12_lays 218 = .ok (.iaload, 1) := fq1_46 (fl_X12_lays_3 (j := 26) rfl rfl)
theorem dX12_lays_219 : decode cX12_lays 219 = .ok (.if_icmp .le 6, 3) := fq3_164 (fl_X12_lays_3 (j := 27) rfl rfl) (fl_X12_lays_3 (j := 28) rfl rfl) (fl_X12_lays_3 (j := 29) rfl rfl) (s2p rfl (bl rfl))
theorem dX12_lays_222 : decode cX12_lays 222 = .ok (.goto 37, 3) := fq3_167 (fl_X12_lays_3 (j := 30) rfl rfl) (fl_X12_lays_3 (j := 31) rfl rfl) (fl_X12_lays_3 (j := 32) rfl rfl) (s2p rfl (bl rfl))
theorem dX12_lays_225 : decode cX12_lays 225 = .ok (.aload_n 0, 1) := fq1_42 (fl_X12_lays_3 (j := 33) rfl rfl)
theorem dX12_lays_226 : decode cX12_lays 226 = .ok (.getfield 47, 3) := fq3_180 (fl_X12_lays_3 (j := 34) rfl rfl) (fl_X12_lays_3 (j := 35) rfl rfl) (fl_X12_lays_3 (j := 36) rfl rfl) rfl
theorem dX12_lays_229 : decode cX12_lays 229 = .ok (.iload 5, 2) := fq2_21 (fl_X12_lays_3 (j := 37) rfl rfl) (fl_X12_lays_3 (j := 38) rfl rfl) rfl
theorem dX12_lays_231 : decode cX12_lays 231 = .ok (.iload 6, 2) := fq2_21 (fl_X12_lays_3 (j := 39) rfl rfl) (fl_X12_lays_3 (j := 40) rfl rfl) rfl
theorem dX12_lays_233 : decode cX12_lays 233 = .ok (.iastore, 1) := fq1_79 (fl_X12_lays_3 (j := 41) rfl rfl)
theorem dX12_lays_234 : decode cX12_lays 234 = .ok (.aload_n 0, 1) := fq1_42 (fl_X12_lays_3 (j := 42) rfl rfl)
theorem dX12_lays_235 : decode cX12_lays 235 = .ok (.getfield 50, 3) := fq3_180 (fl_X12_lays_3 (j := 43) rfl rfl) (fl_X12_lays_3 (j := 44) rfl rfl) (fl_X12_lays_3 (j := 45) rfl rfl) rfl
theorem dX12_lays_238 : decode cX12_lays 238 = .ok (.iload 5, 2) := fq2_21 (fl_X12_lays_3 (j := 46) rfl rfl) (fl_X12_lays_3 (j := 47) rfl rfl) rfl
theorem dX12_lays_240 : decode cX12_lays 240 = .ok (.iload 4, 2) := fq2_21 (fl_X12_lays_3 (j := 48) rfl rfl) (fl_X12_lays_3 (j := 49) rfl rfl) rfl
theorem dX12_lays_242 : decode cX12_lays 242 = .ok (.iastore, 1) := fq1_79 (fl_X12_lays_3 (j := 50) rfl rfl)
theorem dX12_lays_243 : decode cX12_lays 243 = .ok (.aload_n 0, 1) := fq1_42 (fl_X12_lays_3 (j := 51) rfl rfl)
theorem dX12_lays_244 : decode cX12_lays 244 = .ok (.getfield 53, 3) := fq3_180 (fl_X12_lays_3 (j := 52) rfl rfl) (fl_X12_lays_3 (j := 53) rfl rfl) (fl_X12_lays_3 (j := 54) rfl rfl) rfl
theorem dX12_lays_247 : decode cX12_lays 247 = .ok (.iload 5, 2) := fq2_21 (fl_X12_lays_3 (j := 55) rfl rfl) (fl_X12_lays_3 (j := 56) rfl rfl) rfl
theorem dX12_lays_249 : decode cX12_lays 249 = .ok (.aload_n 0, 1) := fq1_42 (fl_X12_lays_3 (j := 57) rfl rfl)
theorem dX12_lays_250 : decode cX12_lays 250 = .ok (.getfield 53, 3) := fq3_180 (fl_X12_lays_3 (j := 58) rfl rfl) (fl_X12_lays_3 (j := 59) rfl rfl) (fl_X12_lays_3 (j := 60) rfl rfl) rfl
theorem dX12_lays_253 : decode cX12_lays 253 = .ok (.iload 4, 2) := fq2_21 (fl_X12_lays_3 (j := 61) rfl rfl) (fl_X12_lays_3 (j := 62) rfl rfl) rfl
theorem dX12_lays_255 : decode cX12_lays 255 = .ok (.iaload, 1) := fq1_46 (fl_X12_lays_3 (j := 63) rfl rfl)
def fb_X12_lays_4 : List UInt8 := [0x04, 0x60, 0x4f, 0x84, 0x05, 0x01, 0xa7, 0xff, 0x87, 0xa7, 0xff, 0x2c]
theorem fl_X12_lays_4 {p j : Nat} {b : UInt8} (e : p = 256 + j) (h : fb_X12_lays_4[j]? = some b) : cX12_lays.data.toList[p]? = some b := fq_l (n := 64) (show (cX12_lays.data.toList.drop 256).take 64 = fb_X12_lays_4 by decide +kernel) e h
theorem dX12_lays_256 : decode cX12_lays 256 = .ok (.iconst 1, 1) := fq1_4 (fl_X12_lays_4 (j := 0) rfl rfl)
theorem dX12_lays_257 : decode cX12_lays 257 = .ok (.iadd, 1) := fq1_96 (fl_X12_lays_4 (j := 1) rfl rfl)
theorem dX12_lays_258 : decode cX12_lays 258 = .ok (.iastore, 1) := fq1_79 (fl_X12_lays_4 (j := 2) rfl rfl)
theorem dX12_lays_259 : decode cX12_lays 259 = .ok (.iinc 5 1, 3) := fq3_132 (fl_X12_lays_4 (j := 3) rfl rfl) (fl_X12_lays_4 (j := 4) rfl rfl) (fl_X12_lays_4 (j := 5) rfl rfl) rfl (s1p rfl (bl rfl))
theorem dX12_lays_262 : decode cX12_lays 262 = .ok (.goto (-121), 3) := fq3_167 (fl_X12_lays_4 (j := 6) rfl rfl) (fl_X12_lays_4 (j := 7) rfl rfl) (fl_X12_lays_4 (j := 8) rfl rfl) (by decide)
theorem dX12_lays_265 : decode cX12_lays 265 = .ok (.goto (-212), 3) := fq3_167 (fl_X12_lays_4 (j := 9) rfl rfl) (fl_X12_lays_4 (j := 10) rfl rfl) (fl_X12_lays_4 (j := 11) rfl rfl) (by decide)
end

section
theorem xRw.ext {f g : Nat → Int32} {F : Int → Int} {n v : Int} (h : xRw f F n) (hg : g = upd f (iZ n).toNatClampNeg (iZ v)) (hn : 0 ≤ n ∧ n < 2147483648) (hv : -2147483648 ≤ v ∧ v < 2147483648) (e : v = F n) : xRw g F (n + 1) := by
  intro j h1 h2
  rw [gz_up hg hn hv h1]
  by_cases q : j = n
  · rw [if_pos q, q]; exact e
  · rw [if_neg q]; exact h j h1 (by omega)
theorem xRw.n0 {f : Nat → Int32} {F : Int → Int} : xRw f F 0 := fun j h1 h2 => absurd h1 (by omega)
/-- the one that is to tell next -/
def SR (k : Nat → Int32) (t i m : Int) : Prop := (m = -1 ∧ ∀ o : Int, 0 ≤ o → o < i → ¬ gz k o < 1000000 ∨ ¬ bt t o) ∨ ((0 ≤ m ∧ m < i) ∧ gz k m < 1000000 ∧ bt t m ∧ ∀ o : Int, 0 ≤ o → o < i → bt t o → gz k o < 1000000 → gz k m ≤ gz k o)
theorem SR_0 {k : Nat → Int32} {t : Int} : SR k t 0 (-1) := Or.inl ⟨rfl, fun o a b => absurd a (by omega)⟩
theorem SR_n {k : Nat → Int32} {t i m : Int} (h : SR k t i m) (c : (¬ gz k i < 1000000 ∨ ¬ bt t i) ∨ (¬ m = -1 ∧ gz k m ≤ gz k i)) : SR k t (i + 1) m := by
  rcases h with ⟨h1, h2⟩ | ⟨h1, h2, h3, h4⟩
  · refine Or.inl ⟨h1, fun o a b => ?_⟩
    rcases Int.lt_or_eq_of_le (show o ≤ i by omega) with d | d
    · exact h2 o a d
    · rw [d]
      rcases c with c | c
      · exact c
      · exact absurd h1 c.1
  · refine Or.inr ⟨⟨h1.1, by omega⟩, h2, h3, fun o a b e g => ?_⟩
    rcases Int.lt_or_eq_of_le (show o ≤ i by omega) with d | d
    · exact h4 o a d e g
    · rw [d] at e g ⊢
      rcases c with (c | c) | c
      · exact absurd g c
      · exact absurd e c
      · exact c.2
theorem SR_u {k : Nat → Int32} {t i m : Int} (h : SR k t i m) (hi : 0 ≤ i) (h1 : gz k i < 1000000) (h2 : bt t i) (c : m = -1 ∨ gz k i < gz k m) : SR k t (i + 1) i := by
  refine Or.inr ⟨⟨hi, by omega⟩, h1, h2, fun o a b e g => ?_⟩
  rcases Int.lt_or_eq_of_le (show o ≤ i by omega) with d | d
  · rcases h with ⟨m1, m2⟩ | ⟨m1, m2, m3, m4⟩
    · rcases m2 o a d with q | q
      · exact absurd g q
      · exact absurd e q
    · have := m4 o a d e g
      omega
  · rw [d]; exact Int.le_refl _
theorem SR_m1 {k : Nat → Int32} {t n m : Int} (h : SR k t n m) (e : m = -1) : ∀ o : Int, 0 ≤ o → o < n → ¬ gz k o < 1000000 ∨ ¬ bt t o := by
  rcases h with ⟨-, h2⟩ | ⟨h1, -⟩
  · exact h2
  · exact absurd h1.1 (by omega)
theorem SR_b {k : Nat → Int32} {t n m : Int} (h : SR k t n m) (hm : 0 ≤ m) : (m < n ∧ gz k m < 1000000) ∧ bt t m := by
  rcases h with ⟨h1, -⟩ | ⟨h1, h2, h3, -⟩
  · exact absurd h1 (by omega)
  · exact ⟨⟨h1.2, h2⟩, h3⟩
abbrev NWU (f g : Nat → Int32) (ni n x w : Int) (T : Int → Prop) (p u : Int) (k t b : Nat → Int32) : Prop := nwI (arF f g ni) n x w T p u (gz k) (gz t) (gz b)
/-- between two that tell: t the set of those that told, c how many -/
def NWR (f g : Nat → Int32) (ni n x w t c : Int) (k l b : Nat → Int32) : Prop := NWU f g ni n x w (fun r => Tb t r = true) (-1) 0 k l b ∧ rgI b 0 c 6 ∧ (0 ≤ t ∧ t < 64) ∧ (cntT (Tb t) n.toNat : Int) = c
theorem cntT_0 (m : Nat) : cntT (Tb 0) m = 0 := by
  induction m with
  | zero => rfl
  | succ m ih =>
    unfold cntT
    rw [ih, if_neg (Tb_0 _)]
theorem NWR_0 {f g k l b : Nat → Int32} {ni n x w : Int} (hw : 0 ≤ w ∧ w < 1000000) (hx : 0 ≤ x ∧ x < n) (hn : n ≤ 6) (hk : xRw k (fun o => if o = x then w else 1000000) 6) (hl : xRw l (fun _ => -1) 6) (hb : xRw b (fun _ => 0) 6) : NWR f g ni n x w 0 0 k l b := by
  refine ⟨nwI_0 hw hx (fun o a c => hk o a (by omega)) (fun o a c => hl o a (by omega)) (hb x hx.1 (by omega)) Tb_0, fun e a c => ?_, ⟨by omega, by omega⟩, ?_⟩
  · have h9 : gz b e = 0 := hb e a c
    omega
  · rw [cntT_0]; rfl
theorem NWR_p {f g k l b : Nat → Int32} {ni n x w t c p z1 z2 : Int} (q : NWR f g ni n x w t c k l b) (hn : n ≤ 6) (hx : 0 ≤ x ∧ x < n) (hp : 0 ≤ p) (sb : SR k t n p) (h1 : iZ z1 = iZ 1 <<< (iZ p &&& 31)) (h2 : iZ z2 = iZ t ||| iZ z1) : NWU f g ni n x w (fun r => Tb z2 r = true) p 0 k l b ∧ cntT (Tb z2) n.toNat = cntT (Tb t) n.toNat + 1 := by
  obtain ⟨q1, -, q3, -⟩ := q
  rcases sb with ⟨m1, -⟩ | ⟨m1, m2, m3, m4⟩
  · exact absurd m1 (by omega)
  · have np : ¬ Tb t p = true := fun e => (Tb_iff.mp e).2 m3
    have hp6 : 0 ≤ p ∧ p < 6 := ⟨m1.1, by omega⟩
    refine ⟨nwI_p q1 m1 np m2 (fun o a d e => ?_) (fun r a d => ?_) hx, ?_⟩
    · have y := Tb_no ⟨a, by omega⟩ e
      by_cases z : gz k o < 1000000
      · exact m4 o a d y z
      · show gz k p ≤ gz k o
        omega
    · show Tb z2 r = true ↔ Tb t r = true ∨ r = p
      rw [Tb_or q3 hp6 h1 h2 r, Bool.or_eq_true, decide_eq_true_iff]
    · have := cntT_add (T := Tb t) (T' := Tb z2) (p := p) (fun r => Tb_or q3 hp6 h1 h2 r) (by cases y : Tb t p with | false => rfl | true => exact absurd y np) n.toNat m1.1
      rw [if_pos (by omega)] at this
      exact this
theorem tr_n {f g k t b : Nat → Int32} {ni n x w p i z se : Int} (h : NWU f g ni n x w (fun r => Tb se r = true) p i k t b) (hx : FXI f n) (hn : n ≤ 6) (hp : 0 ≤ p ∧ p < n) (tp : Tb se p = true) (hi : 0 ≤ i ∧ i < n) (hz : z = arF f g ni p (gz k p) i) (c : ¬ bt se i ∨ z > gz k i ∨ z = 1000000 ∨ (z = gz k i ∧ p > gz t i)) : NWU f g ni n x w (fun r => Tb se r = true) p (i + 1) k t b := by
  refine nwI_n h (later_ar hx) hp tp hi ?_
  rcases c with c | c | c | c
  · exact Or.inr (Or.inl (Tb_iff.mpr ⟨⟨hi.1, by omega⟩, c⟩))
  · exact Or.inr (Or.inr (Or.inr (Or.inl (by rw [← hz]; omega))))
  · exact Or.inr (Or.inr (Or.inl (by rw [← hz]; exact c)))
  · exact Or.inr (Or.inr (Or.inr (Or.inr ⟨by rw [← hz]; omega, by omega⟩)))
theorem tr_u {f g k t b k' t' b' : Nat → Int32} {ni n x w p i z se v : Int} (h : NWU f g ni n x w (fun r => Tb se r = true) p i k t b) (hx : FXI f n) (hn : n ≤ 6) (hX : 0 ≤ x ∧ x < n) (hp : 0 ≤ p ∧ p < n) (tp : Tb se p = true) (hi : 0 ≤ i ∧ i < n) (hz : z = arF f g ni p (gz k p) i) (nb : bt se i) (c1 : ¬ z > gz k i) (c2 : ¬ z = 1000000) (c3 : ¬ (z = gz k i ∧ p > gz t i)) (hr : -2147483648 ≤ z ∧ z < 2147483648) (hv : v = gz b p + 1) (hvr : -2147483648 ≤ v ∧ v < 2147483648) (hk : k' = upd k (iZ i).toNatClampNeg (iZ z)) (ht : t' = upd t (iZ i).toNatClampNeg (iZ p)) (hb : b' = upd b (iZ i).toNatClampNeg (iZ v)) : NWU f g ni n x w (fun r => Tb se r = true) p (i + 1) k' t' b' := by
  have nt : ¬ Tb se i = true := fun e => (Tb_iff.mp e).2 nb
  have ne : ¬ p = i := fun e => nt (e ▸ tp)
  have kp := h.2.2.2.1 p hp.1 hp.2 tp
  have lt := later_ar (g := g) (ni := ni) hx p (gz k p) i hp.1 hp.2 hi.1 hi.2 ne (h.2.1 p hp.1 hp.2).1 kp
  refine nwI_u h (later_ar hx) hX hp tp hi nt (by rw [← hz]; omega) (by rw [← hz]; by_cases y : z = gz k i; exact Or.inr ⟨y, by omega⟩; exact Or.inl (by omega)) (fun o a d => ?_) (fun o a d => ?_) (fun o a d => ?_)
  · have e := gz_up hk (j := o) ⟨by omega, by omega⟩ hr a
    rw [e, hz]
  · exact gz_up ht (j := o) ⟨by omega, by omega⟩ ⟨by omega, by omega⟩ a
  · have e := gz_up hb (j := o) ⟨by omega, by omega⟩ hvr a
    rw [e, hv]
theorem NWR_e {f g k l b : Nat → Int32} {ni n x w t c : Int} (q : NWR f g ni n x w t c k l b) (hn : n ≤ 6) (he : ∀ o : Int, 0 ≤ o → o < n → ¬ gz k o < 1000000 ∨ ¬ bt t o) : isNW (arF f g ni) n x w (gz k) (gz l) (gz b) := by
  refine nwI_nw q.1 (fun o a d e => ?_)
  have r := q.1.2.1 o a d
  rcases he o a d with y | y
  · omega
  · exact absurd (Tb_no ⟨a, by omega⟩ e) y
set_option maxHeartbeats 4000000 in
set_option maxRecDepth 100000 in
theorem m_lays (l : Launch) (D : va_G) (k : Nat → ClassId) (hm : Nat) (Ma : Nat) (Mn : Nat) (Ms : Nat) (My : Nat) (Mt : Nat) (Mp : Nat) (Mx : Nat) (Mo : Nat) (Mk : Nat) (Ml : Nat) (Mb : Nat) (Mh : Nat) (Mc : Nat) (Mz : Nat) (Mr : Nat) (Mq : Nat) (Mst : Int) (Mtd : Int) (Msz : Int) (Mtk : Int) (Mfr : Int) (Men : Int) (Mva : Int) (Mfk : Int) (Mfp : Int) (Mfs : Int) (Mse : Int) (Mlt : Int) (Mdp : Int) (Mct : Int) (Mdr : Int) (Mrs : Int) (Mit : Int) (Mmk : Int) (Mtp : Int64) (Mbt : Int64) (Af : Nat → Int32) (Kf : Nat → Int32) (Lf : Nat → Int32) (Bf : Nat → Int32) (x : Int) (w : Int) (hM : M0 Af) (h9x : 0 ≤ x ∧ x < gz Af 0) (h9w : 0 ≤ w ∧ w ≤ 400) : WD (σ := ((Int) × (Int64) × ((Nat → Int32) × (Nat → Int32) × (Nat → Int32)) × (Unit))) l yX12_lays cX12_lays 7 none 5 0 0 D k [.ref hm, .int (iZ x), .int (iZ w)] [(hm, .inr (12, [.ref Ma, .ref Mn, .int (iZ Mst), .long Mtp, .long Mbt, .ref Ms, .ref My, .ref Mt, .ref Mp, .ref Mx, .int (iZ Mtd), .int (iZ Msz), .int (iZ Mtk), .int (iZ Mfr), .int (iZ Men), .int (iZ Mva), .int (iZ Mfk), .int (iZ Mfp), .int (iZ Mfs), .int (iZ Mse), .int (iZ Mlt), .ref Mo, .int (iZ Mdp), .int (iZ Mct), .ref Mk, .ref Ml, .ref Mb, .ref Mh, .ref Mc, .int (iZ Mdr), .int (iZ Mrs), .ref Mz, .ref Mr, .ref Mq, .int (iZ Mit), .int (iZ Mmk)])), (Ma, .inl (k 1, 5340, .inl Af)), (Mk, .inl (k 1, 6, .inl Kf)), (Ml, .inl (k 1, 6, .inl Lf)), (Mb, .inl (k 1, 6, .inl Bf))] (fun _ => none) (fun u => (KR u.2.2.1.1 6) ∧ (rgI u.2.2.1.2.1 (-1) 5 6) ∧ (isNW (arF (sh Af 10) (sh Af 46) (gz Af 1)) (gz Af 0) x w (gz u.2.2.1.1) (gz u.2.2.1.2.1) (gz u.2.2.1.2.2))) (fun u => [(hm, .inr (12, [.ref Ma, .ref Mn, .int (iZ Mst), .long Mtp, .long Mbt, .ref Ms, .ref My, .ref Mt, .ref Mp, .ref Mx, .int (iZ Mtd), .int (iZ Msz), .int (iZ Mtk), .int (iZ Mfr), .int (iZ Men), .int (iZ Mva), .int (iZ Mfk), .int (iZ Mfp), .int (iZ Mfs), .int (iZ Mse), .int (iZ Mlt), .ref Mo, .int (iZ Mdp), .int (iZ Mct), .ref Mk, .ref Ml, .ref Mb, .ref Mh, .ref Mc, .int (iZ Mdr), .int (iZ Mrs), .ref Mz, .ref Mr, .ref Mq, .int (iZ Mit), .int (iZ Mmk)])), (Ma, .inl (k 1, 5340, .inl Af)), (Mk, .inl (k 1, 6, .inl u.2.2.1.1)), (Ml, .inl (k 1, 6, .inl u.2.2.1.2.1)), (Mb, .inl (k 1, 6, .inl u.2.2.1.2.2))]) := by
  refine MW (by decide) (Nat.le_of_ble_eq_true rfl) (fun p e s m below meth c ls A hx hb hml hr hlocks hin hts hown hKK hP hD hS hA hl => ?_)
  have hK := hKK.1
  have hl : lv_has ls 7 [(0, .ref hm), (1, .int (iZ x)), (2, .int (iZ w))] := hl
  obtain ⟨m0, m1, m3, m4, m5, mF, mO, mS⟩ := id hM
  refine lv_iconst (v := iZ 0) hx hb dX12_lays_0 rfl ?_
  refine lv_istore_n (lv' := [(3, .int (iZ 0)), (0, .ref hm), (1, .int (iZ x)), (2, .int (iZ w))]) hx hb dX12_lays_1 rfl hl (bl rfl) rfl (fun ls hl => ?_)
  refine lv_iconst (v := iZ 0) hx hb dX12_lays_2 rfl ?_
  refine lv_istore (lv' := [(4, .int (iZ 0)), (3, .int (iZ 0)), (0, .ref hm), (1, .int (iZ x)), (2, .int (iZ w))]) hx hb dX12_lays_3 hl (bl rfl) rfl (fun ls hl => ?_)
  have HL1 : ∀ (fu : Nat) (i : Int) (Kf1 : Nat → Int32) (Lf1 : Nat → Int32) (Bf1 : Nat → Int32) (H : Heap) (locs : List Loc) (ls : Array Slot), (7 - i) < (fu : Int) → (0 ≤ i ∧ i ≤ 6) → (KR Kf1 i) → (rgI Lf1 (-1) 5 i) → (xRw Kf1 (fun o => if o = x then w else 1000000) i) → (xRw Lf1 (fun _ => -1) i) → (xRw Bf1 (fun _ => 0) i) → va_P D vwCl [(hm, .inr (12, [.ref Ma, .ref Mn, .int (iZ Mst), .long Mtp, .long Mbt, .ref Ms, .ref My, .ref Mt, .ref Mp, .ref Mx, .int (iZ Mtd), .int (iZ Msz), .int (iZ Mtk), .int (iZ Mfr), .int (iZ Men), .int (iZ Mva), .int (iZ Mfk), .int (iZ Mfp), .int (iZ Mfs), .int (iZ Mse), .int (iZ Mlt), .ref Mo, .int (iZ Mdp), .int (iZ Mct), .ref Mk, .ref Ml, .ref Mb, .ref Mh, .ref Mc, .int (iZ Mdr), .int (iZ Mrs), .ref Mz, .ref Mr, .ref Mq, .int (iZ Mit), .int (iZ Mmk)])), (Ma, .inl (k 1, 5340, .inl Af)), (Mk, .inl (k 1, 6, .inl Kf1)), (Ml, .inl (k 1, 6, .inl Lf1)), (Mb, .inl (k 1, 6, .inl Bf1))] H → va_D A [(hm, .inr (12, [.ref Ma, .ref Mn, .int (iZ Mst), .long Mtp, .long Mbt, .ref Ms, .ref My, .ref Mt, .ref Mp, .ref Mx, .int (iZ Mtd), .int (iZ Msz), .int (iZ Mtk), .int (iZ Mfr), .int (iZ Men), .int (iZ Mva), .int (iZ Mfk), .int (iZ Mfp), .int (iZ Mfs), .int (iZ Mse), .int (iZ Mlt), .ref Mo, .int (iZ Mdp), .int (iZ Mct), .ref Mk, .ref Ml, .ref Mb, .ref Mh, .ref Mc, .int (iZ Mdr), .int (iZ Mrs), .ref Mz, .ref Mr, .ref Mq, .int (iZ Mit), .int (iZ Mmk)])), (Ma, .inl (k 1, 5340, .inl Af)), (Mk, .inl (k 1, 6, .inl Kf1)), (Ml, .inl (k 1, 6, .inl Lf1)), (Mb, .inl (k 1, 6, .inl Bf1))] → va_S A s.heap H locs → lv_has ls 7 [(4, .int (iZ i)), (3, .int (iZ 0)), (0, .ref hm), (1, .int (iZ x)), (2, .int (iZ w))] → W p l e (rj 5 0 0) s m [.ref hm, .int (iZ x), .int (iZ w)].toArray below meth c H locs 0 0 (MQ below (QW (σ := ((Int) × (Int64) × ((Nat → Int32) × (Nat → Int32) × (Nat → Int32)) × (Unit))) (fun _ => none) (fun u => (KR u.2.2.1.1 6) ∧ (rgI u.2.2.1.2.1 (-1) 5 6) ∧ (isNW (arF (sh Af 10) (sh Af 46) (gz Af 1)) (gz Af 0) x w (gz u.2.2.1.1) (gz u.2.2.1.2.1) (gz u.2.2.1.2.2))) (fun u => [(hm, .inr (12, [.ref Ma, .ref Mn, .int (iZ Mst), .long Mtp, .long Mbt, .ref Ms, .ref My, .ref Mt, .ref Mp, .ref Mx, .int (iZ Mtd), .int (iZ Msz), .int (iZ Mtk), .int (iZ Mfr), .int (iZ Men), .int (iZ Mva), .int (iZ Mfk), .int (iZ Mfp), .int (iZ Mfs), .int (iZ Mse), .int (iZ Mlt), .ref Mo, .int (iZ Mdp), .int (iZ Mct), .ref Mk, .ref Ml, .ref Mb, .ref Mh, .ref Mc, .int (iZ Mdr), .int (iZ Mrs), .ref Mz, .ref Mr, .ref Mq, .int (iZ Mit), .int (iZ Mmk)])), (Ma, .inl (k 1, 5340, .inl Af)), (Mk, .inl (k 1, 6, .inl u.2.2.1.1)), (Ml, .inl (k 1, 6, .inl u.2.2.1.2.1)), (Mb, .inl (k 1, 6, .inl u.2.2.1.2.2))]) D A) [.ref hm, .int (iZ x), .int (iZ w)].toArray s 0 0 A) (F0 m 5 ls []) := by
    intro fu
    induction fu with
    | zero => intro i Kf1 Lf1 Bf1 H locs ls hμ1 hi1 hk1 hl1 hkx hlx hbx hP hD hS hl; exact absurd hμ1 (by omega)
    | succ fu ih1 =>
      intro i Kf1 Lf1 Bf1 H locs ls hμ1 hi1 hk1 hl1 hkx hlx hbx hP hD hS hl
      refine lv_iload hx hb dX12_lays_5 (lv_at hl 0 rfl) ?_
      refine lv_bipush (v := iZ 6) hx hb dX12_lays_7 bip_6 ?_
      refine lv_icmp_ge (tgt := 53) hx hb dX12_lays_9 rfl (fun c_1 => ?_) (fun c_1 => ?_)
      ·
        have c_1 := (zle (x := iZ 6) (y := iZ i) rfl rfl wn_6 ⟨by omega, by omega⟩).mp c_1
        obtain rfl : i = 6 := by omega
        have HL2 : ∀ (fu : Nat) (se : Int) (Kf2 : Nat → Int32) (Lf2 : Nat → Int32) (Bf2 : Nat → Int32) (cc : Int) (H : Heap) (locs : List Loc) (ls : Array Slot), (64 - se) < (fu : Int) → (0 ≤ se ∧ se < 64) → (KR Kf2 6) → (rgI Lf2 (-1) 5 6) → (NWR (sh Af 10) (sh Af 46) (gz Af 1) (gz Af 0) x w se cc Kf2 Lf2 Bf2) → va_P D vwCl [(hm, .inr (12, [.ref Ma, .ref Mn, .int (iZ Mst), .long Mtp, .long Mbt, .ref Ms, .ref My, .ref Mt, .ref Mp, .ref Mx, .int (iZ Mtd), .int (iZ Msz), .int (iZ Mtk), .int (iZ Mfr), .int (iZ Men), .int (iZ Mva), .int (iZ Mfk), .int (iZ Mfp), .int (iZ Mfs), .int (iZ Mse), .int (iZ Mlt), .ref Mo, .int (iZ Mdp), .int (iZ Mct), .ref Mk, .ref Ml, .ref Mb, .ref Mh, .ref Mc, .int (iZ Mdr), .int (iZ Mrs), .ref Mz, .ref Mr, .ref Mq, .int (iZ Mit), .int (iZ Mmk)])), (Ma, .inl (k 1, 5340, .inl Af)), (Mk, .inl (k 1, 6, .inl Kf2)), (Ml, .inl (k 1, 6, .inl Lf2)), (Mb, .inl (k 1, 6, .inl Bf2))] H → va_D A [(hm, .inr (12, [.ref Ma, .ref Mn, .int (iZ Mst), .long Mtp, .long Mbt, .ref Ms, .ref My, .ref Mt, .ref Mp, .ref Mx, .int (iZ Mtd), .int (iZ Msz), .int (iZ Mtk), .int (iZ Mfr), .int (iZ Men), .int (iZ Mva), .int (iZ Mfk), .int (iZ Mfp), .int (iZ Mfs), .int (iZ Mse), .int (iZ Mlt), .ref Mo, .int (iZ Mdp), .int (iZ Mct), .ref Mk, .ref Ml, .ref Mb, .ref Mh, .ref Mc, .int (iZ Mdr), .int (iZ Mrs), .ref Mz, .ref Mr, .ref Mq, .int (iZ Mit), .int (iZ Mmk)])), (Ma, .inl (k 1, 5340, .inl Af)), (Mk, .inl (k 1, 6, .inl Kf2)), (Ml, .inl (k 1, 6, .inl Lf2)), (Mb, .inl (k 1, 6, .inl Bf2))] → va_S A s.heap H locs → lv_has ls 7 [(3, .int (iZ se)), (0, .ref hm), (1, .int (iZ x)), (2, .int (iZ w))] → W p l e (rj 5 0 0) s m [.ref hm, .int (iZ x), .int (iZ w)].toArray below meth c H locs 0 0 (MQ below (QW (σ := ((Int) × (Int64) × ((Nat → Int32) × (Nat → Int32) × (Nat → Int32)) × (Unit))) (fun _ => none) (fun u => (KR u.2.2.1.1 6) ∧ (rgI u.2.2.1.2.1 (-1) 5 6) ∧ (isNW (arF (sh Af 10) (sh Af 46) (gz Af 1)) (gz Af 0) x w (gz u.2.2.1.1) (gz u.2.2.1.2.1) (gz u.2.2.1.2.2))) (fun u => [(hm, .inr (12, [.ref Ma, .ref Mn, .int (iZ Mst), .long Mtp, .long Mbt, .ref Ms, .ref My, .ref Mt, .ref Mp, .ref Mx, .int (iZ Mtd), .int (iZ Msz), .int (iZ Mtk), .int (iZ Mfr), .int (iZ Men), .int (iZ Mva), .int (iZ Mfk), .int (iZ Mfp), .int (iZ Mfs), .int (iZ Mse), .int (iZ Mlt), .ref Mo, .int (iZ Mdp), .int (iZ Mct), .ref Mk, .ref Ml, .ref Mb, .ref Mh, .ref Mc, .int (iZ Mdr), .int (iZ Mrs), .ref Mz, .ref Mr, .ref Mq, .int (iZ Mit), .int (iZ Mmk)])), (Ma, .inl (k 1, 5340, .inl Af)), (Mk, .inl (k 1, 6, .inl u.2.2.1.1)), (Ml, .inl (k 1, 6, .inl u.2.2.1.2.1)), (Mb, .inl (k 1, 6, .inl u.2.2.1.2.2))]) D A) [.ref hm, .int (iZ x), .int (iZ w)].toArray s 0 0 A) (F0 m 53 ls []) := by
          intro fu
          induction fu with
          | zero => intro se Kf2 Lf2 Bf2 cc H locs ls hμ2 hse hk2 hl2 hnr hP hD hS hl; exact absurd hμ2 (by omega)
          | succ fu ih2 =>
            intro se Kf2 Lf2 Bf2 cc H locs ls hμ2 hse hk2 hl2 hnr hP hD hS hl
            refine lv_iconst (v := iZ (-1)) hx hb dX12_lays_53 rfl ?_
            refine lv_istore (lv' := [(4, .int (iZ (-1))), (3, .int (iZ se)), (0, .ref hm), (1, .int (iZ x)), (2, .int (iZ w))]) hx hb dX12_lays_54 hl (bl rfl) rfl (fun ls hl => ?_)
            refine lv_iconst (v := iZ 0) hx hb dX12_lays_56 rfl ?_
            refine lv_istore (lv' := [(5, .int (iZ 0)), (4, .int (iZ (-1))), (3, .int (iZ se)), (0, .ref hm), (1, .int (iZ x)), (2, .int (iZ w))]) hx hb dX12_lays_57 hl (bl rfl) rfl (fun ls hl => ?_)
            have HL3 : ∀ (fu : Nat) (nx : Int) (r1 : Int) (H : Heap) (locs : List Loc) (ls : Array Slot), (gz Af 0 + 1 - r1) < (fu : Int) → (0 ≤ r1 ∧ r1 ≤ gz Af 0) → (-1 ≤ nx ∧ nx < gz Af 0) → (SR Kf2 se r1 nx) → va_P D vwCl [(hm, .inr (12, [.ref Ma, .ref Mn, .int (iZ Mst), .long Mtp, .long Mbt, .ref Ms, .ref My, .ref Mt, .ref Mp, .ref Mx, .int (iZ Mtd), .int (iZ Msz), .int (iZ Mtk), .int (iZ Mfr), .int (iZ Men), .int (iZ Mva), .int (iZ Mfk), .int (iZ Mfp), .int (iZ Mfs), .int (iZ Mse), .int (iZ Mlt), .ref Mo, .int (iZ Mdp), .int (iZ Mct), .ref Mk, .ref Ml, .ref Mb, .ref Mh, .ref Mc, .int (iZ Mdr), .int (iZ Mrs), .ref Mz, .ref Mr, .ref Mq, .int (iZ Mit), .int (iZ Mmk)])), (Ma, .inl (k 1, 5340, .inl Af)), (Mk, .inl (k 1, 6, .inl Kf2)), (Ml, .inl (k 1, 6, .inl Lf2)), (Mb, .inl (k 1, 6, .inl Bf2))] H → va_D A [(hm, .inr (12, [.ref Ma, .ref Mn, .int (iZ Mst), .long Mtp, .long Mbt, .ref Ms, .ref My, .ref Mt, .ref Mp, .ref Mx, .int (iZ Mtd), .int (iZ Msz), .int (iZ Mtk), .int (iZ Mfr), .int (iZ Men), .int (iZ Mva), .int (iZ Mfk), .int (iZ Mfp), .int (iZ Mfs), .int (iZ Mse), .int (iZ Mlt), .ref Mo, .int (iZ Mdp), .int (iZ Mct), .ref Mk, .ref Ml, .ref Mb, .ref Mh, .ref Mc, .int (iZ Mdr), .int (iZ Mrs), .ref Mz, .ref Mr, .ref Mq, .int (iZ Mit), .int (iZ Mmk)])), (Ma, .inl (k 1, 5340, .inl Af)), (Mk, .inl (k 1, 6, .inl Kf2)), (Ml, .inl (k 1, 6, .inl Lf2)), (Mb, .inl (k 1, 6, .inl Bf2))] → va_S A s.heap H locs → lv_has ls 7 [(5, .int (iZ r1)), (4, .int (iZ nx)), (3, .int (iZ se)), (0, .ref hm), (1, .int (iZ x)), (2, .int (iZ w))] → W p l e (rj 5 0 0) s m [.ref hm, .int (iZ x), .int (iZ w)].toArray below meth c H locs 0 0 (MQ below (QW (σ := ((Int) × (Int64) × ((Nat → Int32) × (Nat → Int32) × (Nat → Int32)) × (Unit))) (fun _ => none) (fun u => (KR u.2.2.1.1 6) ∧ (rgI u.2.2.1.2.1 (-1) 5 6) ∧ (isNW (arF (sh Af 10) (sh Af 46) (gz Af 1)) (gz Af 0) x w (gz u.2.2.1.1) (gz u.2.2.1.2.1) (gz u.2.2.1.2.2))) (fun u => [(hm, .inr (12, [.ref Ma, .ref Mn, .int (iZ Mst), .long Mtp, .long Mbt, .ref Ms, .ref My, .ref Mt, .ref Mp, .ref Mx, .int (iZ Mtd), .int (iZ Msz), .int (iZ Mtk), .int (iZ Mfr), .int (iZ Men), .int (iZ Mva), .int (iZ Mfk), .int (iZ Mfp), .int (iZ Mfs), .int (iZ Mse), .int (iZ Mlt), .ref Mo, .int (iZ Mdp), .int (iZ Mct), .ref Mk, .ref Ml, .ref Mb, .ref Mh, .ref Mc, .int (iZ Mdr), .int (iZ Mrs), .ref Mz, .ref Mr, .ref Mq, .int (iZ Mit), .int (iZ Mmk)])), (Ma, .inl (k 1, 5340, .inl Af)), (Mk, .inl (k 1, 6, .inl u.2.2.1.1)), (Ml, .inl (k 1, 6, .inl u.2.2.1.2.1)), (Mb, .inl (k 1, 6, .inl u.2.2.1.2.2))]) D A) [.ref hm, .int (iZ x), .int (iZ w)].toArray s 0 0 A) (F0 m 59 ls []) := by
              intro fu
              induction fu with
              | zero => intro nx r1 H locs ls hμ3 hr1 hnx hsr hP hD hS hl; exact absurd hμ3 (by omega)
              | succ fu ih3 =>
                intro nx r1 H locs ls hμ3 hr1 hnx hsr hP hD hS hl
                refine lv_iload hx hb dX12_lays_59 (lv_at hl 0 rfl) ?_
                refine lv_aload_n hx hb dX12_lays_61 rfl (lv_at hl 3 rfl) ?_
                refine va_get (D := D) (ci := 12) (v := .ref Ma) (C := RX12) (T := TX12) (N := 36) hx hb hts iX12 hown hK hP 0 rfl rfl 0 (bl rfl) (hts _ qf_X12_7) (fun _ h => h) rfl dX12_lays_62 ?_
                refine lv_iconst (v := iZ 0) hx hb dX12_lays_65 rfl ?_
                refine va_iald hx hb hK hP 1 1 rfl rfl (zin (e := 0) (n := 5340) ⟨by omega, by omega⟩ (bl rfl)) dX12_lays_66 ?_
                refine lv_topi (fun x_2 ex_2 => ?_)
                obtain rfl : x_2 = iZ (gz Af 0) := ex_2.trans (gz_eq ⟨by omega, by omega⟩)
                have h_3 := gz_rg Af 0
                refine lv_icmp_ge (tgt := 124) hx hb dX12_lays_67 rfl (fun c_4 => ?_) (fun c_4 => ?_)
                ·
                  have c_4 := (zle (x := iZ (gz Af 0)) (y := iZ r1) rfl rfl (gz_rg Af 0) ⟨by omega, by omega⟩).mp c_4
                  have hsr2 : SR Kf2 se (gz Af 0) nx := by have e9 : r1 = gz Af 0 := (by omega); rw [← e9]; exact hsr
                  refine lv_iload hx hb dX12_lays_124 (lv_at hl 1 rfl) ?_
                  refine lv_iconst (v := iZ (-1)) hx hb dX12_lays_126 rfl ?_
                  refine lv_icmp_ne (tgt := 131) hx hb dX12_lays_127 rfl (fun c_5 => ?_) (fun c_5 => ?_)
                  ·
                    have c_5 := mt (zeq (x := iZ nx) (y := iZ (-1)) rfl rfl ⟨by omega, by omega⟩ wn_m1).mpr c_5
                    refine lv_iload_n hx hb dX12_lays_131 rfl (lv_at hl 2 rfl) ?_
                    refine lv_iconst (v := iZ 1) hx hb dX12_lays_132 rfl ?_
                    refine lv_iload hx hb dX12_lays_133 (lv_at hl 1 rfl) ?_
                    refine lv_ishl hx hb dX12_lays_135 ?_
                    refine lv_topi (fun x_7 ex_7 => ?_)
                    obtain ⟨z_6, hz_6, hz_6a, hz_6b⟩ := i32_z x_7
                    subst hz_6
                    refine lv_ior hx hb dX12_lays_136 ?_
                    refine lv_topi (fun x_9 ex_9 => ?_)
                    obtain ⟨z_8, hz_8, hz_8a, hz_8b⟩ := i32_z x_9
                    subst hz_8
                    refine lv_istore_n (lv' := [(3, .int (iZ z_8)), (5, .int (iZ r1)), (4, .int (iZ nx)), (0, .ref hm), (1, .int (iZ x)), (2, .int (iZ w))]) hx hb dX12_lays_137 rfl hl (bl rfl) rfl (fun ls hl => ?_)
                    have hsb := SR_b hsr2 (by omega)
                    have hbs := bt_set hse ⟨by omega, by omega⟩ hsb.2 ex_7 ex_9 ⟨hz_8a, hz_8b⟩
                    obtain ⟨hnt0, hct⟩ := NWR_p hnr m0.2 h9x (by omega) hsr2 ex_7 ex_9
                    have htp : Tb z_8 nx = true := Tb_p hnr.2.2.1 ⟨by omega, by omega⟩ ex_7 ex_9
                    have hcq := hnr.2.2.2
                    have hcl := cntT_le (Tb se) (gz Af 0).toNat
                    have hbn0 := hnr.2.1 nx (by omega) (by omega)
                    refine lv_iconst (v := iZ 0) hx hb dX12_lays_138 rfl ?_
                    refine lv_istore (lv' := [(5, .int (iZ 0)), (3, .int (iZ z_8)), (4, .int (iZ nx)), (0, .ref hm), (1, .int (iZ x)), (2, .int (iZ w))]) hx hb dX12_lays_139 hl (bl rfl) rfl (fun ls hl => ?_)
                    have HL4 : ∀ (fu : Nat) (o1 : Int) (Kf4 : Nat → Int32) (Lf4 : Nat → Int32) (Bf4 : Nat → Int32) (H : Heap) (locs : List Loc) (ls : Array Slot), (gz Af 0 + 1 - o1) < (fu : Int) → (0 ≤ o1 ∧ o1 ≤ gz Af 0) → (KR Kf4 6) → (rgI Lf4 (-1) 5 6) → (NWU (sh Af 10) (sh Af 46) (gz Af 1) (gz Af 0) x w (fun r => Tb z_8 r = true) nx o1 Kf4 Lf4 Bf4) → (rgI Bf4 0 (cc + 1) 6) → (0 ≤ gz Bf4 nx ∧ gz Bf4 nx ≤ cc) → va_P D vwCl [(hm, .inr (12, [.ref Ma, .ref Mn, .int (iZ Mst), .long Mtp, .long Mbt, .ref Ms, .ref My, .ref Mt, .ref Mp, .ref Mx, .int (iZ Mtd), .int (iZ Msz), .int (iZ Mtk), .int (iZ Mfr), .int (iZ Men), .int (iZ Mva), .int (iZ Mfk), .int (iZ Mfp), .int (iZ Mfs), .int (iZ Mse), .int (iZ Mlt), .ref Mo, .int (iZ Mdp), .int (iZ Mct), .ref Mk, .ref Ml, .ref Mb, .ref Mh, .ref Mc, .int (iZ Mdr), .int (iZ Mrs), .ref Mz, .ref Mr, .ref Mq, .int (iZ Mit), .int (iZ Mmk)])), (Ma, .inl (k 1, 5340, .inl Af)), (Mk, .inl (k 1, 6, .inl Kf4)), (Ml, .inl (k 1, 6, .inl Lf4)), (Mb, .inl (k 1, 6, .inl Bf4))] H → va_D A [(hm, .inr (12, [.ref Ma, .ref Mn, .int (iZ Mst), .long Mtp, .long Mbt, .ref Ms, .ref My, .ref Mt, .ref Mp, .ref Mx, .int (iZ Mtd), .int (iZ Msz), .int (iZ Mtk), .int (iZ Mfr), .int (iZ Men), .int (iZ Mva), .int (iZ Mfk), .int (iZ Mfp), .int (iZ Mfs), .int (iZ Mse), .int (iZ Mlt), .ref Mo, .int (iZ Mdp), .int (iZ Mct), .ref Mk, .ref Ml, .ref Mb, .ref Mh, .ref Mc, .int (iZ Mdr), .int (iZ Mrs), .ref Mz, .ref Mr, .ref Mq, .int (iZ Mit), .int (iZ Mmk)])), (Ma, .inl (k 1, 5340, .inl Af)), (Mk, .inl (k 1, 6, .inl Kf4)), (Ml, .inl (k 1, 6, .inl Lf4)), (Mb, .inl (k 1, 6, .inl Bf4))] → va_S A s.heap H locs → lv_has ls 7 [(5, .int (iZ o1)), (3, .int (iZ z_8)), (4, .int (iZ nx)), (0, .ref hm), (1, .int (iZ x)), (2, .int (iZ w))] → W p l e (rj 5 0 0) s m [.ref hm, .int (iZ x), .int (iZ w)].toArray below meth c H locs 0 0 (MQ below (QW (σ := ((Int) × (Int64) × ((Nat → Int32) × (Nat → Int32) × (Nat → Int32)) × (Unit))) (fun _ => none) (fun u => (KR u.2.2.1.1 6) ∧ (rgI u.2.2.1.2.1 (-1) 5 6) ∧ (isNW (arF (sh Af 10) (sh Af 46) (gz Af 1)) (gz Af 0) x w (gz u.2.2.1.1) (gz u.2.2.1.2.1) (gz u.2.2.1.2.2))) (fun u => [(hm, .inr (12, [.ref Ma, .ref Mn, .int (iZ Mst), .long Mtp, .long Mbt, .ref Ms, .ref My, .ref Mt, .ref Mp, .ref Mx, .int (iZ Mtd), .int (iZ Msz), .int (iZ Mtk), .int (iZ Mfr), .int (iZ Men), .int (iZ Mva), .int (iZ Mfk), .int (iZ Mfp), .int (iZ Mfs), .int (iZ Mse), .int (iZ Mlt), .ref Mo, .int (iZ Mdp), .int (iZ Mct), .ref Mk, .ref Ml, .ref Mb, .ref Mh, .ref Mc, .int (iZ Mdr), .int (iZ Mrs), .ref Mz, .ref Mr, .ref Mq, .int (iZ Mit), .int (iZ Mmk)])), (Ma, .inl (k 1, 5340, .inl Af)), (Mk, .inl (k 1, 6, .inl u.2.2.1.1)), (Ml, .inl (k 1, 6, .inl u.2.2.1.2.1)), (Mb, .inl (k 1, 6, .inl u.2.2.1.2.2))]) D A) [.ref hm, .int (iZ x), .int (iZ w)].toArray s 0 0 A) (F0 m 141 ls []) := by
                      intro fu
                      induction fu with
                      | zero => intro o1 Kf4 Lf4 Bf4 H locs ls hμ4 ho1 hk4 hl4 hnt hbr4 hbn4 hP hD hS hl; exact absurd hμ4 (by omega)
                      | succ fu ih4 =>
                        intro o1 Kf4 Lf4 Bf4 H locs ls hμ4 ho1 hk4 hl4 hnt hbr4 hbn4 hP hD hS hl
                        refine lv_iload hx hb dX12_lays_141 (lv_at hl 0 rfl) ?_
                        refine lv_aload_n hx hb dX12_lays_143 rfl (lv_at hl 3 rfl) ?_
                        refine va_get (D := D) (ci := 12) (v := .ref Ma) (C := RX12) (T := TX12) (N := 36) hx hb hts iX12 hown hK hP 0 rfl rfl 0 (bl rfl) (hts _ qf_X12_7) (fun _ h => h) rfl dX12_lays_144 ?_
                        refine lv_iconst (v := iZ 0) hx hb dX12_lays_147 rfl ?_
                        refine va_iald hx hb hK hP 1 1 rfl rfl (zin (e := 0) (n := 5340) ⟨by omega, by omega⟩ (bl rfl)) dX12_lays_148 ?_
                        refine lv_topi (fun x_10 ex_10 => ?_)
                        obtain rfl : x_10 = iZ (gz Af 0) := ex_10.trans (gz_eq ⟨by omega, by omega⟩)
                        have h_11 := gz_rg Af 0
                        refine lv_icmp_ge (tgt := 265) hx hb dX12_lays_149 rfl (fun c_12 => ?_) (fun c_12 => ?_)
                        ·
                          have c_12 := (zle (x := iZ (gz Af 0)) (y := iZ o1) rfl rfl (gz_rg Af 0) ⟨by omega, by omega⟩).mp c_12
                          refine lv_goto (tgt := 53) hx hb dX12_lays_265 rfl ?_
                          exact ih2  z_8 Kf4 Lf4 Bf4 (cc + 1) _ _ _ (by omega) (show 0 ≤ z_8 ∧ z_8 < 64 from ⟨by omega, by omega⟩) (show KR Kf4 6 from hk4) (show rgI Lf4 (-1) 5 6 from hl4) (show NWR (sh Af 10) (sh Af 46) (gz Af 1) (gz Af 0) x w z_8 (cc + 1) Kf4 Lf4 Bf4 from ⟨nwI_e hnt (by omega), hbr4, ⟨by omega, by omega⟩, by omega⟩) (hP.sub [0, 1, 2, 3, 4] rfl) (hD.sub [0, 1, 2, 3, 4] rfl rfl) hS (lv_sub hl [1, 3, 4, 5] rfl)
                        ·
                          have c_12 := mt (zle (x := iZ (gz Af 0)) (y := iZ o1) rfl rfl (gz_rg Af 0) ⟨by omega, by omega⟩).mpr c_12
                          refine lv_aload_n hx hb dX12_lays_152 rfl (lv_at hl 3 rfl) ?_
                          refine lv_iload hx hb dX12_lays_153 (lv_at hl 2 rfl) ?_
                          refine lv_aload_n hx hb dX12_lays_155 rfl (lv_at hl 3 rfl) ?_
                          refine va_get (D := D) (ci := 12) (v := .ref Mk) (C := RX12) (T := TX12) (N := 36) hx hb hts iX12 hown hK hP 0 rfl rfl 24 (bl rfl) (hts _ qf_X12_47) (fun _ h => h) rfl dX12_lays_156 ?_
                          refine lv_iload hx hb dX12_lays_159 (lv_at hl 2 rfl) ?_
                          refine va_iald hx hb hK hP 2 1 rfl rfl (zin (e := nx) (n := 6) ⟨by omega, by omega⟩ (bl rfl)) dX12_lays_161 ?_
                          refine lv_topi (fun x_13 ex_13 => ?_)
                          obtain rfl : x_13 = iZ (gz Kf4 nx) := ex_13.trans (gz_eq ⟨by omega, by omega⟩)
                          have h_14 := hk4 nx (by omega) (by omega)
                          refine lv_iload hx hb dX12_lays_162 (lv_at hl 0 rfl) ?_
                          refine CPV (As := [.int (iZ nx), .int (iZ (gz Kf4 nx)), .int (iZ o1)]) (rest := []) hx hb hml hown hts hKK (hP.sub (ws' := [(hm, .inr (12, [.ref Ma, .ref Mn, .int (iZ Mst), .long Mtp, .long Mbt, .ref Ms, .ref My, .ref Mt, .ref Mp, .ref Mx, .int (iZ Mtd), .int (iZ Msz), .int (iZ Mtk), .int (iZ Mfr), .int (iZ Men), .int (iZ Mva), .int (iZ Mfk), .int (iZ Mfp), .int (iZ Mfs), .int (iZ Mse), .int (iZ Mlt), .ref Mo, .int (iZ Mdp), .int (iZ Mct), .ref Mk, .ref Ml, .ref Mb, .ref Mh, .ref Mc, .int (iZ Mdr), .int (iZ Mrs), .ref Mz, .ref Mr, .ref Mq, .int (iZ Mit), .int (iZ Mmk)])), (Ma, .inl (k 1, 5340, .inl Af))]) [0, 1] rfl) (m_arrival l D k ([.ref Ma, .ref Mn, .int (iZ Mst), .long Mtp, .long Mbt, .ref Ms, .ref My, .ref Mt, .ref Mp, .ref Mx, .int (iZ Mtd), .int (iZ Msz), .int (iZ Mtk), .int (iZ Mfr), .int (iZ Men), .int (iZ Mva), .int (iZ Mfk), .int (iZ Mfp), .int (iZ Mfs), .int (iZ Mse), .int (iZ Mlt), .ref Mo, .int (iZ Mdp), .int (iZ Mct), .ref Mk, .ref Ml, .ref Mb, .ref Mh, .ref Mc, .int (iZ Mdr), .int (iZ Mrs), .ref Mz, .ref Mr, .ref Mq, .int (iZ Mit), .int (iZ Mmk)]) hm Ma Af nx (gz Kf4 nx) o1 rfl hM ⟨by omega, by omega⟩ ⟨by omega, by omega⟩ ⟨by omega, by omega⟩) ci_X12_arrival qm_X12_280 ⟨Nat.le_of_ble_eq_true rfl, Nat.le_of_ble_eq_true rfl⟩ ⟨Nat.le_of_ble_eq_true rfl, Nat.le_of_ble_eq_true rfl⟩ 0 rfl rfl rfl hl.1 rfl (Nat.le_of_ble_eq_true rfl) dX12_lays_164 (fun z_15 hz_15 => ?_)
                          obtain ⟨ez_15, az_15⟩ := hz_15
                          refine lv_istore (lv' := [(6, .int (iZ z_15)), (5, .int (iZ o1)), (3, .int (iZ z_8)), (4, .int (iZ nx)), (0, .ref hm), (1, .int (iZ x)), (2, .int (iZ w))]) hx hb dX12_lays_167 hl (bl rfl) rfl (fun ls hl => ?_)
                          refine lv_iload_n hx hb dX12_lays_169 rfl (lv_at hl 2 rfl) ?_
                          refine lv_iload hx hb dX12_lays_170 (lv_at hl 1 rfl) ?_
                          refine lv_ishr hx hb dX12_lays_172 ?_
                          refine lv_topi (fun x_17 ex_17 => ?_)
                          obtain ⟨z_16, hz_16, hz_16a, hz_16b⟩ := i32_z x_17
                          subst hz_16
                          refine lv_iconst (v := iZ 1) hx hb dX12_lays_173 rfl ?_
                          refine lv_iand hx hb dX12_lays_174 ?_
                          refine lv_topi (fun x_19 ex_19 => ?_)
                          obtain ⟨z_18, hz_18, hz_18a, hz_18b⟩ := i32_z x_19
                          subst hz_18
                          refine lv_iconst (v := iZ 1) hx hb dX12_lays_175 rfl ?_
                          have w01_z_18 := (wi_fin ex_17 ex_19 ⟨hz_18a, hz_18b⟩).2
                          refine lv_icmp_eq (tgt := 259) hx hb dX12_lays_176 rfl (fun c_20 => ?_) (fun c_20 => ?_)
                          ·
                            have c_20 := (zeq (x := iZ z_18) (y := iZ 1) rfl rfl ⟨by omega, by omega⟩ wn_1).mp c_20
                            refine lv_iinc (v := iZ (o1 + 1)) (lv' := [(5, .int (iZ (o1 + 1))), (6, .int (iZ z_15)), (3, .int (iZ z_8)), (4, .int (iZ nx)), (0, .ref hm), (1, .int (iZ x)), (2, .int (iZ w))]) hx hb dX12_lays_259 hl (k := 1) rfl (iZ_add o1 1) (by decide) rfl (fun ls hl => ?_)
                            refine lv_goto (tgt := 141) hx hb dX12_lays_262 rfl ?_
                            exact ih4  (o1 + 1) Kf4 Lf4 Bf4 _ _ _ (by omega) (show 0 ≤ (o1 + 1) ∧ (o1 + 1) ≤ gz Af 0 from ⟨by omega, by omega⟩) (show KR Kf4 6 from hk4) (show rgI Lf4 (-1) 5 6 from hl4) (show NWU (sh Af 10) (sh Af 46) (gz Af 1) (gz Af 0) x w (fun r => Tb z_8 r = true) nx (o1 + 1) Kf4 Lf4 Bf4 from (tr_n hnt mF m0.2 ⟨by omega, by omega⟩ htp ⟨by omega, by omega⟩ rfl (by first | exact Or.inl (bt_no ex_17 ex_19 ⟨hz_18a, hz_18b⟩ (by omega)) | exact Or.inr (by omega)))) (show rgI Bf4 0 (cc + 1) 6 from hbr4) (show 0 ≤ gz Bf4 nx ∧ gz Bf4 nx ≤ cc from hbn4) (hP.sub [0, 1, 2, 3, 4] rfl) (hD.sub [0, 1, 2, 3, 4] rfl rfl) hS (lv_sub hl [0, 2, 3, 4, 5, 6] rfl)
                          ·
                            have c_20 := mt (zeq (x := iZ z_18) (y := iZ 1) rfl rfl ⟨by omega, by omega⟩ wn_1).mpr c_20
                            refine lv_iload hx hb dX12_lays_179 (lv_at hl 0 rfl) ?_
                            refine lv_aload_n hx hb dX12_lays_181 rfl (lv_at hl 4 rfl) ?_
                            refine va_get (D := D) (ci := 12) (v := .ref Mk) (C := RX12) (T := TX12) (N := 36) hx hb hts iX12 hown hK hP 0 rfl rfl 24 (bl rfl) (hts _ qf_X12_47) (fun _ h => h) rfl dX12_lays_182 ?_
                            refine lv_iload hx hb dX12_lays_185 (lv_at hl 1 rfl) ?_
                            refine va_iald hx hb hK hP 2 1 rfl rfl (zin (e := o1) (n := 6) ⟨by omega, by omega⟩ (bl rfl)) dX12_lays_187 ?_
                            refine lv_topi (fun x_21 ex_21 => ?_)
                            obtain rfl : x_21 = iZ (gz Kf4 o1) := ex_21.trans (gz_eq ⟨by omega, by omega⟩)
                            have h_22 := hk4 o1 (by omega) (by omega)
                            refine lv_icmp_gt (tgt := 259) hx hb dX12_lays_188 rfl (fun c_23 => ?_) (fun c_23 => ?_)
                            ·
                              have c_23 := (zlt (x := iZ (gz Kf4 o1)) (y := iZ z_15) rfl rfl (gz_rg Kf4 o1) ⟨by omega, by omega⟩).mp c_23
                              refine lv_iinc (v := iZ (o1 + 1)) (lv' := [(5, .int (iZ (o1 + 1))), (6, .int (iZ z_15)), (3, .int (iZ z_8)), (4, .int (iZ nx)), (0, .ref hm), (1, .int (iZ x)), (2, .int (iZ w))]) hx hb dX12_lays_259 hl (k := 1) rfl (iZ_add o1 1) (by decide) rfl (fun ls hl => ?_)
                              refine lv_goto (tgt := 141) hx hb dX12_lays_262 rfl ?_
                              exact ih4  (o1 + 1) Kf4 Lf4 Bf4 _ _ _ (by omega) (show 0 ≤ (o1 + 1) ∧ (o1 + 1) ≤ gz Af 0 from ⟨by omega, by omega⟩) (show KR Kf4 6 from hk4) (show rgI Lf4 (-1) 5 6 from hl4) (show NWU (sh Af 10) (sh Af 46) (gz Af 1) (gz Af 0) x w (fun r => Tb z_8 r = true) nx (o1 + 1) Kf4 Lf4 Bf4 from (tr_n hnt mF m0.2 ⟨by omega, by omega⟩ htp ⟨by omega, by omega⟩ rfl (by first | exact Or.inl (bt_no ex_17 ex_19 ⟨hz_18a, hz_18b⟩ (by omega)) | exact Or.inr (by omega)))) (show rgI Bf4 0 (cc + 1) 6 from hbr4) (show 0 ≤ gz Bf4 nx ∧ gz Bf4 nx ≤ cc from hbn4) (hP.sub [0, 1, 2, 3, 4] rfl) (hD.sub [0, 1, 2, 3, 4] rfl rfl) hS (lv_sub hl [0, 2, 3, 4, 5, 6] rfl)
                            ·
                              have c_23 := mt (zlt (x := iZ (gz Kf4 o1)) (y := iZ z_15) rfl rfl (gz_rg Kf4 o1) ⟨by omega, by omega⟩).mpr c_23
                              refine lv_iload hx hb dX12_lays_191 (lv_at hl 0 rfl) ?_
                              refine lv_ldc (own := RX12) (v := 1000000) hx hb hown (hts _ qk_X12_88) dX12_lays_193 ?_
                              refine W.eq (g2 := F0 m 195 ls [.int (iZ 1000000), .int (iZ z_15)]) rfl ?_
                              refine lv_icmp_eq (tgt := 259) hx hb dX12_lays_195 rfl (fun c_24 => ?_) (fun c_24 => ?_)
                              ·
                                have c_24 := (zeq (x := iZ z_15) (y := iZ 1000000) rfl rfl ⟨by omega, by omega⟩ wn_1000000).mp c_24
                                refine lv_iinc (v := iZ (o1 + 1)) (lv' := [(5, .int (iZ (o1 + 1))), (6, .int (iZ z_15)), (3, .int (iZ z_8)), (4, .int (iZ nx)), (0, .ref hm), (1, .int (iZ x)), (2, .int (iZ w))]) hx hb dX12_lays_259 hl (k := 1) rfl (iZ_add o1 1) (by decide) rfl (fun ls hl => ?_)
                                refine lv_goto (tgt := 141) hx hb dX12_lays_262 rfl ?_
                                exact ih4  (o1 + 1) Kf4 Lf4 Bf4 _ _ _ (by omega) (show 0 ≤ (o1 + 1) ∧ (o1 + 1) ≤ gz Af 0 from ⟨by omega, by omega⟩) (show KR Kf4 6 from hk4) (show rgI Lf4 (-1) 5 6 from hl4) (show NWU (sh Af 10) (sh Af 46) (gz Af 1) (gz Af 0) x w (fun r => Tb z_8 r = true) nx (o1 + 1) Kf4 Lf4 Bf4 from (tr_n hnt mF m0.2 ⟨by omega, by omega⟩ htp ⟨by omega, by omega⟩ rfl (by first | exact Or.inl (bt_no ex_17 ex_19 ⟨hz_18a, hz_18b⟩ (by omega)) | exact Or.inr (by omega)))) (show rgI Bf4 0 (cc + 1) 6 from hbr4) (show 0 ≤ gz Bf4 nx ∧ gz Bf4 nx ≤ cc from hbn4) (hP.sub [0, 1, 2, 3, 4] rfl) (hD.sub [0, 1, 2, 3, 4] rfl rfl) hS (lv_sub hl [0, 2, 3, 4, 5, 6] rfl)
                              ·
                                have c_24 := mt (zeq (x := iZ z_15) (y := iZ 1000000) rfl rfl ⟨by omega, by omega⟩ wn_1000000).mpr c_24
                                refine lv_iload hx hb dX12_lays_198 (lv_at hl 0 rfl) ?_
                                refine lv_aload_n hx hb dX12_lays_200 rfl (lv_at hl 4 rfl) ?_
                                refine va_get (D := D) (ci := 12) (v := .ref Mk) (C := RX12) (T := TX12) (N := 36) hx hb hts iX12 hown hK hP 0 rfl rfl 24 (bl rfl) (hts _ qf_X12_47) (fun _ h => h) rfl dX12_lays_201 ?_
                                refine lv_iload hx hb dX12_lays_204 (lv_at hl 1 rfl) ?_
                                refine va_iald hx hb hK hP 2 1 rfl rfl (zin (e := o1) (n := 6) ⟨by omega, by omega⟩ (bl rfl)) dX12_lays_206 ?_
                                refine lv_topi (fun x_25 ex_25 => ?_)
                                obtain rfl : x_25 = iZ (gz Kf4 o1) := ex_25.trans (gz_eq ⟨by omega, by omega⟩)
                                have h_26 := hk4 o1 (by omega) (by omega)
                                refine lv_icmp_ne (tgt := 225) hx hb dX12_lays_207 rfl (fun c_27 => ?_) (fun c_27 => ?_)
                                ·
                                  have c_27 := mt (zeq (x := iZ z_15) (y := iZ (gz Kf4 o1)) rfl rfl ⟨by omega, by omega⟩ (gz_rg Kf4 o1)).mpr c_27
                                  refine lv_aload_n hx hb dX12_lays_225 rfl (lv_at hl 4 rfl) ?_
                                  refine va_get (D := D) (ci := 12) (v := .ref Mk) (C := RX12) (T := TX12) (N := 36) hx hb hts iX12 hown hK hP 0 rfl rfl 24 (bl rfl) (hts _ qf_X12_47) (fun _ h => h) rfl dX12_lays_226 ?_
                                  refine lv_iload hx hb dX12_lays_229 (lv_at hl 1 rfl) ?_
                                  refine lv_iload hx hb dX12_lays_231 (lv_at hl 0 rfl) ?_
                                  refine va_iast hx hb hK hP hD hS 2 1 rfl rfl (zin (e := o1) (n := 6) ⟨by omega, by omega⟩ (bl rfl)) dX12_lays_233 (fun H locs hP hD hS => ?_)
                                  obtain ⟨f_28, hf_28⟩ : ∃ gg9, gg9 = upd Kf4 (iZ o1).toNatClampNeg (iZ z_15) := ⟨_, rfl⟩
                                  rw [← hf_28] at hP hD
                                  have rgf_28 := KR.up hk4 hf_28 ⟨by omega, by omega⟩ (by omega)
                                  refine lv_aload_n hx hb dX12_lays_234 rfl (lv_at hl 4 rfl) ?_
                                  refine va_get (D := D) (ci := 12) (v := .ref Ml) (C := RX12) (T := TX12) (N := 36) hx hb hts iX12 hown hK hP 0 rfl rfl 25 (bl rfl) (hts _ qf_X12_50) (fun _ h => h) rfl dX12_lays_235 ?_
                                  refine lv_iload hx hb dX12_lays_238 (lv_at hl 1 rfl) ?_
                                  refine lv_iload hx hb dX12_lays_240 (lv_at hl 3 rfl) ?_
                                  refine va_iast hx hb hK hP hD hS 3 1 rfl rfl (zin (e := o1) (n := 6) ⟨by omega, by omega⟩ (bl rfl)) dX12_lays_242 (fun H locs hP hD hS => ?_)
                                  obtain ⟨f_29, hf_29⟩ : ∃ gg9, gg9 = upd Lf4 (iZ o1).toNatClampNeg (iZ nx) := ⟨_, rfl⟩
                                  rw [← hf_29] at hP hD
                                  have rgf_29 := rg_upd hl4 hf_29 (by omega) ⟨by omega, by omega⟩ ⟨by omega, by omega⟩
                                  refine lv_aload_n hx hb dX12_lays_243 rfl (lv_at hl 4 rfl) ?_
                                  refine va_get (D := D) (ci := 12) (v := .ref Mb) (C := RX12) (T := TX12) (N := 36) hx hb hts iX12 hown hK hP 0 rfl rfl 26 (bl rfl) (hts _ qf_X12_53) (fun _ h => h) rfl dX12_lays_244 ?_
                                  refine lv_iload hx hb dX12_lays_247 (lv_at hl 1 rfl) ?_
                                  refine lv_aload_n hx hb dX12_lays_249 rfl (lv_at hl 4 rfl) ?_
                                  refine va_get (D := D) (ci := 12) (v := .ref Mb) (C := RX12) (T := TX12) (N := 36) hx hb hts iX12 hown hK hP 0 rfl rfl 26 (bl rfl) (hts _ qf_X12_53) (fun _ h => h) rfl dX12_lays_250 ?_
                                  refine lv_iload hx hb dX12_lays_253 (lv_at hl 3 rfl) ?_
                                  refine va_iald hx hb hK hP 4 1 rfl rfl (zin (e := nx) (n := 6) ⟨by omega, by omega⟩ (bl rfl)) dX12_lays_255 ?_
                                  refine lv_topi (fun x_30 ex_30 => ?_)
                                  obtain rfl : x_30 = iZ (gz Bf4 nx) := ex_30.trans (gz_eq ⟨by omega, by omega⟩)
                                  have h_31 := gz_rg Bf4 nx
                                  refine lv_iconst (v := iZ 1) hx hb dX12_lays_256 rfl ?_
                                  refine lv_iadd hx hb dX12_lays_257 ?_
                                  refine lv_topi (fun x_32 ex_32 => ?_)
                                  obtain rfl : x_32 = iZ ((gz Bf4 nx) + 1) := ex_32.trans (iZ_add (gz Bf4 nx) 1)
                                  refine va_iast hx hb hK hP hD hS 4 1 rfl rfl (zin (e := o1) (n := 6) ⟨by omega, by omega⟩ (bl rfl)) dX12_lays_258 (fun H locs hP hD hS => ?_)
                                  obtain ⟨f_33, hf_33⟩ : ∃ gg9, gg9 = upd Bf4 (iZ o1).toNatClampNeg (iZ ((gz Bf4 nx) + 1)) := ⟨_, rfl⟩
                                  rw [← hf_33] at hP hD
                                  refine lv_iinc (v := iZ (o1 + 1)) (lv' := [(5, .int (iZ (o1 + 1))), (6, .int (iZ z_15)), (3, .int (iZ z_8)), (4, .int (iZ nx)), (0, .ref hm), (1, .int (iZ x)), (2, .int (iZ w))]) hx hb dX12_lays_259 hl (k := 1) rfl (iZ_add o1 1) (by decide) rfl (fun ls hl => ?_)
                                  refine lv_goto (tgt := 141) hx hb dX12_lays_262 rfl ?_
                                  exact ih4  (o1 + 1) f_28 f_29 f_33 _ _ _ (by omega) (show 0 ≤ (o1 + 1) ∧ (o1 + 1) ≤ gz Af 0 from ⟨by omega, by omega⟩) (show KR f_28 6 from rgf_28) (show rgI f_29 (-1) 5 6 from rgf_29) (show NWU (sh Af 10) (sh Af 46) (gz Af 1) (gz Af 0) x w (fun r => Tb z_8 r = true) nx (o1 + 1) f_28 f_29 f_33 from (tr_u hnt mF m0.2 h9x ⟨by omega, by omega⟩ htp ⟨by omega, by omega⟩ ez_15 (bt_of ex_17 ex_19 (by omega)) (by omega) (by omega) (by omega) ⟨by omega, by omega⟩ rfl ⟨by omega, by omega⟩ hf_28 hf_29 hf_33)) (show rgI f_33 0 (cc + 1) 6 from (fun e9 h1 h2 => by rw [gz_up hf_33 ⟨by omega, by omega⟩ ⟨by omega, by omega⟩ h1]; have d9 := hbr4 e9 h1 h2; split <;> omega)) (show 0 ≤ gz f_33 nx ∧ gz f_33 nx ≤ cc from (by rw [gz_up hf_33 ⟨by omega, by omega⟩ ⟨by omega, by omega⟩ (by omega), if_neg (fun e9 => (Tb_iff.mp htp).2 (by rw [e9]; exact bt_of ex_17 ex_19 (by omega)))]; exact hbn4)) (hP.sub [0, 1, 2, 3, 4] rfl) (hD.sub [0, 1, 2, 3, 4] rfl rfl) hS (lv_sub hl [0, 2, 3, 4, 5, 6] rfl)
                                ·
                                  have c_27 := (zeq (x := iZ z_15) (y := iZ (gz Kf4 o1)) rfl rfl ⟨by omega, by omega⟩ (gz_rg Kf4 o1)).mp c_27
                                  refine lv_iload hx hb dX12_lays_210 (lv_at hl 3 rfl) ?_
                                  refine lv_aload_n hx hb dX12_lays_212 rfl (lv_at hl 4 rfl) ?_
                                  refine va_get (D := D) (ci := 12) (v := .ref Ml) (C := RX12) (T := TX12) (N := 36) hx hb hts iX12 hown hK hP 0 rfl rfl 25 (bl rfl) (hts _ qf_X12_50) (fun _ h => h) rfl dX12_lays_213 ?_
                                  refine lv_iload hx hb dX12_lays_216 (lv_at hl 1 rfl) ?_
                                  refine va_iald hx hb hK hP 3 1 rfl rfl (zin (e := o1) (n := 6) ⟨by omega, by omega⟩ (bl rfl)) dX12_lays_218 ?_
                                  refine lv_topi (fun x_34 ex_34 => ?_)
                                  obtain rfl : x_34 = iZ (gz Lf4 o1) := ex_34.trans (gz_eq ⟨by omega, by omega⟩)
                                  have h_35 := hl4 o1 (by omega) (by omega)
                                  refine lv_icmp_le (tgt := 225) hx hb dX12_lays_219 rfl (fun c_36 => ?_) (fun c_36 => ?_)
                                  ·
                                    have c_36 := (zle (x := iZ nx) (y := iZ (gz Lf4 o1)) rfl rfl ⟨by omega, by omega⟩ (gz_rg Lf4 o1)).mp c_36
                                    refine lv_aload_n hx hb dX12_lays_225 rfl (lv_at hl 4 rfl) ?_
                                    refine va_get (D := D) (ci := 12) (v := .ref Mk) (C := RX12) (T := TX12) (N := 36) hx hb hts iX12 hown hK hP 0 rfl rfl 24 (bl rfl) (hts _ qf_X12_47) (fun _ h => h) rfl dX12_lays_226 ?_
                                    refine lv_iload hx hb dX12_lays_229 (lv_at hl 1 rfl) ?_
                                    refine lv_iload hx hb dX12_lays_231 (lv_at hl 0 rfl) ?_
                                    refine va_iast hx hb hK hP hD hS 2 1 rfl rfl (zin (e := o1) (n := 6) ⟨by omega, by omega⟩ (bl rfl)) dX12_lays_233 (fun H locs hP hD hS => ?_)
                                    obtain ⟨f_37, hf_37⟩ : ∃ gg9, gg9 = upd Kf4 (iZ o1).toNatClampNeg (iZ z_15) := ⟨_, rfl⟩
                                    rw [← hf_37] at hP hD
                                    have rgf_37 := KR.up hk4 hf_37 ⟨by omega, by omega⟩ (by omega)
                                    refine lv_aload_n hx hb dX12_lays_234 rfl (lv_at hl 4 rfl) ?_
                                    refine va_get (D := D) (ci := 12) (v := .ref Ml) (C := RX12) (T := TX12) (N := 36) hx hb hts iX12 hown hK hP 0 rfl rfl 25 (bl rfl) (hts _ qf_X12_50) (fun _ h => h) rfl dX12_lays_235 ?_
                                    refine lv_iload hx hb dX12_lays_238 (lv_at hl 1 rfl) ?_
                                    refine lv_iload hx hb dX12_lays_240 (lv_at hl 3 rfl) ?_
                                    refine va_iast hx hb hK hP hD hS 3 1 rfl rfl (zin (e := o1) (n := 6) ⟨by omega, by omega⟩ (bl rfl)) dX12_lays_242 (fun H locs hP hD hS => ?_)
                                    obtain ⟨f_38, hf_38⟩ : ∃ gg9, gg9 = upd Lf4 (iZ o1).toNatClampNeg (iZ nx) := ⟨_, rfl⟩
                                    rw [← hf_38] at hP hD
                                    have rgf_38 := rg_upd hl4 hf_38 (by omega) ⟨by omega, by omega⟩ ⟨by omega, by omega⟩
                                    refine lv_aload_n hx hb dX12_lays_243 rfl (lv_at hl 4 rfl) ?_
                                    refine va_get (D := D) (ci := 12) (v := .ref Mb) (C := RX12) (T := TX12) (N := 36) hx hb hts iX12 hown hK hP 0 rfl rfl 26 (bl rfl) (hts _ qf_X12_53) (fun _ h => h) rfl dX12_lays_244 ?_
                                    refine lv_iload hx hb dX12_lays_247 (lv_at hl 1 rfl) ?_
                                    refine lv_aload_n hx hb dX12_lays_249 rfl (lv_at hl 4 rfl) ?_
                                    refine va_get (D := D) (ci := 12) (v := .ref Mb) (C := RX12) (T := TX12) (N := 36) hx hb hts iX12 hown hK hP 0 rfl rfl 26 (bl rfl) (hts _ qf_X12_53) (fun _ h => h) rfl dX12_lays_250 ?_
                                    refine lv_iload hx hb dX12_lays_253 (lv_at hl 3 rfl) ?_
                                    refine va_iald hx hb hK hP 4 1 rfl rfl (zin (e := nx) (n := 6) ⟨by omega, by omega⟩ (bl rfl)) dX12_lays_255 ?_
                                    refine lv_topi (fun x_39 ex_39 => ?_)
                                    obtain rfl : x_39 = iZ (gz Bf4 nx) := ex_39.trans (gz_eq ⟨by omega, by omega⟩)
                                    have h_40 := gz_rg Bf4 nx
                                    refine lv_iconst (v := iZ 1) hx hb dX12_lays_256 rfl ?_
                                    refine lv_iadd hx hb dX12_lays_257 ?_
                                    refine lv_topi (fun x_41 ex_41 => ?_)
                                    obtain rfl : x_41 = iZ ((gz Bf4 nx) + 1) := ex_41.trans (iZ_add (gz Bf4 nx) 1)
                                    refine va_iast hx hb hK hP hD hS 4 1 rfl rfl (zin (e := o1) (n := 6) ⟨by omega, by omega⟩ (bl rfl)) dX12_lays_258 (fun H locs hP hD hS => ?_)
                                    obtain ⟨f_42, hf_42⟩ : ∃ gg9, gg9 = upd Bf4 (iZ o1).toNatClampNeg (iZ ((gz Bf4 nx) + 1)) := ⟨_, rfl⟩
                                    rw [← hf_42] at hP hD
                                    refine lv_iinc (v := iZ (o1 + 1)) (lv' := [(5, .int (iZ (o1 + 1))), (6, .int (iZ z_15)), (3, .int (iZ z_8)), (4, .int (iZ nx)), (0, .ref hm), (1, .int (iZ x)), (2, .int (iZ w))]) hx hb dX12_lays_259 hl (k := 1) rfl (iZ_add o1 1) (by decide) rfl (fun ls hl => ?_)
                                    refine lv_goto (tgt := 141) hx hb dX12_lays_262 rfl ?_
                                    exact ih4  (o1 + 1) f_37 f_38 f_42 _ _ _ (by omega) (show 0 ≤ (o1 + 1) ∧ (o1 + 1) ≤ gz Af 0 from ⟨by omega, by omega⟩) (show KR f_37 6 from rgf_37) (show rgI f_38 (-1) 5 6 from rgf_38) (show NWU (sh Af 10) (sh Af 46) (gz Af 1) (gz Af 0) x w (fun r => Tb z_8 r = true) nx (o1 + 1) f_37 f_38 f_42 from (tr_u hnt mF m0.2 h9x ⟨by omega, by omega⟩ htp ⟨by omega, by omega⟩ ez_15 (bt_of ex_17 ex_19 (by omega)) (by omega) (by omega) (by omega) ⟨by omega, by omega⟩ rfl ⟨by omega, by omega⟩ hf_37 hf_38 hf_42)) (show rgI f_42 0 (cc + 1) 6 from (fun e9 h1 h2 => by rw [gz_up hf_42 ⟨by omega, by omega⟩ ⟨by omega, by omega⟩ h1]; have d9 := hbr4 e9 h1 h2; split <;> omega)) (show 0 ≤ gz f_42 nx ∧ gz f_42 nx ≤ cc from (by rw [gz_up hf_42 ⟨by omega, by omega⟩ ⟨by omega, by omega⟩ (by omega), if_neg (fun e9 => (Tb_iff.mp htp).2 (by rw [e9]; exact bt_of ex_17 ex_19 (by omega)))]; exact hbn4)) (hP.sub [0, 1, 2, 3, 4] rfl) (hD.sub [0, 1, 2, 3, 4] rfl rfl) hS (lv_sub hl [0, 2, 3, 4, 5, 6] rfl)
                                  ·
                                    have c_36 := mt (zle (x := iZ nx) (y := iZ (gz Lf4 o1)) rfl rfl ⟨by omega, by omega⟩ (gz_rg Lf4 o1)).mpr c_36
                                    refine lv_goto (tgt := 259) hx hb dX12_lays_222 rfl ?_
                                    refine lv_iinc (v := iZ (o1 + 1)) (lv' := [(5, .int (iZ (o1 + 1))), (6, .int (iZ z_15)), (3, .int (iZ z_8)), (4, .int (iZ nx)), (0, .ref hm), (1, .int (iZ x)), (2, .int (iZ w))]) hx hb dX12_lays_259 hl (k := 1) rfl (iZ_add o1 1) (by decide) rfl (fun ls hl => ?_)
                                    refine lv_goto (tgt := 141) hx hb dX12_lays_262 rfl ?_
                                    exact ih4  (o1 + 1) Kf4 Lf4 Bf4 _ _ _ (by omega) (show 0 ≤ (o1 + 1) ∧ (o1 + 1) ≤ gz Af 0 from ⟨by omega, by omega⟩) (show KR Kf4 6 from hk4) (show rgI Lf4 (-1) 5 6 from hl4) (show NWU (sh Af 10) (sh Af 46) (gz Af 1) (gz Af 0) x w (fun r => Tb z_8 r = true) nx (o1 + 1) Kf4 Lf4 Bf4 from (tr_n hnt mF m0.2 ⟨by omega, by omega⟩ htp ⟨by omega, by omega⟩ rfl (by first | exact Or.inl (bt_no ex_17 ex_19 ⟨hz_18a, hz_18b⟩ (by omega)) | exact Or.inr (by omega)))) (show rgI Bf4 0 (cc + 1) 6 from hbr4) (show 0 ≤ gz Bf4 nx ∧ gz Bf4 nx ≤ cc from hbn4) (hP.sub [0, 1, 2, 3, 4] rfl) (hD.sub [0, 1, 2, 3, 4] rfl rfl) hS (lv_sub hl [0, 2, 3, 4, 5, 6] rfl)
                    exact HL4 8 0 Kf2 Lf2 Bf2 _ _ _ (by omega) (show 0 ≤ 0 ∧ 0 ≤ gz Af 0 from ⟨by omega, by omega⟩) (show KR Kf2 6 from hk2) (show rgI Lf2 (-1) 5 6 from hl2) (show NWU (sh Af 10) (sh Af 46) (gz Af 1) (gz Af 0) x w (fun r => Tb z_8 r = true) nx 0 Kf2 Lf2 Bf2 from hnt0) (show rgI Bf2 0 (cc + 1) 6 from (fun e9 h1 h2 => by have d9 := hnr.2.1 e9 h1 h2; omega)) (show 0 ≤ gz Bf2 nx ∧ gz Bf2 nx ≤ cc from hbn0) (hP.sub [0, 1, 2, 3, 4] rfl) (hD.sub [0, 1, 2, 3, 4] rfl rfl) hS (lv_sub hl [0, 1, 2, 3, 4, 5] rfl)
                  ·
                    have c_5 := (zeq (x := iZ nx) (y := iZ (-1)) rfl rfl ⟨by omega, by omega⟩ wn_m1).mp c_5
                    exact EWv hx hb hr hlocks hS (0, 0, (Kf2, Lf2, Bf2), ()) rfl ⟨(show KR Kf2 6 from hk2), (show rgI Lf2 (-1) 5 6 from hl2), (show isNW (arF (sh Af 10) (sh Af 46) (gz Af 1)) (gz Af 0) x w (gz Kf2) (gz Lf2) (gz Bf2) from (NWR_e hnr m0.2 (SR_m1 hsr2 (by omega))))⟩ (hP.sub [0, 1, 2, 3, 4] rfl) (hD.sub [0, 1, 2, 3, 4] rfl rfl) dX12_lays_130
                ·
                  have c_4 := mt (zle (x := iZ (gz Af 0)) (y := iZ r1) rfl rfl (gz_rg Af 0) ⟨by omega, by omega⟩).mpr c_4
                  refine lv_iload_n hx hb dX12_lays_70 rfl (lv_at hl 2 rfl) ?_
                  refine lv_iload hx hb dX12_lays_71 (lv_at hl 0 rfl) ?_
                  refine lv_ishr hx hb dX12_lays_73 ?_
                  refine lv_topi (fun x_44 ex_44 => ?_)
                  obtain ⟨z_43, hz_43, hz_43a, hz_43b⟩ := i32_z x_44
                  subst hz_43
                  refine lv_iconst (v := iZ 1) hx hb dX12_lays_74 rfl ?_
                  refine lv_iand hx hb dX12_lays_75 ?_
                  refine lv_topi (fun x_46 ex_46 => ?_)
                  obtain ⟨z_45, hz_45, hz_45a, hz_45b⟩ := i32_z x_46
                  subst hz_45
                  refine lv_if_ne (tgt := 118) hx hb dX12_lays_76 rfl (fun c_47 => ?_) (fun c_47 => ?_)
                  ·
                    have c_47 := mt (zeq (x := iZ z_45) (y := iZ 0) rfl rfl ⟨by omega, by omega⟩ wn_0).mpr c_47
                    refine lv_iinc (v := iZ (r1 + 1)) (lv' := [(5, .int (iZ (r1 + 1))), (4, .int (iZ nx)), (3, .int (iZ se)), (0, .ref hm), (1, .int (iZ x)), (2, .int (iZ w))]) hx hb dX12_lays_118 hl (k := 0) rfl (iZ_add r1 1) (by decide) rfl (fun ls hl => ?_)
                    refine lv_goto (tgt := 59) hx hb dX12_lays_121 rfl ?_
                    exact ih3  nx (r1 + 1) _ _ _ (by omega) (show 0 ≤ (r1 + 1) ∧ (r1 + 1) ≤ gz Af 0 from ⟨by omega, by omega⟩) (show -1 ≤ nx ∧ nx < gz Af 0 from ⟨by omega, by omega⟩) (show SR Kf2 se (r1 + 1) nx from (SR_n hsr (by first | exact Or.inl (Or.inr (bt_no ex_44 ex_46 ⟨hz_45a, hz_45b⟩ (by omega))) | exact Or.inl (Or.inl (by omega)) | exact Or.inr ⟨by omega, by omega⟩))) (hP.sub [0, 1, 2, 3, 4] rfl) (hD.sub [0, 1, 2, 3, 4] rfl rfl) hS (lv_sub hl [0, 1, 2, 3, 4, 5] rfl)
                  ·
                    have c_47 := (zeq (x := iZ z_45) (y := iZ 0) rfl rfl ⟨by omega, by omega⟩ wn_0).mp c_47
                    refine lv_aload_n hx hb dX12_lays_79 rfl (lv_at hl 3 rfl) ?_
                    refine va_get (D := D) (ci := 12) (v := .ref Mk) (C := RX12) (T := TX12) (N := 36) hx hb hts iX12 hown hK hP 0 rfl rfl 24 (bl rfl) (hts _ qf_X12_47) (fun _ h => h) rfl dX12_lays_80 ?_
                    refine lv_iload hx hb dX12_lays_83 (lv_at hl 0 rfl) ?_
                    refine va_iald hx hb hK hP 2 1 rfl rfl (zin (e := r1) (n := 6) ⟨by omega, by omega⟩ (bl rfl)) dX12_lays_85 ?_
                    refine lv_topi (fun x_48 ex_48 => ?_)
                    obtain rfl : x_48 = iZ (gz Kf2 r1) := ex_48.trans (gz_eq ⟨by omega, by omega⟩)
                    have h_49 := hk2 r1 (by omega) (by omega)
                    refine lv_ldc (own := RX12) (v := 1000000) hx hb hown (hts _ qk_X12_88) dX12_lays_86 ?_
                    refine W.eq (g2 := F0 m 88 ls [.int (iZ 1000000), .int (iZ (gz Kf2 r1))]) rfl ?_
                    refine lv_icmp_ge (tgt := 118) hx hb dX12_lays_88 rfl (fun c_50 => ?_) (fun c_50 => ?_)
                    ·
                      have c_50 := (zle (x := iZ 1000000) (y := iZ (gz Kf2 r1)) rfl rfl wn_1000000 (gz_rg Kf2 r1)).mp c_50
                      refine lv_iinc (v := iZ (r1 + 1)) (lv' := [(5, .int (iZ (r1 + 1))), (4, .int (iZ nx)), (3, .int (iZ se)), (0, .ref hm), (1, .int (iZ x)), (2, .int (iZ w))]) hx hb dX12_lays_118 hl (k := 0) rfl (iZ_add r1 1) (by decide) rfl (fun ls hl => ?_)
                      refine lv_goto (tgt := 59) hx hb dX12_lays_121 rfl ?_
                      exact ih3  nx (r1 + 1) _ _ _ (by omega) (show 0 ≤ (r1 + 1) ∧ (r1 + 1) ≤ gz Af 0 from ⟨by omega, by omega⟩) (show -1 ≤ nx ∧ nx < gz Af 0 from ⟨by omega, by omega⟩) (show SR Kf2 se (r1 + 1) nx from (SR_n hsr (by first | exact Or.inl (Or.inr (bt_no ex_44 ex_46 ⟨hz_45a, hz_45b⟩ (by omega))) | exact Or.inl (Or.inl (by omega)) | exact Or.inr ⟨by omega, by omega⟩))) (hP.sub [0, 1, 2, 3, 4] rfl) (hD.sub [0, 1, 2, 3, 4] rfl rfl) hS (lv_sub hl [0, 1, 2, 3, 4, 5] rfl)
                    ·
                      have c_50 := mt (zle (x := iZ 1000000) (y := iZ (gz Kf2 r1)) rfl rfl wn_1000000 (gz_rg Kf2 r1)).mpr c_50
                      refine lv_iload hx hb dX12_lays_91 (lv_at hl 1 rfl) ?_
                      refine lv_iconst (v := iZ (-1)) hx hb dX12_lays_93 rfl ?_
                      refine lv_icmp_eq (tgt := 114) hx hb dX12_lays_94 rfl (fun c_51 => ?_) (fun c_51 => ?_)
                      ·
                        have c_51 := (zeq (x := iZ nx) (y := iZ (-1)) rfl rfl ⟨by omega, by omega⟩ wn_m1).mp c_51
                        refine lv_iload hx hb dX12_lays_114 (lv_at hl 0 rfl) ?_
                        refine lv_istore (lv' := [(4, .int (iZ r1)), (5, .int (iZ r1)), (3, .int (iZ se)), (0, .ref hm), (1, .int (iZ x)), (2, .int (iZ w))]) hx hb dX12_lays_116 hl (bl rfl) rfl (fun ls hl => ?_)
                        refine lv_iinc (v := iZ (r1 + 1)) (lv' := [(5, .int (iZ (r1 + 1))), (4, .int (iZ r1)), (3, .int (iZ se)), (0, .ref hm), (1, .int (iZ x)), (2, .int (iZ w))]) hx hb dX12_lays_118 hl (k := 1) rfl (iZ_add r1 1) (by decide) rfl (fun ls hl => ?_)
                        refine lv_goto (tgt := 59) hx hb dX12_lays_121 rfl ?_
                        exact ih3  r1 (r1 + 1) _ _ _ (by omega) (show 0 ≤ (r1 + 1) ∧ (r1 + 1) ≤ gz Af 0 from ⟨by omega, by omega⟩) (show -1 ≤ r1 ∧ r1 < gz Af 0 from ⟨by omega, by omega⟩) (show SR Kf2 se (r1 + 1) r1 from (SR_u hsr (by omega) (by omega) (bt_of ex_44 ex_46 (by omega)) (by omega))) (hP.sub [0, 1, 2, 3, 4] rfl) (hD.sub [0, 1, 2, 3, 4] rfl rfl) hS (lv_sub hl [0, 1, 2, 3, 4, 5] rfl)
                      ·
                        have c_51 := mt (zeq (x := iZ nx) (y := iZ (-1)) rfl rfl ⟨by omega, by omega⟩ wn_m1).mpr c_51
                        refine lv_aload_n hx hb dX12_lays_97 rfl (lv_at hl 3 rfl) ?_
                        refine va_get (D := D) (ci := 12) (v := .ref Mk) (C := RX12) (T := TX12) (N := 36) hx hb hts iX12 hown hK hP 0 rfl rfl 24 (bl rfl) (hts _ qf_X12_47) (fun _ h => h) rfl dX12_lays_98 ?_
                        refine lv_iload hx hb dX12_lays_101 (lv_at hl 0 rfl) ?_
                        refine va_iald hx hb hK hP 2 1 rfl rfl (zin (e := r1) (n := 6) ⟨by omega, by omega⟩ (bl rfl)) dX12_lays_103 ?_
                        refine lv_topi (fun x_52 ex_52 => ?_)
                        obtain rfl : x_52 = iZ (gz Kf2 r1) := ex_52.trans (gz_eq ⟨by omega, by omega⟩)
                        have h_53 := hk2 r1 (by omega) (by omega)
                        refine lv_aload_n hx hb dX12_lays_104 rfl (lv_at hl 3 rfl) ?_
                        refine va_get (D := D) (ci := 12) (v := .ref Mk) (C := RX12) (T := TX12) (N := 36) hx hb hts iX12 hown hK hP 0 rfl rfl 24 (bl rfl) (hts _ qf_X12_47) (fun _ h => h) rfl dX12_lays_105 ?_
                        refine lv_iload hx hb dX12_lays_108 (lv_at hl 1 rfl) ?_
                        refine va_iald hx hb hK hP 2 1 rfl rfl (zin (e := nx) (n := 6) ⟨by omega, by omega⟩ (bl rfl)) dX12_lays_110 ?_
                        refine lv_topi (fun x_54 ex_54 => ?_)
                        obtain rfl : x_54 = iZ (gz Kf2 nx) := ex_54.trans (gz_eq ⟨by omega, by omega⟩)
                        have h_55 := hk2 nx (by omega) (by omega)
                        refine lv_icmp_ge (tgt := 118) hx hb dX12_lays_111 rfl (fun c_56 => ?_) (fun c_56 => ?_)
                        ·
                          have c_56 := (zle (x := iZ (gz Kf2 nx)) (y := iZ (gz Kf2 r1)) rfl rfl (gz_rg Kf2 nx) (gz_rg Kf2 r1)).mp c_56
                          refine lv_iinc (v := iZ (r1 + 1)) (lv' := [(5, .int (iZ (r1 + 1))), (4, .int (iZ nx)), (3, .int (iZ se)), (0, .ref hm), (1, .int (iZ x)), (2, .int (iZ w))]) hx hb dX12_lays_118 hl (k := 0) rfl (iZ_add r1 1) (by decide) rfl (fun ls hl => ?_)
                          refine lv_goto (tgt := 59) hx hb dX12_lays_121 rfl ?_
                          exact ih3  nx (r1 + 1) _ _ _ (by omega) (show 0 ≤ (r1 + 1) ∧ (r1 + 1) ≤ gz Af 0 from ⟨by omega, by omega⟩) (show -1 ≤ nx ∧ nx < gz Af 0 from ⟨by omega, by omega⟩) (show SR Kf2 se (r1 + 1) nx from (SR_n hsr (by first | exact Or.inl (Or.inr (bt_no ex_44 ex_46 ⟨hz_45a, hz_45b⟩ (by omega))) | exact Or.inl (Or.inl (by omega)) | exact Or.inr ⟨by omega, by omega⟩))) (hP.sub [0, 1, 2, 3, 4] rfl) (hD.sub [0, 1, 2, 3, 4] rfl rfl) hS (lv_sub hl [0, 1, 2, 3, 4, 5] rfl)
                        ·
                          have c_56 := mt (zle (x := iZ (gz Kf2 nx)) (y := iZ (gz Kf2 r1)) rfl rfl (gz_rg Kf2 nx) (gz_rg Kf2 r1)).mpr c_56
                          refine lv_iload hx hb dX12_lays_114 (lv_at hl 0 rfl) ?_
                          refine lv_istore (lv' := [(4, .int (iZ r1)), (5, .int (iZ r1)), (3, .int (iZ se)), (0, .ref hm), (1, .int (iZ x)), (2, .int (iZ w))]) hx hb dX12_lays_116 hl (bl rfl) rfl (fun ls hl => ?_)
                          refine lv_iinc (v := iZ (r1 + 1)) (lv' := [(5, .int (iZ (r1 + 1))), (4, .int (iZ r1)), (3, .int (iZ se)), (0, .ref hm), (1, .int (iZ x)), (2, .int (iZ w))]) hx hb dX12_lays_118 hl (k := 1) rfl (iZ_add r1 1) (by decide) rfl (fun ls hl => ?_)
                          refine lv_goto (tgt := 59) hx hb dX12_lays_121 rfl ?_
                          exact ih3  r1 (r1 + 1) _ _ _ (by omega) (show 0 ≤ (r1 + 1) ∧ (r1 + 1) ≤ gz Af 0 from ⟨by omega, by omega⟩) (show -1 ≤ r1 ∧ r1 < gz Af 0 from ⟨by omega, by omega⟩) (show SR Kf2 se (r1 + 1) r1 from (SR_u hsr (by omega) (by omega) (bt_of ex_44 ex_46 (by omega)) (by omega))) (hP.sub [0, 1, 2, 3, 4] rfl) (hD.sub [0, 1, 2, 3, 4] rfl rfl) hS (lv_sub hl [0, 1, 2, 3, 4, 5] rfl)
            exact HL3 8 (-1) 0 _ _ _ (by omega) (show 0 ≤ 0 ∧ 0 ≤ gz Af 0 from ⟨by omega, by omega⟩) (show -1 ≤ (-1) ∧ (-1) < gz Af 0 from ⟨by omega, by omega⟩) (show SR Kf2 se 0 (-1) from SR_0) (hP.sub [0, 1, 2, 3, 4] rfl) (hD.sub [0, 1, 2, 3, 4] rfl rfl) hS (lv_sub hl [0, 1, 2, 3, 4, 5] rfl)
        exact HL2 66 0 Kf1 Lf1 Bf1 0 _ _ _ (by omega) (show 0 ≤ 0 ∧ 0 < 64 from ⟨by omega, by omega⟩) (show KR Kf1 6 from hk1) (show rgI Lf1 (-1) 5 6 from hl1) (show NWR (sh Af 10) (sh Af 46) (gz Af 1) (gz Af 0) x w 0 0 Kf1 Lf1 Bf1 from (NWR_0 ⟨by omega, by omega⟩ h9x m0.2 hkx hlx hbx)) (hP.sub [0, 1, 2, 3, 4] rfl) (hD.sub [0, 1, 2, 3, 4] rfl rfl) hS (lv_sub hl [1, 2, 3, 4] rfl)
      ·
        have c_1 := mt (zle (x := iZ 6) (y := iZ i) rfl rfl wn_6 ⟨by omega, by omega⟩).mpr c_1
        refine lv_aload_n hx hb dX12_lays_12 rfl (lv_at hl 2 rfl) ?_
        refine va_get (D := D) (ci := 12) (v := .ref Mk) (C := RX12) (T := TX12) (N := 36) hx hb hts iX12 hown hK hP 0 rfl rfl 24 (bl rfl) (hts _ qf_X12_47) (fun _ h => h) rfl dX12_lays_13 ?_
        refine lv_iload hx hb dX12_lays_16 (lv_at hl 0 rfl) ?_
        refine lv_iload hx hb dX12_lays_18 (lv_at hl 0 rfl) ?_
        refine lv_iload_n hx hb dX12_lays_20 rfl (lv_at hl 3 rfl) ?_
        refine lv_icmp_ne (tgt := 28) hx hb dX12_lays_21 rfl (fun c_57 => ?_) (fun c_57 => ?_)
        ·
          have c_57 := mt (zeq (x := iZ i) (y := iZ x) rfl rfl ⟨by omega, by omega⟩ ⟨by omega, by omega⟩).mpr c_57
          refine lv_ldc (own := RX12) (v := 1000000) hx hb hown (hts _ qk_X12_88) dX12_lays_28 ?_
          refine W.eq (g2 := F0 m 30 ls [.int (iZ 1000000), .int (iZ i), .ref Mk]) rfl ?_
          refine va_iast hx hb hK hP hD hS 2 1 rfl rfl (zin (e := i) (n := 6) ⟨by omega, by omega⟩ (bl rfl)) dX12_lays_30 (fun H locs hP hD hS => ?_)
          obtain ⟨f_58, hf_58⟩ : ∃ gg9, gg9 = upd Kf1 (iZ i).toNatClampNeg (iZ 1000000) := ⟨_, rfl⟩
          rw [← hf_58] at hP hD
          refine lv_aload_n hx hb dX12_lays_31 rfl (lv_at hl 2 rfl) ?_
          refine va_get (D := D) (ci := 12) (v := .ref Ml) (C := RX12) (T := TX12) (N := 36) hx hb hts iX12 hown hK hP 0 rfl rfl 25 (bl rfl) (hts _ qf_X12_50) (fun _ h => h) rfl dX12_lays_32 ?_
          refine lv_iload hx hb dX12_lays_35 (lv_at hl 0 rfl) ?_
          refine lv_iconst (v := iZ (-1)) hx hb dX12_lays_37 rfl ?_
          refine va_iast hx hb hK hP hD hS 3 1 rfl rfl (zin (e := i) (n := 6) ⟨by omega, by omega⟩ (bl rfl)) dX12_lays_38 (fun H locs hP hD hS => ?_)
          obtain ⟨f_59, hf_59⟩ : ∃ gg9, gg9 = upd Lf1 (iZ i).toNatClampNeg (iZ (-1)) := ⟨_, rfl⟩
          rw [← hf_59] at hP hD
          refine lv_aload_n hx hb dX12_lays_39 rfl (lv_at hl 2 rfl) ?_
          refine va_get (D := D) (ci := 12) (v := .ref Mb) (C := RX12) (T := TX12) (N := 36) hx hb hts iX12 hown hK hP 0 rfl rfl 26 (bl rfl) (hts _ qf_X12_53) (fun _ h => h) rfl dX12_lays_40 ?_
          refine lv_iload hx hb dX12_lays_43 (lv_at hl 0 rfl) ?_
          refine lv_iconst (v := iZ 0) hx hb dX12_lays_45 rfl ?_
          refine va_iast hx hb hK hP hD hS 4 1 rfl rfl (zin (e := i) (n := 6) ⟨by omega, by omega⟩ (bl rfl)) dX12_lays_46 (fun H locs hP hD hS => ?_)
          obtain ⟨f_60, hf_60⟩ : ∃ gg9, gg9 = upd Bf1 (iZ i).toNatClampNeg (iZ 0) := ⟨_, rfl⟩
          rw [← hf_60] at hP hD
          refine lv_iinc (v := iZ (i + 1)) (lv' := [(4, .int (iZ (i + 1))), (3, .int (iZ 0)), (0, .ref hm), (1, .int (iZ x)), (2, .int (iZ w))]) hx hb dX12_lays_47 hl (k := 0) rfl (iZ_add i 1) (by decide) rfl (fun ls hl => ?_)
          refine lv_goto (tgt := 5) hx hb dX12_lays_50 rfl ?_
          exact ih1  (i + 1) f_58 f_59 f_60 _ _ _ (by omega) (show 0 ≤ (i + 1) ∧ (i + 1) ≤ 6 from ⟨by omega, by omega⟩) (show KR f_58 (i + 1) from (KR.ext hk1 hf_58 ⟨by omega, by omega⟩ (by omega))) (show rgI f_59 (-1) 5 (i + 1) from (rg_ext hl1 hf_59 ⟨by omega, by omega⟩ ⟨by omega, by omega⟩ ⟨by omega, by omega⟩)) (show xRw f_58 (fun o => if o = x then w else 1000000) (i + 1) from (xRw.ext hkx hf_58 ⟨by omega, by omega⟩ ⟨by omega, by omega⟩ (by first | exact (if_pos (by omega)).symm | exact (if_neg (by omega)).symm))) (show xRw f_59 (fun _ => -1) (i + 1) from (xRw.ext hlx hf_59 ⟨by omega, by omega⟩ ⟨by omega, by omega⟩ rfl)) (show xRw f_60 (fun _ => 0) (i + 1) from (xRw.ext hbx hf_60 ⟨by omega, by omega⟩ ⟨by omega, by omega⟩ rfl)) (hP.sub [0, 1, 2, 3, 4] rfl) (hD.sub [0, 1, 2, 3, 4] rfl rfl) hS (lv_sub hl [0, 1, 2, 3, 4] rfl)
        ·
          have c_57 := (zeq (x := iZ i) (y := iZ x) rfl rfl ⟨by omega, by omega⟩ ⟨by omega, by omega⟩).mp c_57
          refine lv_iload_n hx hb dX12_lays_24 rfl (lv_at hl 4 rfl) ?_
          refine lv_goto (tgt := 30) hx hb dX12_lays_25 rfl ?_
          refine va_iast hx hb hK hP hD hS 2 1 rfl rfl (zin (e := i) (n := 6) ⟨by omega, by omega⟩ (bl rfl)) dX12_lays_30 (fun H locs hP hD hS => ?_)
          obtain ⟨f_61, hf_61⟩ : ∃ gg9, gg9 = upd Kf1 (iZ i).toNatClampNeg (iZ w) := ⟨_, rfl⟩
          rw [← hf_61] at hP hD
          refine lv_aload_n hx hb dX12_lays_31 rfl (lv_at hl 2 rfl) ?_
          refine va_get (D := D) (ci := 12) (v := .ref Ml) (C := RX12) (T := TX12) (N := 36) hx hb hts iX12 hown hK hP 0 rfl rfl 25 (bl rfl) (hts _ qf_X12_50) (fun _ h => h) rfl dX12_lays_32 ?_
          refine lv_iload hx hb dX12_lays_35 (lv_at hl 0 rfl) ?_
          refine lv_iconst (v := iZ (-1)) hx hb dX12_lays_37 rfl ?_
          refine va_iast hx hb hK hP hD hS 3 1 rfl rfl (zin (e := i) (n := 6) ⟨by omega, by omega⟩ (bl rfl)) dX12_lays_38 (fun H locs hP hD hS => ?_)
          obtain ⟨f_62, hf_62⟩ : ∃ gg9, gg9 = upd Lf1 (iZ i).toNatClampNeg (iZ (-1)) := ⟨_, rfl⟩
          rw [← hf_62] at hP hD
          refine lv_aload_n hx hb dX12_lays_39 rfl (lv_at hl 2 rfl) ?_
          refine va_get (D := D) (ci := 12) (v := .ref Mb) (C := RX12) (T := TX12) (N := 36) hx hb hts iX12 hown hK hP 0 rfl rfl 26 (bl rfl) (hts _ qf_X12_53) (fun _ h => h) rfl dX12_lays_40 ?_
          refine lv_iload hx hb dX12_lays_43 (lv_at hl 0 rfl) ?_
          refine lv_iconst (v := iZ 0) hx hb dX12_lays_45 rfl ?_
          refine va_iast hx hb hK hP hD hS 4 1 rfl rfl (zin (e := i) (n := 6) ⟨by omega, by omega⟩ (bl rfl)) dX12_lays_46 (fun H locs hP hD hS => ?_)
          obtain ⟨f_63, hf_63⟩ : ∃ gg9, gg9 = upd Bf1 (iZ i).toNatClampNeg (iZ 0) := ⟨_, rfl⟩
          rw [← hf_63] at hP hD
          refine lv_iinc (v := iZ (i + 1)) (lv' := [(4, .int (iZ (i + 1))), (3, .int (iZ 0)), (0, .ref hm), (1, .int (iZ x)), (2, .int (iZ w))]) hx hb dX12_lays_47 hl (k := 0) rfl (iZ_add i 1) (by decide) rfl (fun ls hl => ?_)
          refine lv_goto (tgt := 5) hx hb dX12_lays_50 rfl ?_
          exact ih1  (i + 1) f_61 f_62 f_63 _ _ _ (by omega) (show 0 ≤ (i + 1) ∧ (i + 1) ≤ 6 from ⟨by omega, by omega⟩) (show KR f_61 (i + 1) from (KR.ext hk1 hf_61 ⟨by omega, by omega⟩ (by omega))) (show rgI f_62 (-1) 5 (i + 1) from (rg_ext hl1 hf_62 ⟨by omega, by omega⟩ ⟨by omega, by omega⟩ ⟨by omega, by omega⟩)) (show xRw f_61 (fun o => if o = x then w else 1000000) (i + 1) from (xRw.ext hkx hf_61 ⟨by omega, by omega⟩ ⟨by omega, by omega⟩ (by first | exact (if_pos (by omega)).symm | exact (if_neg (by omega)).symm))) (show xRw f_62 (fun _ => -1) (i + 1) from (xRw.ext hlx hf_62 ⟨by omega, by omega⟩ ⟨by omega, by omega⟩ rfl)) (show xRw f_63 (fun _ => 0) (i + 1) from (xRw.ext hbx hf_63 ⟨by omega, by omega⟩ ⟨by omega, by omega⟩ rfl)) (hP.sub [0, 1, 2, 3, 4] rfl) (hD.sub [0, 1, 2, 3, 4] rfl rfl) hS (lv_sub hl [0, 1, 2, 3, 4] rfl)
  exact HL1 8 0 Kf Lf Bf _ _ _ (by omega) (show 0 ≤ 0 ∧ 0 ≤ 6 from ⟨by omega, by omega⟩) (show KR Kf 0 from (fun e h1 h2 => absurd h1 (by omega))) (show rgI Lf (-1) 5 0 from (fun e h1 h2 => absurd h1 (by omega))) (show xRw Kf (fun o => if o = x then w else 1000000) 0 from xRw.n0) (show xRw Lf (fun _ => -1) 0 from xRw.n0) (show xRw Bf (fun _ => 0) 0 from xRw.n0) (hP.sub [0, 1, 2, 3, 4] rfl) (hD.sub [0, 1, 2, 3, 4] rfl rfl) hS (lv_sub hl [0, 1, 2, 3, 4] rfl)
end
