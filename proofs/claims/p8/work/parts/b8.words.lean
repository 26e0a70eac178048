theorem qc_X11_latest : Cond.code yX11_latest cX11_latest 3 (some .int) ∈ gw := tbt (tb4 (List.mem_of_getElem? (i := 193) rfl)) rfl
theorem qi_yX11_latest : Cond.instanceMethod yX11_latest ∈ gw := tbt (tb4 (List.mem_of_getElem? (i := 191) rfl)) rfl
theorem qs_X11_latest : Cond.selects (yX11_latest).cls yX11_latest yX11_latest ∈ gw := tbt (tb4 (List.mem_of_getElem? (i := 192) rfl)) rfl
theorem ci_X11_latest : CIv yX11_latest cX11_latest 3 (some .int) 2 := ⟨qc_X11_latest, qi_yX11_latest, qs_X11_latest, qz_X11, by decide +kernel⟩
theorem qm_L_154 : Cond.methodLink RL 154 yX11_latest ∈ gw := tbt (tb4 (List.mem_of_getElem? (i := 190) rfl)) rfl
theorem qc_X12_latest : Cond.code yX12_latest cX12_latest 3 (some .int) ∈ gw := tbt (tb8 (List.mem_of_getElem? (i := 9) rfl)) rfl
theorem qi_yX12_latest : Cond.instanceMethod yX12_latest ∈ gw := tbt (tb8 (List.mem_of_getElem? (i := 7) rfl)) rfl
theorem qs_X12_latest : Cond.selects (yX12_latest).cls yX12_latest yX12_latest ∈ gw := tbt (tb8 (List.mem_of_getElem? (i := 8) rfl)) rfl
theorem ci_X12_latest : CIv yX12_latest cX12_latest 3 (some .int) 2 := ⟨qc_X12_latest, qi_yX12_latest, qs_X12_latest, qz_X12, by decide +kernel⟩
theorem qm_L_157 : Cond.methodLink RL 157 yX12_latest ∈ gw := tbt (tb8 (List.mem_of_getElem? (i := 6) rfl)) rfl
theorem qc_X11_centre : Cond.code yX11_centre cX11_centre 6 (some .int) ∈ gw := tbt (tb4 (List.mem_of_getElem? (i := 201) rfl)) rfl
theorem qi_yX11_centre : Cond.instanceMethod yX11_centre ∈ gw := tbt (tb4 (List.mem_of_getElem? (i := 199) rfl)) rfl
theorem qs_X11_centre : Cond.selects (yX11_centre).cls yX11_centre yX11_centre ∈ gw := tbt (tb4 (List.mem_of_getElem? (i := 200) rfl)) rfl
theorem ci_X11_centre : CIv yX11_centre cX11_centre 6 (some .int) 1 := ⟨qc_X11_centre, qi_yX11_centre, qs_X11_centre, qz_X11, by decide +kernel⟩
theorem qm_L_158 : Cond.methodLink RL 158 yX11_centre ∈ gw := tbt (tb4 (List.mem_of_getElem? (i := 198) rfl)) rfl
theorem qc_X12_centre : Cond.code yX12_centre cX12_centre 5 (some .int) ∈ gw := tbt (tb8 (List.mem_of_getElem? (i := 17) rfl)) rfl
theorem qi_yX12_centre : Cond.instanceMethod yX12_centre ∈ gw := tbt (tb8 (List.mem_of_getElem? (i := 15) rfl)) rfl
theorem qs_X12_centre : Cond.selects (yX12_centre).cls yX12_centre yX12_centre ∈ gw := tbt (tb8 (List.mem_of_getElem? (i := 16) rfl)) rfl
theorem ci_X12_centre : CIv yX12_centre cX12_centre 5 (some .int) 1 := ⟨qc_X12_centre, qi_yX12_centre, qs_X12_centre, qz_X12, by decide +kernel⟩
theorem qm_L_161 : Cond.methodLink RL 161 yX12_centre ∈ gw := tbt (tb8 (List.mem_of_getElem? (i := 14) rfl)) rfl
theorem qc_X11_cutOff : Cond.code yX11_cutOff cX11_cutOff 5 (some .int) ∈ gw := tbt (tb4 (List.mem_of_getElem? (i := 205) rfl)) rfl
theorem qi_yX11_cutOff : Cond.instanceMethod yX11_cutOff ∈ gw := tbt (tb4 (List.mem_of_getElem? (i := 203) rfl)) rfl
theorem qs_X11_cutOff : Cond.selects (yX11_cutOff).cls yX11_cutOff yX11_cutOff ∈ gw := tbt (tb4 (List.mem_of_getElem? (i := 204) rfl)) rfl
theorem ci_X11_cutOff : CIv yX11_cutOff cX11_cutOff 5 (some .int) 2 := ⟨qc_X11_cutOff, qi_yX11_cutOff, qs_X11_cutOff, qz_X11, by decide +kernel⟩
theorem qm_L_162 : Cond.methodLink RL 162 yX11_cutOff ∈ gw := tbt (tb4 (List.mem_of_getElem? (i := 202) rfl)) rfl
theorem qc_X12_cutOff : Cond.code yX12_cutOff cX12_cutOff 3 (some .int) ∈ gw := tbt (tb8 (List.mem_of_getElem? (i := 21) rfl)) rfl
theorem qi_yX12_cutOff : Cond.instanceMethod yX12_cutOff ∈ gw := tbt (tb8 (List.mem_of_getElem? (i := 19) rfl)) rfl
theorem qs_X12_cutOff : Cond.selects (yX12_cutOff).cls yX12_cutOff yX12_cutOff ∈ gw := tbt (tb8 (List.mem_of_getElem? (i := 20) rfl)) rfl
theorem ci_X12_cutOff : CIv yX12_cutOff cX12_cutOff 3 (some .int) 2 := ⟨qc_X12_cutOff, qi_yX12_cutOff, qs_X12_cutOff, qz_X12, by decide +kernel⟩
theorem qm_L_165 : Cond.methodLink RL 165 yX12_cutOff ∈ gw := tbt (tb8 (List.mem_of_getElem? (i := 18) rfl)) rfl
theorem qc_X11_hearsBack : Cond.code yX11_hearsBack cX11_hearsBack 6 (some .int) ∈ gw := tbt (tb4 (List.mem_of_getElem? (i := 209) rfl)) rfl
theorem qi_yX11_hearsBack : Cond.instanceMethod yX11_hearsBack ∈ gw := tbt (tb4 (List.mem_of_getElem? (i := 207) rfl)) rfl
theorem qs_X11_hearsBack : Cond.selects (yX11_hearsBack).cls yX11_hearsBack yX11_hearsBack ∈ gw := tbt (tb4 (List.mem_of_getElem? (i := 208) rfl)) rfl
theorem ci_X11_hearsBack : CIv yX11_hearsBack cX11_hearsBack 6 (some .int) 2 := ⟨qc_X11_hearsBack, qi_yX11_hearsBack, qs_X11_hearsBack, qz_X11, by decide +kernel⟩
theorem qm_L_166 : Cond.methodLink RL 166 yX11_hearsBack ∈ gw := tbt (tb4 (List.mem_of_getElem? (i := 206) rfl)) rfl
theorem qc_X12_hearsBack : Cond.code yX12_hearsBack cX12_hearsBack 5 (some .int) ∈ gw := tbt (tb8 (List.mem_of_getElem? (i := 26) rfl)) rfl
theorem qi_yX12_hearsBack : Cond.instanceMethod yX12_hearsBack ∈ gw := tbt (tb8 (List.mem_of_getElem? (i := 24) rfl)) rfl
theorem qs_X12_hearsBack : Cond.selects (yX12_hearsBack).cls yX12_hearsBack yX12_hearsBack ∈ gw := tbt (tb8 (List.mem_of_getElem? (i := 25) rfl)) rfl
theorem ci_X12_hearsBack : CIv yX12_hearsBack cX12_hearsBack 5 (some .int) 2 := ⟨qc_X12_hearsBack, qi_yX12_hearsBack, qs_X12_hearsBack, qz_X12, by decide +kernel⟩
theorem qm_L_169 : Cond.methodLink RL 169 yX12_hearsBack ∈ gw := tbt (tb8 (List.mem_of_getElem? (i := 23) rfl)) rfl
theorem qc_X11_remote : Cond.code yX11_remote cX11_remote 7 (some .int) ∈ gw := tbt (tb4 (List.mem_of_getElem? (i := 213) rfl)) rfl
theorem qi_yX11_remote : Cond.instanceMethod yX11_remote ∈ gw := tbt (tb4 (List.mem_of_getElem? (i := 211) rfl)) rfl
theorem qs_X11_remote : Cond.selects (yX11_remote).cls yX11_remote yX11_remote ∈ gw := tbt (tb4 (List.mem_of_getElem? (i := 212) rfl)) rfl
theorem ci_X11_remote : CIv yX11_remote cX11_remote 7 (some .int) 1 := ⟨qc_X11_remote, qi_yX11_remote, qs_X11_remote, qz_X11, by decide +kernel⟩
theorem qm_L_170 : Cond.methodLink RL 170 yX11_remote ∈ gw := tbt (tb4 (List.mem_of_getElem? (i := 210) rfl)) rfl
theorem qc_X12_remote : Cond.code yX12_remote cX12_remote 7 (some .int) ∈ gw := tbt (tb8 (List.mem_of_getElem? (i := 30) rfl)) rfl
theorem qi_yX12_remote : Cond.instanceMethod yX12_remote ∈ gw := tbt (tb8 (List.mem_of_getElem? (i := 28) rfl)) rfl
theorem qs_X12_remote : Cond.selects (yX12_remote).cls yX12_remote yX12_remote ∈ gw := tbt (tb8 (List.mem_of_getElem? (i := 29) rfl)) rfl
theorem ci_X12_remote : CIv yX12_remote cX12_remote 7 (some .int) 1 := ⟨qc_X12_remote, qi_yX12_remote, qs_X12_remote, qz_X12, by decide +kernel⟩
theorem qm_L_173 : Cond.methodLink RL 173 yX12_remote ∈ gw := tbt (tb8 (List.mem_of_getElem? (i := 27) rfl)) rfl
theorem qc_X11_order : Cond.code yX11_order cX11_order 3 (some .int) ∈ gw := tbt (tb4 (List.mem_of_getElem? (i := 218) rfl)) rfl
theorem qi_yX11_order : Cond.instanceMethod yX11_order ∈ gw := tbt (tb4 (List.mem_of_getElem? (i := 216) rfl)) rfl
theorem qs_X11_order : Cond.selects (yX11_order).cls yX11_order yX11_order ∈ gw := tbt (tb4 (List.mem_of_getElem? (i := 217) rfl)) rfl
theorem ci_X11_order : CIv yX11_order cX11_order 3 (some .int) 1 := ⟨qc_X11_order, qi_yX11_order, qs_X11_order, qz_X11, by decide +kernel⟩
theorem qm_L_174 : Cond.methodLink RL 174 yX11_order ∈ gw := tbt (tb4 (List.mem_of_getElem? (i := 215) rfl)) rfl
theorem qc_X12_order : Cond.code yX12_order cX12_order 2 (some .int) ∈ gw := tbt (tb8 (List.mem_of_getElem? (i := 34) rfl)) rfl
theorem qi_yX12_order : Cond.instanceMethod yX12_order ∈ gw := tbt (tb8 (List.mem_of_getElem? (i := 32) rfl)) rfl
theorem qs_X12_order : Cond.selects (yX12_order).cls yX12_order yX12_order ∈ gw := tbt (tb8 (List.mem_of_getElem? (i := 33) rfl)) rfl
theorem ci_X12_order : CIv yX12_order cX12_order 2 (some .int) 1 := ⟨qc_X12_order, qi_yX12_order, qs_X12_order, qz_X12, by decide +kernel⟩
theorem qm_L_177 : Cond.methodLink RL 177 yX12_order ∈ gw := tbt (tb8 (List.mem_of_getElem? (i := 31) rfl)) rfl
theorem qc_X11_given : Cond.code yX11_given cX11_given 3 (some .int) ∈ gw := tbt (tb4 (List.mem_of_getElem? (i := 228) rfl)) rfl
theorem qi_yX11_given : Cond.instanceMethod yX11_given ∈ gw := tbt (tb4 (List.mem_of_getElem? (i := 226) rfl)) rfl
theorem qs_X11_given : Cond.selects (yX11_given).cls yX11_given yX11_given ∈ gw := tbt (tb4 (List.mem_of_getElem? (i := 227) rfl)) rfl
theorem ci_X11_given : CIv yX11_given cX11_given 3 (some .int) 2 := ⟨qc_X11_given, qi_yX11_given, qs_X11_given, qz_X11, by decide +kernel⟩
theorem qm_L_178 : Cond.methodLink RL 178 yX11_given ∈ gw := tbt (tb4 (List.mem_of_getElem? (i := 225) rfl)) rfl
theorem qc_X12_given : Cond.code yX12_given cX12_given 3 (some .int) ∈ gw := tbt (tb8 (List.mem_of_getElem? (i := 45) rfl)) rfl
theorem qi_yX12_given : Cond.instanceMethod yX12_given ∈ gw := tbt (tb8 (List.mem_of_getElem? (i := 43) rfl)) rfl
theorem qs_X12_given : Cond.selects (yX12_given).cls yX12_given yX12_given ∈ gw := tbt (tb8 (List.mem_of_getElem? (i := 44) rfl)) rfl
theorem ci_X12_given : CIv yX12_given cX12_given 3 (some .int) 2 := ⟨qc_X12_given, qi_yX12_given, qs_X12_given, qz_X12, by decide +kernel⟩
theorem qm_L_181 : Cond.methodLink RL 181 yX12_given ∈ gw := tbt (tb8 (List.mem_of_getElem? (i := 42) rfl)) rfl
theorem qc_X11_heard : Cond.code yX11_heard cX11_heard 3 (some .int) ∈ gw := tbt (tb4 (List.mem_of_getElem? (i := 236) rfl)) rfl
theorem qi_yX11_heard : Cond.instanceMethod yX11_heard ∈ gw := tbt (tb4 (List.mem_of_getElem? (i := 234) rfl)) rfl
theorem qs_X11_heard : Cond.selects (yX11_heard).cls yX11_heard yX11_heard ∈ gw := tbt (tb4 (List.mem_of_getElem? (i := 235) rfl)) rfl
theorem ci_X11_heard : CIv yX11_heard cX11_heard 3 (some .int) 2 := ⟨qc_X11_heard, qi_yX11_heard, qs_X11_heard, qz_X11, by decide +kernel⟩
theorem qm_L_182 : Cond.methodLink RL 182 yX11_heard ∈ gw := tbt (tb4 (List.mem_of_getElem? (i := 233) rfl)) rfl
theorem qc_X12_heard : Cond.code yX12_heard cX12_heard 3 (some .int) ∈ gw := tbt (tb8 (List.mem_of_getElem? (i := 53) rfl)) rfl
theorem qi_yX12_heard : Cond.instanceMethod yX12_heard ∈ gw := tbt (tb8 (List.mem_of_getElem? (i := 51) rfl)) rfl
theorem qs_X12_heard : Cond.selects (yX12_heard).cls yX12_heard yX12_heard ∈ gw := tbt (tb8 (List.mem_of_getElem? (i := 52) rfl)) rfl
theorem ci_X12_heard : CIv yX12_heard cX12_heard 3 (some .int) 2 := ⟨qc_X12_heard, qi_yX12_heard, qs_X12_heard, qz_X12, by decide +kernel⟩
theorem qm_L_185 : Cond.methodLink RL 185 yX12_heard ∈ gw := tbt (tb8 (List.mem_of_getElem? (i := 50) rfl)) rfl
theorem dL_law_1550 : decode cL_law 1550 = .ok (.aload_n 1, 1) := fq1_43 (fl_24 (j := 14) rfl rfl)
theorem dL_law_1551 : decode cL_law 1551 = .ok (.aload_n 0, 1) := fq1_42 (fl_24 (j := 15) rfl rfl)
theorem dL_law_1552 : decode cL_law 1552 = .ok (.iload_n 3, 1) := fq1_29 (fl_24 (j := 16) rfl rfl)
theorem dL_law_1553 : decode cL_law 1553 = .ok (.iconst 1, 1) := fq1_4 (fl_24 (j := 17) rfl rfl)
theorem dL_law_1554 : decode cL_law 1554 = .ok (.iadd, 1) := fq1_96 (fl_24 (j := 18) rfl rfl)
theorem dL_law_1555 : decode cL_law 1555 = .ok (.iaload, 1) := fq1_46 (fl_24 (j := 19) rfl rfl)
theorem dL_law_1556 : decode cL_law 1556 = .ok (.aload_n 0, 1) := fq1_42 (fl_24 (j := 20) rfl rfl)
theorem dL_law_1557 : decode cL_law 1557 = .ok (.iload_n 3, 1) := fq1_29 (fl_24 (j := 21) rfl rfl)
theorem dL_law_1558 : decode cL_law 1558 = .ok (.iconst 2, 1) := fq1_5 (fl_24 (j := 22) rfl rfl)
theorem dL_law_1559 : decode cL_law 1559 = .ok (.iadd, 1) := fq1_96 (fl_24 (j := 23) rfl rfl)
theorem dL_law_1560 : decode cL_law 1560 = .ok (.iaload, 1) := fq1_46 (fl_24 (j := 24) rfl rfl)
theorem dL_law_1561 : decode cL_law 1561 = .ok (.invokevirtual 154, 3) := fq3_182 (fl_24 (j := 25) rfl rfl) (fl_24 (j := 26) rfl rfl) (fl_24 (j := 27) rfl rfl) (by decide)
theorem dL_law_1564 : decode cL_law 1564 = .ok (.pop, 1) := fq1_87 (fl_24 (j := 28) rfl rfl)
theorem dL_law_1565 : decode cL_law 1565 = .ok (.aload_n 2, 1) := fq1_44 (fl_24 (j := 29) rfl rfl)
theorem dL_law_1566 : decode cL_law 1566 = .ok (.aload_n 0, 1) := fq1_42 (fl_24 (j := 30) rfl rfl)
theorem dL_law_1567 : decode cL_law 1567 = .ok (.iload_n 3, 1) := fq1_29 (fl_24 (j := 31) rfl rfl)
theorem dL_law_1568 : decode cL_law 1568 = .ok (.iconst 1, 1) := fq1_4 (fl_24 (j := 32) rfl rfl)
theorem dL_law_1569 : decode cL_law 1569 = .ok (.iadd, 1) := fq1_96 (fl_24 (j := 33) rfl rfl)
theorem dL_law_1570 : decode cL_law 1570 = .ok (.iaload, 1) := fq1_46 (fl_24 (j := 34) rfl rfl)
theorem dL_law_1571 : decode cL_law 1571 = .ok (.aload_n 0, 1) := fq1_42 (fl_24 (j := 35) rfl rfl)
theorem dL_law_1572 : decode cL_law 1572 = .ok (.iload_n 3, 1) := fq1_29 (fl_24 (j := 36) rfl rfl)
theorem dL_law_1573 : decode cL_law 1573 = .ok (.iconst 2, 1) := fq1_5 (fl_24 (j := 37) rfl rfl)
theorem dL_law_1574 : decode cL_law 1574 = .ok (.iadd, 1) := fq1_96 (fl_24 (j := 38) rfl rfl)
theorem dL_law_1575 : decode cL_law 1575 = .ok (.iaload, 1) := fq1_46 (fl_24 (j := 39) rfl rfl)
theorem dL_law_1576 : decode cL_law 1576 = .ok (.invokevirtual 157, 3) := fq3_182 (fl_24 (j := 40) rfl rfl) (fl_24 (j := 41) rfl rfl) (fl_24 (j := 42) rfl rfl) (by decide)
theorem dL_law_1579 : decode cL_law 1579 = .ok (.pop, 1) := fq1_87 (fl_24 (j := 43) rfl rfl)
theorem dL_law_1580 : decode cL_law 1580 = .ok (.goto 1266, 3) := fq3_167 (fl_24 (j := 44) rfl rfl) (fl_24 (j := 45) rfl rfl) (fl_24 (j := 46) rfl rfl) (by decide)
theorem dL_law_1583 : decode cL_law 1583 = .ok (.aload_n 1, 1) := fq1_43 (fl_24 (j := 47) rfl rfl)
theorem dL_law_1584 : decode cL_law 1584 = .ok (.aload_n 0, 1) := fq1_42 (fl_24 (j := 48) rfl rfl)
theorem dL_law_1585 : decode cL_law 1585 = .ok (.iload_n 3, 1) := fq1_29 (fl_24 (j := 49) rfl rfl)
theorem dL_law_1586 : decode cL_law 1586 = .ok (.iconst 1, 1) := fq1_4 (fl_24 (j := 50) rfl rfl)
theorem dL_law_1587 : decode cL_law 1587 = .ok (.iadd, 1) := fq1_96 (fl_24 (j := 51) rfl rfl)
theorem dL_law_1588 : decode cL_law 1588 = .ok (.iaload, 1) := fq1_46 (fl_24 (j := 52) rfl rfl)
theorem dL_law_1589 : decode cL_law 1589 = .ok (.invokevirtual 158, 3) := fq3_182 (fl_24 (j := 53) rfl rfl) (fl_24 (j := 54) rfl rfl) (fl_24 (j := 55) rfl rfl) (by decide)
theorem dL_law_1592 : decode cL_law 1592 = .ok (.pop, 1) := fq1_87 (fl_24 (j := 56) rfl rfl)
theorem dL_law_1593 : decode cL_law 1593 = .ok (.aload_n 2, 1) := fq1_44 (fl_24 (j := 57) rfl rfl)
theorem dL_law_1594 : decode cL_law 1594 = .ok (.aload_n 0, 1) := fq1_42 (fl_24 (j := 58) rfl rfl)
theorem dL_law_1595 : decode cL_law 1595 = .ok (.iload_n 3, 1) := fq1_29 (fl_24 (j := 59) rfl rfl)
theorem dL_law_1596 : decode cL_law 1596 = .ok (.iconst 1, 1) := fq1_4 (fl_24 (j := 60) rfl rfl)
theorem dL_law_1597 : decode cL_law 1597 = .ok (.iadd, 1) := fq1_96 (fl_24 (j := 61) rfl rfl)
theorem dL_law_1598 : decode cL_law 1598 = .ok (.iaload, 1) := fq1_46 (fl_24 (j := 62) rfl rfl)
theorem dL_law_1599 : decode cL_law 1599 = .ok (.invokevirtual 161, 3) := fq3_182 (fl_24 (j := 63) rfl rfl) (fl_25 (j := 0) rfl rfl) (fl_25 (j := 1) rfl rfl) (by decide)
theorem dL_law_1602 : decode cL_law 1602 = .ok (.pop, 1) := fq1_87 (fl_25 (j := 2) rfl rfl)
theorem dL_law_1603 : decode cL_law 1603 = .ok (.goto 1243, 3) := fq3_167 (fl_25 (j := 3) rfl rfl) (fl_25 (j := 4) rfl rfl) (fl_25 (j := 5) rfl rfl) (by decide)
theorem dL_law_1606 : decode cL_law 1606 = .ok (.aload_n 1, 1) := fq1_43 (fl_25 (j := 6) rfl rfl)
theorem dL_law_1607 : decode cL_law 1607 = .ok (.aload_n 0, 1) := fq1_42 (fl_25 (j := 7) rfl rfl)
theorem dL_law_1608 : decode cL_law 1608 = .ok (.iload_n 3, 1) := fq1_29 (fl_25 (j := 8) rfl rfl)
theorem dL_law_1609 : decode cL_law 1609 = .ok (.iconst 1, 1) := fq1_4 (fl_25 (j := 9) rfl rfl)
theorem dL_law_1610 : decode cL_law 1610 = .ok (.iadd, 1) := fq1_96 (fl_25 (j := 10) rfl rfl)
theorem dL_law_1611 : decode cL_law 1611 = .ok (.iaload, 1) := fq1_46 (fl_25 (j := 11) rfl rfl)
theorem dL_law_1612 : decode cL_law 1612 = .ok (.aload_n 0, 1) := fq1_42 (fl_25 (j := 12) rfl rfl)
theorem dL_law_1613 : decode cL_law 1613 = .ok (.iload_n 3, 1) := fq1_29 (fl_25 (j := 13) rfl rfl)
theorem dL_law_1614 : decode cL_law 1614 = .ok (.iconst 2, 1) := fq1_5 (fl_25 (j := 14) rfl rfl)
theorem dL_law_1615 : decode cL_law 1615 = .ok (.iadd, 1) := fq1_96 (fl_25 (j := 15) rfl rfl)
theorem dL_law_1616 : decode cL_law 1616 = .ok (.iaload, 1) := fq1_46 (fl_25 (j := 16) rfl rfl)
theorem dL_law_1617 : decode cL_law 1617 = .ok (.invokevirtual 162, 3) := fq3_182 (fl_25 (j := 17) rfl rfl) (fl_25 (j := 18) rfl rfl) (fl_25 (j := 19) rfl rfl) (by decide)
theorem dL_law_1620 : decode cL_law 1620 = .ok (.pop, 1) := fq1_87 (fl_25 (j := 20) rfl rfl)
theorem dL_law_1621 : decode cL_law 1621 = .ok (.aload_n 2, 1) := fq1_44 (fl_25 (j := 21) rfl rfl)
theorem dL_law_1622 : decode cL_law 1622 = .ok (.aload_n 0, 1) := fq1_42 (fl_25 (j := 22) rfl rfl)
theorem dL_law_1623 : decode cL_law 1623 = .ok (.iload_n 3, 1) := fq1_29 (fl_25 (j := 23) rfl rfl)
theorem dL_law_1624 : decode cL_law 1624 = .ok (.iconst 1, 1) := fq1_4 (fl_25 (j := 24) rfl rfl)
theorem dL_law_1625 : decode cL_law 1625 = .ok (.iadd, 1) := fq1_96 (fl_25 (j := 25) rfl rfl)
theorem dL_law_1626 : decode cL_law 1626 = .ok (.iaload, 1) := fq1_46 (fl_25 (j := 26) rfl rfl)
theorem dL_law_1627 : decode cL_law 1627 = .ok (.aload_n 0, 1) := fq1_42 (fl_25 (j := 27) rfl rfl)
theorem dL_law_1628 : decode cL_law 1628 = .ok (.iload_n 3, 1) := fq1_29 (fl_25 (j := 28) rfl rfl)
theorem dL_law_1629 : decode cL_law 1629 = .ok (.iconst 2, 1) := fq1_5 (fl_25 (j := 29) rfl rfl)
theorem dL_law_1630 : decode cL_law 1630 = .ok (.iadd, 1) := fq1_96 (fl_25 (j := 30) rfl rfl)
theorem dL_law_1631 : decode cL_law 1631 = .ok (.iaload, 1) := fq1_46 (fl_25 (j := 31) rfl rfl)
theorem dL_law_1632 : decode cL_law 1632 = .ok (.invokevirtual 165, 3) := fq3_182 (fl_25 (j := 32) rfl rfl) (fl_25 (j := 33) rfl rfl) (fl_25 (j := 34) rfl rfl) (by decide)
theorem dL_law_1635 : decode cL_law 1635 = .ok (.pop, 1) := fq1_87 (fl_25 (j := 35) rfl rfl)
theorem dL_law_1636 : decode cL_law 1636 = .ok (.goto 1210, 3) := fq3_167 (fl_25 (j := 36) rfl rfl) (fl_25 (j := 37) rfl rfl) (fl_25 (j := 38) rfl rfl) (by decide)
theorem dL_law_1639 : decode cL_law 1639 = .ok (.aload_n 1, 1) := fq1_43 (fl_25 (j := 39) rfl rfl)
theorem dL_law_1640 : decode cL_law 1640 = .ok (.aload_n 0, 1) := fq1_42 (fl_25 (j := 40) rfl rfl)
theorem dL_law_1641 : decode cL_law 1641 = .ok (.iload_n 3, 1) := fq1_29 (fl_25 (j := 41) rfl rfl)
theorem dL_law_1642 : decode cL_law 1642 = .ok (.iconst 1, 1) := fq1_4 (fl_25 (j := 42) rfl rfl)
theorem dL_law_1643 : decode cL_law 1643 = .ok (.iadd, 1) := fq1_96 (fl_25 (j := 43) rfl rfl)
theorem dL_law_1644 : decode cL_law 1644 = .ok (.iaload, 1) := fq1_46 (fl_25 (j := 44) rfl rfl)
theorem dL_law_1645 : decode cL_law 1645 = .ok (.aload_n 0, 1) := fq1_42 (fl_25 (j := 45) rfl rfl)
theorem dL_law_1646 : decode cL_law 1646 = .ok (.iload_n 3, 1) := fq1_29 (fl_25 (j := 46) rfl rfl)
theorem dL_law_1647 : decode cL_law 1647 = .ok (.iconst 2, 1) := fq1_5 (fl_25 (j := 47) rfl rfl)
theorem dL_law_1648 : decode cL_law 1648 = .ok (.iadd, 1) := fq1_96 (fl_25 (j := 48) rfl rfl)
theorem dL_law_1649 : decode cL_law 1649 = .ok (.iaload, 1) := fq1_46 (fl_25 (j := 49) rfl rfl)
theorem dL_law_1650 : decode cL_law 1650 = .ok (.invokevirtual 166, 3) := fq3_182 (fl_25 (j := 50) rfl rfl) (fl_25 (j := 51) rfl rfl) (fl_25 (j := 52) rfl rfl) (by decide)
theorem dL_law_1653 : decode cL_law 1653 = .ok (.pop, 1) := fq1_87 (fl_25 (j := 53) rfl rfl)
theorem dL_law_1654 : decode cL_law 1654 = .ok (.aload_n 2, 1) := fq1_44 (fl_25 (j := 54) rfl rfl)
theorem dL_law_1655 : decode cL_law 1655 = .ok (.aload_n 0, 1) := fq1_42 (fl_25 (j := 55) rfl rfl)
theorem dL_law_1656 : decode cL_law 1656 = .ok (.iload_n 3, 1) := fq1_29 (fl_25 (j := 56) rfl rfl)
theorem dL_law_1657 : decode cL_law 1657 = .ok (.iconst 1, 1) := fq1_4 (fl_25 (j := 57) rfl rfl)
theorem dL_law_1658 : decode cL_law 1658 = .ok (.iadd, 1) := fq1_96 (fl_25 (j := 58) rfl rfl)
theorem dL_law_1659 : decode cL_law 1659 = .ok (.iaload, 1) := fq1_46 (fl_25 (j := 59) rfl rfl)
theorem dL_law_1660 : decode cL_law 1660 = .ok (.aload_n 0, 1) := fq1_42 (fl_25 (j := 60) rfl rfl)
theorem dL_law_1661 : decode cL_law 1661 = .ok (.iload_n 3, 1) := fq1_29 (fl_25 (j := 61) rfl rfl)
theorem dL_law_1662 : decode cL_law 1662 = .ok (.iconst 2, 1) := fq1_5 (fl_25 (j := 62) rfl rfl)
theorem dL_law_1663 : decode cL_law 1663 = .ok (.iadd, 1) := fq1_96 (fl_25 (j := 63) rfl rfl)
theorem dL_law_1664 : decode cL_law 1664 = .ok (.iaload, 1) := fq1_46 (fl_26 (j := 0) rfl rfl)
theorem dL_law_1665 : decode cL_law 1665 = .ok (.invokevirtual 169, 3) := fq3_182 (fl_26 (j := 1) rfl rfl) (fl_26 (j := 2) rfl rfl) (fl_26 (j := 3) rfl rfl) (by decide)
theorem dL_law_1668 : decode cL_law 1668 = .ok (.pop, 1) := fq1_87 (fl_26 (j := 4) rfl rfl)
theorem dL_law_1669 : decode cL_law 1669 = .ok (.goto 1177, 3) := fq3_167 (fl_26 (j := 5) rfl rfl) (fl_26 (j := 6) rfl rfl) (fl_26 (j := 7) rfl rfl) (by decide)
theorem dL_law_1672 : decode cL_law 1672 = .ok (.aload_n 1, 1) := fq1_43 (fl_26 (j := 8) rfl rfl)
theorem dL_law_1673 : decode cL_law 1673 = .ok (.aload_n 0, 1) := fq1_42 (fl_26 (j := 9) rfl rfl)
theorem dL_law_1674 : decode cL_law 1674 = .ok (.iload_n 3, 1) := fq1_29 (fl_26 (j := 10) rfl rfl)
theorem dL_law_1675 : decode cL_law 1675 = .ok (.iconst 1, 1) := fq1_4 (fl_26 (j := 11) rfl rfl)
theorem dL_law_1676 : decode cL_law 1676 = .ok (.iadd, 1) := fq1_96 (fl_26 (j := 12) rfl rfl)
theorem dL_law_1677 : decode cL_law 1677 = .ok (.iaload, 1) := fq1_46 (fl_26 (j := 13) rfl rfl)
theorem dL_law_1678 : decode cL_law 1678 = .ok (.invokevirtual 170, 3) := fq3_182 (fl_26 (j := 14) rfl rfl) (fl_26 (j := 15) rfl rfl) (fl_26 (j := 16) rfl rfl) (by decide)
theorem dL_law_1681 : decode cL_law 1681 = .ok (.pop, 1) := fq1_87 (fl_26 (j := 17) rfl rfl)
theorem dL_law_1682 : decode cL_law 1682 = .ok (.aload_n 2, 1) := fq1_44 (fl_26 (j := 18) rfl rfl)
theorem dL_law_1683 : decode cL_law 1683 = .ok (.aload_n 0, 1) := fq1_42 (fl_26 (j := 19) rfl rfl)
theorem dL_law_1684 : decode cL_law 1684 = .ok (.iload_n 3, 1) := fq1_29 (fl_26 (j := 20) rfl rfl)
theorem dL_law_1685 : decode cL_law 1685 = .ok (.iconst 1, 1) := fq1_4 (fl_26 (j := 21) rfl rfl)
theorem dL_law_1686 : decode cL_law 1686 = .ok (.iadd, 1) := fq1_96 (fl_26 (j := 22) rfl rfl)
theorem dL_law_1687 : decode cL_law 1687 = .ok (.iaload, 1) := fq1_46 (fl_26 (j := 23) rfl rfl)
theorem dL_law_1688 : decode cL_law 1688 = .ok (.invokevirtual 173, 3) := fq3_182 (fl_26 (j := 24) rfl rfl) (fl_26 (j := 25) rfl rfl) (fl_26 (j := 26) rfl rfl) (by decide)
theorem dL_law_1691 : decode cL_law 1691 = .ok (.pop, 1) := fq1_87 (fl_26 (j := 27) rfl rfl)
theorem dL_law_1692 : decode cL_law 1692 = .ok (.goto 1154, 3) := fq3_167 (fl_26 (j := 28) rfl rfl) (fl_26 (j := 29) rfl rfl) (fl_26 (j := 30) rfl rfl) (by decide)
theorem dL_law_1695 : decode cL_law 1695 = .ok (.aload_n 1, 1) := fq1_43 (fl_26 (j := 31) rfl rfl)
theorem dL_law_1696 : decode cL_law 1696 = .ok (.aload_n 0, 1) := fq1_42 (fl_26 (j := 32) rfl rfl)
theorem dL_law_1697 : decode cL_law 1697 = .ok (.iload_n 3, 1) := fq1_29 (fl_26 (j := 33) rfl rfl)
theorem dL_law_1698 : decode cL_law 1698 = .ok (.iconst 1, 1) := fq1_4 (fl_26 (j := 34) rfl rfl)
theorem dL_law_1699 : decode cL_law 1699 = .ok (.iadd, 1) := fq1_96 (fl_26 (j := 35) rfl rfl)
theorem dL_law_1700 : decode cL_law 1700 = .ok (.iaload, 1) := fq1_46 (fl_26 (j := 36) rfl rfl)
theorem dL_law_1701 : decode cL_law 1701 = .ok (.invokevirtual 174, 3) := fq3_182 (fl_26 (j := 37) rfl rfl) (fl_26 (j := 38) rfl rfl) (fl_26 (j := 39) rfl rfl) (by decide)
theorem dL_law_1704 : decode cL_law 1704 = .ok (.pop, 1) := fq1_87 (fl_26 (j := 40) rfl rfl)
theorem dL_law_1705 : decode cL_law 1705 = .ok (.aload_n 2, 1) := fq1_44 (fl_26 (j := 41) rfl rfl)
theorem dL_law_1706 : decode cL_law 1706 = .ok (.aload_n 0, 1) := fq1_42 (fl_26 (j := 42) rfl rfl)
theorem dL_law_1707 : decode cL_law 1707 = .ok (.iload_n 3, 1) := fq1_29 (fl_26 (j := 43) rfl rfl)
theorem dL_law_1708 : decode cL_law 1708 = .ok (.iconst 1, 1) := fq1_4 (fl_26 (j := 44) rfl rfl)
theorem dL_law_1709 : decode cL_law 1709 = .ok (.iadd, 1) := fq1_96 (fl_26 (j := 45) rfl rfl)
theorem dL_law_1710 : decode cL_law 1710 = .ok (.iaload, 1) := fq1_46 (fl_26 (j := 46) rfl rfl)
theorem dL_law_1711 : decode cL_law 1711 = .ok (.invokevirtual 177, 3) := fq3_182 (fl_26 (j := 47) rfl rfl) (fl_26 (j := 48) rfl rfl) (fl_26 (j := 49) rfl rfl) (by decide)
theorem dL_law_1714 : decode cL_law 1714 = .ok (.pop, 1) := fq1_87 (fl_26 (j := 50) rfl rfl)
theorem dL_law_1715 : decode cL_law 1715 = .ok (.goto 1131, 3) := fq3_167 (fl_26 (j := 51) rfl rfl) (fl_26 (j := 52) rfl rfl) (fl_26 (j := 53) rfl rfl) (by decide)
theorem dL_law_1718 : decode cL_law 1718 = .ok (.aload_n 1, 1) := fq1_43 (fl_26 (j := 54) rfl rfl)
theorem dL_law_1719 : decode cL_law 1719 = .ok (.aload_n 0, 1) := fq1_42 (fl_26 (j := 55) rfl rfl)
theorem dL_law_1720 : decode cL_law 1720 = .ok (.iload_n 3, 1) := fq1_29 (fl_26 (j := 56) rfl rfl)
theorem dL_law_1721 : decode cL_law 1721 = .ok (.iconst 1, 1) := fq1_4 (fl_26 (j := 57) rfl rfl)
theorem dL_law_1722 : decode cL_law 1722 = .ok (.iadd, 1) := fq1_96 (fl_26 (j := 58) rfl rfl)
theorem dL_law_1723 : decode cL_law 1723 = .ok (.iaload, 1) := fq1_46 (fl_26 (j := 59) rfl rfl)
theorem dL_law_1724 : decode cL_law 1724 = .ok (.aload_n 0, 1) := fq1_42 (fl_26 (j := 60) rfl rfl)
theorem dL_law_1725 : decode cL_law 1725 = .ok (.iload_n 3, 1) := fq1_29 (fl_26 (j := 61) rfl rfl)
theorem dL_law_1726 : decode cL_law 1726 = .ok (.iconst 2, 1) := fq1_5 (fl_26 (j := 62) rfl rfl)
theorem dL_law_1727 : decode cL_law 1727 = .ok (.iadd, 1) := fq1_96 (fl_26 (j := 63) rfl rfl)
theorem dL_law_1728 : decode cL_law 1728 = .ok (.iaload, 1) := fq1_46 (fl_27 (j := 0) rfl rfl)
theorem dL_law_1729 : decode cL_law 1729 = .ok (.invokevirtual 178, 3) := fq3_182 (fl_27 (j := 1) rfl rfl) (fl_27 (j := 2) rfl rfl) (fl_27 (j := 3) rfl rfl) (by decide)
theorem dL_law_1732 : decode cL_law 1732 = .ok (.pop, 1) := fq1_87 (fl_27 (j := 4) rfl rfl)
theorem dL_law_1733 : decode cL_law 1733 = .ok (.aload_n 2, 1) := fq1_44 (fl_27 (j := 5) rfl rfl)
theorem dL_law_1734 : decode cL_law 1734 = .ok (.aload_n 0, 1) := fq1_42 (fl_27 (j := 6) rfl rfl)
theorem dL_law_1735 : decode cL_law 1735 = .ok (.iload_n 3, 1) := fq1_29 (fl_27 (j := 7) rfl rfl)
theorem dL_law_1736 : decode cL_law 1736 = .ok (.iconst 1, 1) := fq1_4 (fl_27 (j := 8) rfl rfl)
theorem dL_law_1737 : decode cL_law 1737 = .ok (.iadd, 1) := fq1_96 (fl_27 (j := 9) rfl rfl)
theorem dL_law_1738 : decode cL_law 1738 = .ok (.iaload, 1) := fq1_46 (fl_27 (j := 10) rfl rfl)
theorem dL_law_1739 : decode cL_law 1739 = .ok (.aload_n 0, 1) := fq1_42 (fl_27 (j := 11) rfl rfl)
theorem dL_law_1740 : decode cL_law 1740 = .ok (.iload_n 3, 1) := fq1_29 (fl_27 (j := 12) rfl rfl)
theorem dL_law_1741 : decode cL_law 1741 = .ok (.iconst 2, 1) := fq1_5 (fl_27 (j := 13) rfl rfl)
theorem dL_law_1742 : decode cL_law 1742 = .ok (.iadd, 1) := fq1_96 (fl_27 (j := 14) rfl rfl)
theorem dL_law_1743 : decode cL_law 1743 = .ok (.iaload, 1) := fq1_46 (fl_27 (j := 15) rfl rfl)
theorem dL_law_1744 : decode cL_law 1744 = .ok (.invokevirtual 181, 3) := fq3_182 (fl_27 (j := 16) rfl rfl) (fl_27 (j := 17) rfl rfl) (fl_27 (j := 18) rfl rfl) (by decide)
theorem dL_law_1747 : decode cL_law 1747 = .ok (.pop, 1) := fq1_87 (fl_27 (j := 19) rfl rfl)
theorem dL_law_1748 : decode cL_law 1748 = .ok (.goto 1098, 3) := fq3_167 (fl_27 (j := 20) rfl rfl) (fl_27 (j := 21) rfl rfl) (fl_27 (j := 22) rfl rfl) (by decide)
theorem dL_law_1751 : decode cL_law 1751 = .ok (.aload_n 1, 1) := fq1_43 (fl_27 (j := 23) rfl rfl)
theorem dL_law_1752 : decode cL_law 1752 = .ok (.aload_n 0, 1) := fq1_42 (fl_27 (j := 24) rfl rfl)
theorem dL_law_1753 : decode cL_law 1753 = .ok (.iload_n 3, 1) := fq1_29 (fl_27 (j := 25) rfl rfl)
theorem dL_law_1754 : decode cL_law 1754 = .ok (.iconst 1, 1) := fq1_4 (fl_27 (j := 26) rfl rfl)
theorem dL_law_1755 : decode cL_law 1755 = .ok (.iadd, 1) := fq1_96 (fl_27 (j := 27) rfl rfl)
theorem dL_law_1756 : decode cL_law 1756 = .ok (.iaload, 1) := fq1_46 (fl_27 (j := 28) rfl rfl)
theorem dL_law_1757 : decode cL_law 1757 = .ok (.aload_n 0, 1) := fq1_42 (fl_27 (j := 29) rfl rfl)
theorem dL_law_1758 : decode cL_law 1758 = .ok (.iload_n 3, 1) := fq1_29 (fl_27 (j := 30) rfl rfl)
theorem dL_law_1759 : decode cL_law 1759 = .ok (.iconst 2, 1) := fq1_5 (fl_27 (j := 31) rfl rfl)
theorem dL_law_1760 : decode cL_law 1760 = .ok (.iadd, 1) := fq1_96 (fl_27 (j := 32) rfl rfl)
theorem dL_law_1761 : decode cL_law 1761 = .ok (.iaload, 1) := fq1_46 (fl_27 (j := 33) rfl rfl)
theorem dL_law_1762 : decode cL_law 1762 = .ok (.invokevirtual 182, 3) := fq3_182 (fl_27 (j := 34) rfl rfl) (fl_27 (j := 35) rfl rfl) (fl_27 (j := 36) rfl rfl) (by decide)
theorem dL_law_1765 : decode cL_law 1765 = .ok (.pop, 1) := fq1_87 (fl_27 (j := 37) rfl rfl)
theorem dL_law_1766 : decode cL_law 1766 = .ok (.aload_n 2, 1) := fq1_44 (fl_27 (j := 38) rfl rfl)
theorem dL_law_1767 : decode cL_law 1767 = .ok (.aload_n 0, 1) := fq1_42 (fl_27 (j := 39) rfl rfl)
theorem dL_law_1768 : decode cL_law 1768 = .ok (.iload_n 3, 1) := fq1_29 (fl_27 (j := 40) rfl rfl)
theorem dL_law_1769 : decode cL_law 1769 = .ok (.iconst 1, 1) := fq1_4 (fl_27 (j := 41) rfl rfl)
theorem dL_law_1770 : decode cL_law 1770 = .ok (.iadd, 1) := fq1_96 (fl_27 (j := 42) rfl rfl)
theorem dL_law_1771 : decode cL_law 1771 = .ok (.iaload, 1) := fq1_46 (fl_27 (j := 43) rfl rfl)
theorem dL_law_1772 : decode cL_law 1772 = .ok (.aload_n 0, 1) := fq1_42 (fl_27 (j := 44) rfl rfl)
theorem dL_law_1773 : decode cL_law 1773 = .ok (.iload_n 3, 1) := fq1_29 (fl_27 (j := 45) rfl rfl)
theorem dL_law_1774 : decode cL_law 1774 = .ok (.iconst 2, 1) := fq1_5 (fl_27 (j := 46) rfl rfl)
theorem dL_law_1775 : decode cL_law 1775 = .ok (.iadd, 1) := fq1_96 (fl_27 (j := 47) rfl rfl)
theorem dL_law_1776 : decode cL_law 1776 = .ok (.iaload, 1) := fq1_46 (fl_27 (j := 48) rfl rfl)
theorem dL_law_1777 : decode cL_law 1777 = .ok (.invokevirtual 185, 3) := fq3_182 (fl_27 (j := 49) rfl rfl) (fl_27 (j := 50) rfl rfl) (fl_27 (j := 51) rfl rfl) (by decide)
theorem dL_law_1780 : decode cL_law 1780 = .ok (.pop, 1) := fq1_87 (fl_27 (j := 52) rfl rfl)
theorem dL_law_1781 : decode cL_law 1781 = .ok (.goto 1065, 3) := fq3_167 (fl_27 (j := 53) rfl rfl) (fl_27 (j := 54) rfl rfl) (fl_27 (j := 55) rfl rfl) (by decide)
