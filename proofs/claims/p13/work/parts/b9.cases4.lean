section
theorem qc_X11_latest : Cond.code yX11_latest cX11_latest 3 (some .int) ∈ gw := tbt (tb4 (List.mem_of_getElem? (i := 193) rfl)) rfl
theorem qi_yX11_latest : Cond.instanceMethod yX11_latest ∈ gw := tbt (tb4 (List.mem_of_getElem? (i := 191) rfl)) rfl
theorem qs_X11_latest : Cond.selects (yX11_latest).cls yX11_latest yX11_latest ∈ gw := tbt (tb4 (List.mem_of_getElem? (i := 192) rfl)) rfl
theorem ci_X11_latest : CIv yX11_latest cX11_latest 3 (some .int) 2 := ⟨qc_X11_latest, qi_yX11_latest, qs_X11_latest, qz_X11, by decide +kernel⟩
theorem qm_L_154 : Cond.methodLink RL 154 yX11_latest ∈ gw := tbt (tb4 (List.mem_of_getElem? (i := 190) rfl)) rfl
theorem qc_X12_latest : Cond.code yX12_latest cX12_latest 3 (some .int) ∈ gw := tbt (tb8 (List.mem_of_getElem? (i := 9) rfl)) rfl
theorem qi_yX12_latest : Cond.instanceMethod yX12_latest ∈ gw := tbt (tb8 (List.mem_of_getElem? (i := 7) rfl)) rfl
theorem qs_X12_latest : Cond.selects (yX12_latest).cls yX12_latest yX12_latest ∈ gw := tbt (tb8 (List.mem_of_getElem? (i := 8) rfl)) rfl
theorem ci_X12_latest : CIv yX12_latest cX12_latest 3 (some .int) 2 := ⟨qc_X12_latest, qi_yX12_latest, qs_X12_latest, qz_X12, by decide +kernel⟩
theorem qm_L_157 : Cond.methodLink RL 157 yX12_latest ∈ gw := tbt (tb8 (List.mem_of_getElem? (i := 6) rfl)) rfl
theorem qc_X11_centre : Cond.code yX11_centre cX11_centre 6 (some .int) ∈ gw := tbt (tb4 (List.mem_of_getElem? (i := 201) rfl)) rfl
theorem qi_yX11_centre : Cond.instanceMethod yX11_centre ∈ gw := tbt (tb4 (List.mem_of_getElem? (i := 199) rfl)) rfl
theorem qs_X11_centre : Cond.selects (yX11_centre).cls yX11_centre yX11_centre ∈ gw := tbt (tb4 (List.mem_of_getElem? (i := 200) rfl)) rfl
theorem ci_X11_centre : CIv yX11_centre cX11_centre 6 (some .int) 1 := ⟨qc_X11_centre, qi_yX11_centre, qs_X11_centre, qz_X11, by decide +kernel⟩
theorem qm_L_158 : Cond.methodLink RL 158 yX11_centre ∈ gw := tbt (tb4 (List.mem_of_getElem? (i := 198) rfl)) rfl
theorem qc_X12_centre : Cond.code yX12_centre cX12_centre 5 (some .int) ∈ gw := tbt (tb8 (List.mem_of_getElem? (i := 17) rfl)) rfl
theorem qi_yX12_centre : Cond.instanceMethod yX12_centre ∈ gw := tbt (tb8 (List.mem_of_getElem? (i := 15) rfl)) rfl
theorem qs_X12_centre : Cond.selects (yX12_centre).cls yX12_centre yX12_centre ∈ gw := tbt (tb8 (List.mem_of_getElem? (i := 16) rfl)) rfl
theorem ci_X12_centre : CIv yX12_centre cX12_centre 5 (some .int) 1 := ⟨qc_X12_centre, qi_yX12_centre, qs_X12_centre, qz_X12, by decide +kernel⟩
theorem qm_L_161 : Cond.methodLink RL 161 yX12_centre ∈ gw := tbt (tb8 (List.mem_of_getElem? (i := 14) rfl)) rfl
theorem qc_X11_cutOff : Cond.code yX11_cutOff cX11_cutOff 5 (some .int) ∈ gw := tbt (tb4 (List.mem_of_getElem? (i := 205) rfl)) rfl
theorem qi_yX11_cutOff : Cond.instanceMethod yX11_cutOff ∈ gw := tbt (tb4 (List.mem_of_getElem? (i := 203) rfl)) rfl
theorem qs_X11_cutOff : Cond.selects (yX11_cutOff).cls yX11_cutOff yX11_cutOff ∈ gw := tbt (tb4 (List.mem_of_getElem? (i := 204) rfl)) rfl
theorem ci_X11_cutOff : CIv yX11_cutOff cX11_cutOff 5 (some .int) 2 := ⟨qc_X11_cutOff, qi_yX11_cutOff, qs_X11_cutOff, qz_X11, by decide +kernel⟩
theorem qm_L_162 : Cond.methodLink RL 162 yX11_cutOff ∈ gw := tbt (tb4 (List.mem_of_getElem? (i := 202) rfl)) rfl
theorem qc_X12_cutOff : Cond.code yX12_cutOff cX12_cutOff 3 (some .int) ∈ gw := tbt (tb8 (List.mem_of_getElem? (i := 21) rfl)) rfl
theorem qi_yX12_cutOff : Cond.instanceMethod yX12_cutOff ∈ gw := tbt (tb8 (List.mem_of_getElem? (i := 19) rfl)) rfl
theorem qs_X12_cutOff : Cond.selects (yX12_cutOff).cls yX12_cutOff yX12_cutOff ∈ gw := tbt (tb8 (List.mem_of_getElem? (i := 20) rfl)) rfl
theorem ci_X12_cutOff : CIv yX12_cutOff cX12_cutOff 3 (some .int) 2 := ⟨qc_X12_cutOff, qi_yX12_cutOff, qs_X12_cutOff, qz_X12, by decide +kernel⟩
theorem qm_L_165 : Cond.methodLink RL 165 yX12_cutOff ∈ gw := tbt (tb8 (List.mem_of_getElem? (i := 18) rfl)) rfl
theorem qc_X11_hearsBack : Cond.code yX11_hearsBack cX11_hearsBack 6 (some .int) ∈ gw := tbt (tb4 (List.mem_of_getElem? (i := 209) rfl)) rfl
theorem qi_yX11_hearsBack : Cond.instanceMethod yX11_hearsBack ∈ gw := tbt (tb4 (List.mem_of_getElem? (i := 207) rfl)) rfl
theorem qs_X11_hearsBack : Cond.selects (yX11_hearsBack).cls yX11_hearsBack yX11_hearsBack ∈ gw := tbt (tb4 (List.mem_of_getElem? (i := 208) rfl)) rfl
theorem ci_X11_hearsBack : CIv yX11_hearsBack cX11_hearsBack 6 (some .int) 2 := ⟨qc_X11_hearsBack, qi_yX11_hearsBack, qs_X11_hearsBack, qz_X11, by decide +kernel⟩
theorem qm_L_166 : Cond.methodLink RL 166 yX11_hearsBack ∈ gw := tbt (tb4 (List.mem_of_getElem? (i := 206) rfl)) rfl
theorem qc_X12_hearsBack : Cond.code yX12_hearsBack cX12_hearsBack 5 (some .int) ∈ gw := tbt (tb8 (List.mem_of_getElem? (i := 26) rfl)) rfl
theorem qi_yX12_hearsBack : Cond.instanceMethod yX12_hearsBack ∈ gw := tbt (tb8 (List.mem_of_getElem? (i := 24) rfl)) rfl
theorem qs_X12_hearsBack : Cond.selects (yX12_hearsBack).cls yX12_hearsBack yX12_hearsBack ∈ gw := tbt (tb8 (List.mem_of_getElem? (i := 25) rfl)) rfl
theorem ci_X12_hearsBack : CIv yX12_hearsBack cX12_hearsBack 5 (some .int) 2 := ⟨qc_X12_hearsBack, qi_yX12_hearsBack, qs_X12_hearsBack, qz_X12, by decide +kernel⟩
theorem qm_L_169 : Cond.methodLink RL 169 yX12_hearsBack ∈ gw := tbt (tb8 (List.mem_of_getElem? (i := 23) rfl)) rfl
theorem qc_X11_remote : Cond.code yX11_remote cX11_remote 7 (some .int) ∈ gw := tbt (tb4 (List.mem_of_getElem? (i := 213) rfl)) rfl
theorem qi_yX11_remote : Cond.instanceMethod yX11_remote ∈ gw := tbt (tb4 (List.mem_of_getElem? (i := 211) rfl)) rfl
theorem qs_X11_remote : Cond.selects (yX11_remote).cls yX11_remote yX11_remote ∈ gw := tbt (tb4 (List.mem_of_getElem? (i := 212) rfl)) rfl
theorem ci_X11_remote : CIv yX11_remote cX11_remote 7 (some .int) 1 := ⟨qc_X11_remote, qi_yX11_remote, qs_X11_remote, qz_X11, by decide +kernel⟩
theorem qm_L_170 : Cond.methodLink RL 170 yX11_remote ∈ gw := tbt (tb4 (List.mem_of_getElem? (i := 210) rfl)) rfl
theorem qc_X12_remote : Cond.code yX12_remote cX12_remote 7 (some .int) ∈ gw := tbt (tb8 (List.mem_of_getElem? (i := 30) rfl)) rfl
theorem qi_yX12_remote : Cond.instanceMethod yX12_remote ∈ gw := tbt (tb8 (List.mem_of_getElem? (i := 28) rfl)) rfl
theorem qs_X12_remote : Cond.selects (yX12_remote).cls yX12_remote yX12_remote ∈ gw := tbt (tb8 (List.mem_of_getElem? (i := 29) rfl)) rfl
theorem ci_X12_remote : CIv yX12_remote cX12_remote 7 (some .int) 1 := ⟨qc_X12_remote, qi_yX12_remote, qs_X12_remote, qz_X12, by decide +kernel⟩
theorem qm_L_173 : Cond.methodLink RL 173 yX12_remote ∈ gw := tbt (tb8 (List.mem_of_getElem? (i := 27) rfl)) rfl
theorem qc_X11_order : Cond.code yX11_order cX11_order 3 (some .int) ∈ gw := tbt (tb4 (List.mem_of_getElem? (i := 218) rfl)) rfl
theorem qi_yX11_order : Cond.instanceMethod yX11_order ∈ gw := tbt (tb4 (List.mem_of_getElem? (i := 216) rfl)) rfl
theorem qs_X11_order : Cond.selects (yX11_order).cls yX11_order yX11_order ∈ gw := tbt (tb4 (List.mem_of_getElem? (i := 217) rfl)) rfl
theorem ci_X11_order : CIv yX11_order cX11_order 3 (some .int) 1 := ⟨qc_X11_order, qi_yX11_order, qs_X11_order, qz_X11, by decide +kernel⟩
theorem qm_L_174 : Cond.methodLink RL 174 yX11_order ∈ gw := tbt (tb4 (List.mem_of_getElem? (i := 215) rfl)) rfl
theorem qc_X12_order : Cond.code yX12_order cX12_order 2 (some .int) ∈ gw := tbt (tb8 (List.mem_of_getElem? (i := 34) rfl)) rfl
theorem qi_yX12_order : Cond.instanceMethod yX12_order ∈ gw := tbt (tb8 (List.mem_of_getElem? (i := 32) rfl)) rfl
theorem qs_X12_order : Cond.selects (yX12_order).cls yX12_order yX12_order ∈ gw := tbt (tb8 (List.mem_of_getElem? (i := 33) rfl)) rfl
theorem ci_X12_order : CIv yX12_order cX12_order 2 (some .int) 1 := ⟨qc_X12_order, qi_yX12_order, qs_X12_order, qz_X12, by decide +kernel⟩
theorem qm_L_177 : Cond.methodLink RL 177 yX12_order ∈ gw := tbt (tb8 (List.mem_of_getElem? (i := 31) rfl)) rfl
theorem qc_X11_given : Cond.code yX11_given cX11_given 3 (some .int) ∈ gw := tbt (tb4 (List.mem_of_getElem? (i := 228) rfl)) rfl
theorem qi_yX11_given : Cond.instanceMethod yX11_given ∈ gw := tbt (tb4 (List.mem_of_getElem? (i := 226) rfl)) rfl
theorem qs_X11_given : Cond.selects (yX11_given).cls yX11_given yX11_given ∈ gw := tbt (tb4 (List.mem_of_getElem? (i := 227) rfl)) rfl
theorem ci_X11_given : CIv yX11_given cX11_given 3 (some .int) 2 := ⟨qc_X11_given, qi_yX11_given, qs_X11_given, qz_X11, by decide +kernel⟩
theorem qm_L_178 : Cond.methodLink RL 178 yX11_given ∈ gw := tbt (tb4 (List.mem_of_getElem? (i := 225) rfl)) rfl
theorem qc_X12_given : Cond.code yX12_given cX12_given 3 (some .int) ∈ gw := tbt (tb8 (List.mem_of_getElem? (i := 45) rfl)) rfl
theorem qi_yX12_given : Cond.instanceMethod yX12_given ∈ gw := tbt (tb8 (List.mem_of_getElem? (i := 43) rfl)) rfl
theorem qs_X12_given : Cond.selects (yX12_given).cls yX12_given yX12_given ∈ gw := tbt (tb8 (List.mem_of_getElem? (i := 44) rfl)) rfl
theorem ci_X12_given : CIv yX12_given cX12_given 3 (some .int) 2 := ⟨qc_X12_given, qi_yX12_given, qs_X12_given, qz_X12, by decide +kernel⟩
theorem qm_L_181 : Cond.methodLink RL 181 yX12_given ∈ gw := tbt (tb8 (List.mem_of_getElem? (i := 42) rfl)) rfl
theorem qc_X11_heard : Cond.code yX11_heard cX11_heard 3 (some .int) ∈ gw := tbt (tb4 (List.mem_of_getElem? (i := 236) rfl)) rfl
theorem qi_yX11_heard : Cond.instanceMethod yX11_heard ∈ gw := tbt (tb4 (List.mem_of_getElem? (i := 234) rfl)) rfl
theorem qs_X11_heard : Cond.selects (yX11_heard).cls yX11_heard yX11_heard ∈ gw := tbt (tb4 (List.mem_of_getElem? (i := 235) rfl)) rfl
theorem ci_X11_heard : CIv yX11_heard cX11_heard 3 (some .int) 2 := ⟨qc_X11_heard, qi_yX11_heard, qs_X11_heard, qz_X11, by decide +kernel⟩
theorem qm_L_182 : Cond.methodLink RL 182 yX11_heard ∈ gw := tbt (tb4 (List.mem_of_getElem? (i := 233) rfl)) rfl
theorem qc_X12_heard : Cond.code yX12_heard cX12_heard 3 (some .int) ∈ gw := tbt (tb8 (List.mem_of_getElem? (i := 53) rfl)) rfl
theorem qi_yX12_heard : Cond.instanceMethod yX12_heard ∈ gw := tbt (tb8 (List.mem_of_getElem? (i := 51) rfl)) rfl
theorem qs_X12_heard : Cond.selects (yX12_heard).cls yX12_heard yX12_heard ∈ gw := tbt (tb8 (List.mem_of_getElem? (i := 52) rfl)) rfl
theorem ci_X12_heard : CIv yX12_heard cX12_heard 3 (some .int) 2 := ⟨qc_X12_heard, qi_yX12_heard, qs_X12_heard, qz_X12, by decide +kernel⟩
theorem qm_L_185 : Cond.methodLink RL 185 yX12_heard ∈ gw := tbt (tb8 (List.mem_of_getElem? (i := 50) rfl)) rfl
theorem dL_law_1550 : decode cL_law 1550 = .ok (.aload_n 1, 1) := fq1_43 (fl_24 (j := 14) rfl rfl)
theorem dL_law_1551 : decode cL_law 1551 = .ok (.aload_n 0, 1) := fq1_42 (fl_24 (j := 15) rfl rfl)
theorem dL_law_1552 : decode cL_law 1552 = .ok (.iload_n 3, 1) := fq1_29 (fl_24 (j := 16) rfl rfl)
theorem dL_law_1553 : decode cL_law 1553 = .ok (.iconst 1, 1) := fq1_4 (fl_24 (j := 17) rfl rfl)
theorem dL_law_1554 : decode cL_law 1554 = .ok (.iadd, 1) := fq1_96 (fl_24 (j := 18) rfl rfl)
theorem dL_law_1555 : decode cL_law 1555 = .ok (.iaload, 1) := fq1_46 (fl_24 (j := 19) rfl rfl)
theorem dL_law_1556 : decode cL_law 1556 = .ok (.aload_n 0, 1) := fq1_42 (fl_24 (j := 20) rfl rfl)
theorem dL_law_1557 : decode cL_law 1557 = .ok (.iload_n 3, 1) := fq1_29 (fl_24 (j := 21) rfl rfl)
theorem dL_law_1558 : decode cL_law 1558 = .ok (.iconst 2, 1) := fq1_5 (fl_24 (j := 22) rfl rfl)
theorem dL_law_1559 : decode cL_law 1559 = .ok (.iadd, 1) := fq1_96 (fl_24 (j := 23) rfl rfl)
theorem dL_law_1560 : decode cL_law 1560 = .ok (.iaload, 1) := fq1_46 (fl_24 (j := 24) rfl rfl)
theorem dL_law_1561 : decode cL_law 1561 = .ok (.invokevirtual 154, 3) := fq3_182 (fl_24 (j := 25) rfl rfl) (fl_24 (j := 26) rfl rfl) (fl_24 (j := 27) rfl rfl) rfl
theorem dL_law_1564 : decode cL_law 1564 = .ok (.pop, 1) := fq1_87 (fl_24 (j := 28) rfl rfl)
theorem dL_law_1565 : decode cL_law 1565 = .ok (.aload_n 2, 1) := fq1_44 (fl_24 (j := 29) rfl rfl)
theorem dL_law_1566 : decode cL_law 1566 = .ok (.aload_n 0, 1) := fq1_42 (fl_24 (j := 30) rfl rfl)
theorem dL_law_1567 : decode cL_law 1567 = .ok (.iload_n 3, 1) := fq1_29 (fl_24 (j := 31) rfl rfl)
theorem dL_law_1568 : decode cL_law 1568 = .ok (.iconst 1, 1) := fq1_4 (fl_24 (j := 32) rfl rfl)
theorem dL_law_1569 : decode cL_law 1569 = .ok (.iadd, 1) := fq1_96 (fl_24 (j := 33) rfl rfl)
theorem dL_law_1570 : decode cL_law 1570 = .ok (.iaload, 1) := fq1_46 (fl_24 (j := 34) rfl rfl)
theorem dL_law_1571 : decode cL_law 1571 = .ok (.aload_n 0, 1) := fq1_42 (fl_24 (j := 35) rfl rfl)
theorem dL_law_1572 : decode cL_law 1572 = .ok (.iload_n 3, 1) := fq1_29 (fl_24 (j := 36) rfl rfl)
theorem dL_law_1573 : decode cL_law 1573 = .ok (.iconst 2, 1) := fq1_5 (fl_24 (j := 37) rfl rfl)
theorem dL_law_1574 : decode cL_law 1574 = .ok (.iadd, 1) := fq1_96 (fl_24 (j := 38) rfl rfl)
theorem dL_law_1575 : decode cL_law 1575 = .ok (.iaload, 1) := fq1_46 (fl_24 (j := 39) rfl rfl)
theorem dL_law_1576 : decode cL_law 1576 = .ok (.invokevirtual 157, 3) := fq3_182 (fl_24 (j := 40) rfl rfl) (fl_24 (j := 41) rfl rfl) (fl_24 (j := 42) rfl rfl) rfl
theorem dL_law_1579 : decode cL_law 1579 = .ok (.pop, 1) := fq1_87 (fl_24 (j := 43) rfl rfl)
theorem dL_law_1580 : decode cL_law 1580 = .ok (.goto 1266, 3) := fq3_167 (fl_24 (j := 44) rfl rfl) (fl_24 (j := 45) rfl rfl) (fl_24 (j := 46) rfl rfl) (s2p rfl (bl rfl))
theorem dL_law_1583 : decode cL_law 1583 = .ok (.aload_n 1, 1) := fq1_43 (fl_24 (j := 47) rfl rfl)
theorem dL_law_1584 : decode cL_law 1584 = .ok (.aload_n 0, 1) := fq1_42 (fl_24 (j := 48) rfl rfl)
theorem dL_law_1585 : decode cL_law 1585 = .ok (.iload_n 3, 1) := fq1_29 (fl_24 (j := 49) rfl rfl)
theorem dL_law_1586 : decode cL_law 1586 = .ok (.iconst 1, 1) := fq1_4 (fl_24 (j := 50) rfl rfl)
theorem dL_law_1587 : decode cL_law 1587 = .ok (.iadd, 1) := fq1_96 (fl_24 (j := 51) rfl rfl)
theorem dL_law_1588 : decode cL_law 1588 = .ok (.iaload, 1) := fq1_46 (fl_24 (j := 52) rfl rfl)
theorem dL_law_1589 : decode cL_law 1589 = .ok (.invokevirtual 158, 3) := fq3_182 (fl_24 (j := 53) rfl rfl) (fl_24 (j := 54) rfl rfl) (fl_24 (j := 55) rfl rfl) rfl
theorem dL_law_1592 : decode cL_law 1592 = .ok (.pop, 1) := fq1_87 (fl_24 (j := 56) rfl rfl)
theorem dL_law_1593 : decode cL_law 1593 = .ok (.aload_n 2, 1) := fq1_44 (fl_24 (j := 57) rfl rfl)
theorem dL_law_1594 : decode cL_law 1594 = .ok (.aload_n 0, 1) := fq1_42 (fl_24 (j := 58) rfl rfl)
theorem dL_law_1595 : decode cL_law 1595 = .ok (.iload_n 3, 1) := fq1_29 (fl_24 (j := 59) rfl rfl)
theorem dL_law_1596 : decode cL_law 1596 = .ok (.iconst 1, 1) := fq1_4 (fl_24 (j := 60) rfl rfl)
theorem dL_law_1597 : decode cL_law 1597 = .ok (.iadd, 1) := fq1_96 (fl_24 (j := 61) rfl rfl)
theorem dL_law_1598 : decode cL_law 1598 = .ok (.iaload, 1) := fq1_46 (fl_24 (j := 62) rfl rfl)
theorem dL_law_1599 : decode cL_law 1599 = .ok (.invokevirtual 161, 3) := fq3_182 (fl_24 (j := 63) rfl rfl) (fl_25 (j := 0) rfl rfl) (fl_25 (j := 1) rfl rfl) rfl
theorem dL_law_1602 : decode cL_law 1602 = .ok (.pop, 1) := fq1_87 (fl_25 (j := 2) rfl rfl)
theorem dL_law_1603 : decode cL_law 1603 = .ok (.goto 1243, 3) := fq3_167 (fl_25 (j := 3) rfl rfl) (fl_25 (j := 4) rfl rfl) (fl_25 (j := 5) rfl rfl) (s2p rfl (bl rfl))
theorem dL_law_1606 : decode cL_law 1606 = .ok (.aload_n 1, 1) := fq1_43 (fl_25 (j := 6) rfl rfl)
theorem dL_law_1607 : decode cL_law 1607 = .ok (.aload_n 0, 1) := fq1_42 (fl_25 (j := 7) rfl rfl)
theorem dL_law_1608 : decode cL_law 1608 = .ok (.iload_n 3, 1) := fq1_29 (fl_25 (j := 8) rfl rfl)
theorem dL_law_1609 : decode cL_law 1609 = .ok (.iconst 1, 1) := fq1_4 (fl_25 (j := 9) rfl rfl)
theorem dL_law_1610 : decode cL_law 1610 = .ok (.iadd, 1) := fq1_96 (fl_25 (j := 10) rfl rfl)
theorem dL_law_1611 : decode cL_law 1611 = .ok (.iaload, 1) := fq1_46 (fl_25 (j := 11) rfl rfl)
theorem dL_law_1612 : decode cL_law 1612 = .ok (.aload_n 0, 1) := fq1_42 (fl_25 (j := 12) rfl rfl)
theorem dL_law_1613 : decode cL_law 1613 = .ok (.iload_n 3, 1) := fq1_29 (fl_25 (j := 13) rfl rfl)
theorem dL_law_1614 : decode cL_law 1614 = .ok (.iconst 2, 1) := fq1_5 (fl_25 (j := 14) rfl rfl)
theorem dL_law_1615 : decode cL_law 1615 = .ok (.iadd, 1) := fq1_96 (fl_25 (j := 15) rfl rfl)
theorem dL_law_1616 : decode cL_law 1616 = .ok (.iaload, 1) := fq1_46 (fl_25 (j := 16) rfl rfl)
theorem dL_law_1617 : decode cL_law 1617 = .ok (.invokevirtual 162, 3) := fq3_182 (fl_25 (j := 17) rfl rfl) (fl_25 (j := 18) rfl rfl) (fl_25 (j := 19) rfl rfl) rfl
theorem dL_law_1620 : decode cL_law 1620 = .ok (.pop, 1) := fq1_87 (fl_25 (j := 20) rfl rfl)
theorem dL_law_1621 : decode cL_law 1621 = .ok (.aload_n 2, 1) := fq1_44 (fl_25 (j := 21) rfl rfl)
theorem dL_law_1622 : decode cL_law 1622 = .ok (.aload_n 0, 1) := fq1_42 (fl_25 (j := 22) rfl rfl)
theorem dL_law_1623 : decode cL_law 1623 = .ok (.iload_n 3, 1) := fq1_29 (fl_25 (j := 23) rfl rfl)
theorem dL_law_1624 : decode cL_law 1624 = .ok (.iconst 1, 1) := fq1_4 (fl_25 (j := 24) rfl rfl)
theorem dL_law_1625 : decode cL_law 1625 = .ok (.iadd, 1) := fq1_96 (fl_25 (j := 25) rfl rfl)
theorem dL_law_1626 : decode cL_law 1626 = .ok (.iaload, 1) := fq1_46 (fl_25 (j := 26) rfl rfl)
theorem dL_law_1627 : decode cL_law 1627 = .ok (.aload_n 0, 1) := fq1_42 (fl_25 (j := 27) rfl rfl)
theorem dL_law_1628 : decode cL_law 1628 = .ok (.iload_n 3, 1) := fq1_29 (fl_25 (j := 28) rfl rfl)
theorem dL_law_1629 : decode cL_law 1629 = .ok (.iconst 2, 1) := fq1_5 (fl_25 (j := 29) rfl rfl)
theorem dL_law_1630 : decode cL_law 1630 = .ok (.iadd, 1) := fq1_96 (fl_25 (j := 30) rfl rfl)
theorem dL_law_1631 : decode cL_law 1631 = .ok (.iaload, 1) := fq1_46 (fl_25 (j := 31) rfl rfl)
theorem dL_law_1632 : decode cL_law 1632 = .ok (.invokevirtual 165, 3) := fq3_182 (fl_25 (j := 32) rfl rfl) (fl_25 (j := 33) rfl rfl) (fl_25 (j := 34) rfl rfl) rfl
theorem dL_law_1635 : decode cL_law 1635 = .ok (.pop, 1) := fq1_87 (fl_25 (j := 35) rfl rfl)
theorem dL_law_1636 : decode cL_law 1636 = .ok (.goto 1210, 3) := fq3_167 (fl_25 (j := 36) rfl rfl) (fl_25 (j := 37) rfl rfl) (fl_25 (j := 38) rfl rfl) (s2p rfl (bl rfl))
theorem dL_law_1639 : decode cL_law 1639 = .ok (.aload_n 1, 1) := fq1_43 (fl_25 (j := 39) rfl rfl)
theorem dL_law_1640 : decode cL_law 1640 = .ok (.aload_n 0, 1) := fq1_42 (fl_25 (j := 40) rfl rfl)
theorem dL_law_1641 : decode cL_law 1641 = .ok (.iload_n 3, 1) := fq1_29 (fl_25 (j := 41) rfl rfl)
theorem dL_law_1642 : decode cL_law 1642 = .ok (.iconst 1, 1) := fq1_4 (fl_25 (j := 42) rfl rfl)
theorem dL_law_1643 : decode cL_law 1643 = .ok (.iadd, 1) := fq1_96 (fl_25 (j := 43) rfl rfl)
theorem dL_law_1644 : decode cL_law 1644 = .ok (.iaload, 1) := fq1_46 (fl_25 (j := 44) rfl rfl)
theorem dL_law_1645 : decode cL_law 1645 = .ok (.aload_n 0, 1) := fq1_42 (fl_25 (j := 45) rfl rfl)
theorem dL_law_1646 : decode cL_law 1646 = .ok (.iload_n 3, 1) := fq1_29 (fl_25 (j := 46) rfl rfl)
theorem dL_law_1647 : decode cL_law 1647 = .ok (.iconst 2, 1) := fq1_5 (fl_25 (j := 47) rfl rfl)
theorem dL_law_1648 : decode cL_law 1648 = .ok (.iadd, 1) := fq1_96 (fl_25 (j := 48) rfl rfl)
theorem dL_law_1649 : decode cL_law 1649 = .ok (.iaload, 1) := fq1_46 (fl_25 (j := 49) rfl rfl)
theorem dL_law_1650 : decode cL_law 1650 = .ok (.invokevirtual 166, 3) := fq3_182 (fl_25 (j := 50) rfl rfl) (fl_25 (j := 51) rfl rfl) (fl_25 (j := 52) rfl rfl) rfl
theorem dL_law_1653 : decode cL_law 1653 = .ok (.pop, 1) := fq1_87 (fl_25 (j := 53) rfl rfl)
theorem dL_law_1654 : decode cL_law 1654 = .ok (.aload_n 2, 1) := fq1_44 (fl_25 (j := 54) rfl rfl)
theorem dL_law_1655 : decode cL_law 1655 = .ok (.aload_n 0, 1) := fq1_42 (fl_25 (j := 55) rfl rfl)
theorem dL_law_1656 : decode cL_law 1656 = .ok (.iload_n 3, 1) := fq1_29 (fl_25 (j := 56) rfl rfl)
theorem dL_law_1657 : decode cL_law 1657 = .ok (.iconst 1, 1) := fq1_4 (fl_25 (j := 57) rfl rfl)
theorem dL_law_1658 : decode cL_law 1658 = .ok (.iadd, 1) := fq1_96 (fl_25 (j := 58) rfl rfl)
theorem dL_law_1659 : decode cL_law 1659 = .ok (.iaload, 1) := fq1_46 (fl_25 (j := 59) rfl rfl)
theorem dL_law_1660 : decode cL_law 1660 = .ok (.aload_n 0, 1) := fq1_42 (fl_25 (j := 60) rfl rfl)
theorem dL_law_1661 : decode cL_law 1661 = .ok (.iload_n 3, 1) := fq1_29 (fl_25 (j := 61) rfl rfl)
theorem dL_law_1662 : decode cL_law 1662 = .ok (.iconst 2, 1) := fq1_5 (fl_25 (j := 62) rfl rfl)
theorem dL_law_1663 : decode cL_law 1663 = .ok (.iadd, 1) := fq1_96 (fl_25 (j := 63) rfl rfl)
theorem dL_law_1664 : decode cL_law 1664 = .ok (.iaload, 1) := fq1_46 (fl_26 (j := 0) rfl rfl)
theorem dL_law_1665 : decode cL_law 1665 = .ok (.invokevirtual 169, 3) := fq3_182 (fl_26 (j := 1) rfl rfl) (fl_26 (j := 2) rfl rfl) (fl_26 (j := 3) rfl rfl) rfl
theorem dL_law_1668 : decode cL_law 1668 = .ok (.pop, 1) := fq1_87 (fl_26 (j := 4) rfl rfl)
theorem dL_law_1669 : decode cL_law 1669 = .ok (.goto 1177, 3) := fq3_167 (fl_26 (j := 5) rfl rfl) (fl_26 (j := 6) rfl rfl) (fl_26 (j := 7) rfl rfl) (s2p rfl (bl rfl))
theorem dL_law_1672 : decode cL_law 1672 = .ok (.aload_n 1, 1) := fq1_43 (fl_26 (j := 8) rfl rfl)
theorem dL_law_1673 : decode cL_law 1673 = .ok (.aload_n 0, 1) := fq1_42 (fl_26 (j := 9) rfl rfl)
theorem dL_law_1674 : decode cL_law 1674 = .ok (.iload_n 3, 1) := fq1_29 (fl_26 (j := 10) rfl rfl)
theorem dL_law_1675 : decode cL_law 1675 = .ok (.iconst 1, 1) := fq1_4 (fl_26 (j := 11) rfl rfl)
theorem dL_law_1676 : decode cL_law 1676 = .ok (.iadd, 1) := fq1_96 (fl_26 (j := 12) rfl rfl)
theorem dL_law_1677 : decode cL_law 1677 = .ok (.iaload, 1) := fq1_46 (fl_26 (j := 13) rfl rfl)
theorem dL_law_1678 : decode cL_law 1678 = .ok (.invokevirtual 170, 3) := fq3_182 (fl_26 (j := 14) rfl rfl) (fl_26 (j := 15) rfl rfl) (fl_26 (j := 16) rfl rfl) rfl
theorem dL_law_1681 : decode cL_law 1681 = .ok (.pop, 1) := fq1_87 (fl_26 (j := 17) rfl rfl)
theorem dL_law_1682 : decode cL_law 1682 = .ok (.aload_n 2, 1) := fq1_44 (fl_26 (j := 18) rfl rfl)
theorem dL_law_1683 : decode cL_law 1683 = .ok (.aload_n 0, 1) := fq1_42 (fl_26 (j := 19) rfl rfl)
theorem dL_law_1684 : decode cL_law 1684 = .ok (.iload_n 3, 1) := fq1_29 (fl_26 (j := 20) rfl rfl)
theorem dL_law_1685 : decode cL_law 1685 = .ok (.iconst 1, 1) := fq1_4 (fl_26 (j := 21) rfl rfl)
theorem dL_law_1686 : decode cL_law 1686 = .ok (.iadd, 1) := fq1_96 (fl_26 (j := 22) rfl rfl)
theorem dL_law_1687 : decode cL_law 1687 = .ok (.iaload, 1) := fq1_46 (fl_26 (j := 23) rfl rfl)
theorem dL_law_1688 : decode cL_law 1688 = .ok (.invokevirtual 173, 3) := fq3_182 (fl_26 (j := 24) rfl rfl) (fl_26 (j := 25) rfl rfl) (fl_26 (j := 26) rfl rfl) rfl
theorem dL_law_1691 : decode cL_law 1691 = .ok (.pop, 1) := fq1_87 (fl_26 (j := 27) rfl rfl)
theorem dL_law_1692 : decode cL_law 1692 = .ok (.goto 1154, 3) := fq3_167 (fl_26 (j := 28) rfl rfl) (fl_26 (j := 29) rfl rfl) (fl_26 (j := 30) rfl rfl) (s2p rfl (bl rfl))
theorem dL_law_1695 : decode cL_law 1695 = .ok (.aload_n 1, 1) := fq1_43 (fl_26 (j := 31) rfl rfl)
theorem dL_law_1696 : decode cL_law 1696 = .ok (.aload_n 0, 1) := fq1_42 (fl_26 (j := 32) rfl rfl)
theorem dL_law_1697 : decode cL_law 1697 = .ok (.iload_n 3, 1) := fq1_29 (fl_26 (j := 33) rfl rfl)
theorem dL_law_1698 : decode cL_law 1698 = .ok (.iconst 1, 1) := fq1_4 (fl_26 (j := 34) rfl rfl)
theorem dL_law_1699 : decode cL_law 1699 = .ok (.iadd, 1) := fq1_96 (fl_26 (j := 35) rfl rfl)
theorem dL_law_1700 : decode cL_law 1700 = .ok (.iaload, 1) := fq1_46 (fl_26 (j := 36) rfl rfl)
theorem dL_law_1701 : decode cL_law 1701 = .ok (.invokevirtual 174, 3) := fq3_182 (fl_26 (j := 37) rfl rfl) (fl_26 (j := 38) rfl rfl) (fl_26 (j := 39) rfl rfl) rfl
theorem dL_law_1704 : decode cL_law 1704 = .ok (.pop, 1) := fq1_87 (fl_26 (j := 40) rfl rfl)
theorem dL_law_1705 : decode cL_law 1705 = .ok (.aload_n 2, 1) := fq1_44 (fl_26 (j := 41) rfl rfl)
theorem dL_law_1706 : decode cL_law 1706 = .ok (.aload_n 0, 1) := fq1_42 (fl_26 (j := 42) rfl rfl)
theorem dL_law_1707 : decode cL_law 1707 = .ok (.iload_n 3, 1) := fq1_29 (fl_26 (j := 43) rfl rfl)
theorem dL_law_1708 : decode cL_law 1708 = .ok (.iconst 1, 1) := fq1_4 (fl_26 (j := 44) rfl rfl)
theorem dL_law_1709 : decode cL_law 1709 = .ok (.iadd, 1) := fq1_96 (fl_26 (j := 45) rfl rfl)
theorem dL_law_1710 : decode cL_law 1710 = .ok (.iaload, 1) := fq1_46 (fl_26 (j := 46) rfl rfl)
theorem dL_law_1711 : decode cL_law 1711 = .ok (.invokevirtual 177, 3) := fq3_182 (fl_26 (j := 47) rfl rfl) (fl_26 (j := 48) rfl rfl) (fl_26 (j := 49) rfl rfl) rfl
theorem dL_law_1714 : decode cL_law 1714 = .ok (.pop, 1) := fq1_87 (fl_26 (j := 50) rfl rfl)
theorem dL_law_1715 : decode cL_law 1715 = .ok (.goto 1131, 3) := fq3_167 (fl_26 (j := 51) rfl rfl) (fl_26 (j := 52) rfl rfl) (fl_26 (j := 53) rfl rfl) (s2p rfl (bl rfl))
theorem dL_law_1718 : decode cL_law 1718 = .ok (.aload_n 1, 1) := fq1_43 (fl_26 (j := 54) rfl rfl)
theorem dL_law_1719 : decode cL_law 1719 = .ok (.aload_n 0, 1) := fq1_42 (fl_26 (j := 55) rfl rfl)
theorem dL_law_1720 : decode cL_law 1720 = .ok (.iload_n 3, 1) := fq1_29 (fl_26 (j := 56) rfl rfl)
theorem dL_law_1721 : decode cL_law 1721 = .ok (.iconst 1, 1) := fq1_4 (fl_26 (j := 57) rfl rfl)
theorem dL_law_1722 : decode cL_law 1722 = .ok (.iadd, 1) := fq1_96 (fl_26 (j := 58) rfl rfl)
theorem dL_law_1723 : decode cL_law 1723 = .ok (.iaload, 1) := fq1_46 (fl_26 (j := 59) rfl rfl)
theorem dL_law_1724 : decode cL_law 1724 = .ok (.aload_n 0, 1) := fq1_42 (fl_26 (j := 60) rfl rfl)
theorem dL_law_1725 : decode cL_law 1725 = .ok (.iload_n 3, 1) := fq1_29 (fl_26 (j := 61) rfl rfl)
theorem dL_law_1726 : decode cL_law 1726 = .ok (.iconst 2, 1) := fq1_5 (fl_26 (j := 62) rfl rfl)
theorem dL_law_1727 : decode cL_law 1727 = .ok (.iadd, 1) := fq1_96 (fl_26 (j := 63) rfl rfl)
theorem dL_law_1728 : decode cL_law 1728 = .ok (.iaload, 1) := fq1_46 (fl_27 (j := 0) rfl rfl)
theorem dL_law_1729 : decode cL_law 1729 = .ok (.invokevirtual 178, 3) := fq3_182 (fl_27 (j := 1) rfl rfl) (fl_27 (j := 2) rfl rfl) (fl_27 (j := 3) rfl rfl) rfl
theorem dL_law_1732 : decode cL_law 1732 = .ok (.pop, 1) := fq1_87 (fl_27 (j := 4) rfl rfl)
theorem dL_law_1733 : decode cL_law 1733 = .ok (.aload_n 2, 1) := fq1_44 (fl_27 (j := 5) rfl rfl)
theorem dL_law_1734 : decode cL_law 1734 = .ok (.aload_n 0, 1) := fq1_42 (fl_27 (j := 6) rfl rfl)
theorem dL_law_1735 : decode cL_law 1735 = .ok (.iload_n 3, 1) := fq1_29 (fl_27 (j := 7) rfl rfl)
theorem dL_law_1736 : decode cL_law 1736 = .ok (.iconst 1, 1) := fq1_4 (fl_27 (j := 8) rfl rfl)
theorem dL_law_1737 : decode cL_law 1737 = .ok (.iadd, 1) := fq1_96 (fl_27 (j := 9) rfl rfl)
theorem dL_law_1738 : decode cL_law 1738 = .ok (.iaload, 1) := fq1_46 (fl_27 (j := 10) rfl rfl)
theorem dL_law_1739 : decode cL_law 1739 = .ok (.aload_n 0, 1) := fq1_42 (fl_27 (j := 11) rfl rfl)
theorem dL_law_1740 : decode cL_law 1740 = .ok (.iload_n 3, 1) := fq1_29 (fl_27 (j := 12) rfl rfl)
theorem dL_law_1741 : decode cL_law 1741 = .ok (.iconst 2, 1) := fq1_5 (fl_27 (j := 13) rfl rfl)
theorem dL_law_1742 : decode cL_law 1742 = .ok (.iadd, 1) := fq1_96 (fl_27 (j := 14) rfl rfl)
theorem dL_law_1743 : decode cL_law 1743 = .ok (.iaload, 1) := fq1_46 (fl_27 (j := 15) rfl rfl)
theorem dL_law_1744 : decode cL_law 1744 = .ok (.invokevirtual 181, 3) := fq3_182 (fl_27 (j := 16) rfl rfl) (fl_27 (j := 17) rfl rfl) (fl_27 (j := 18) rfl rfl) rfl
theorem dL_law_1747 : decode cL_law 1747 = .ok (.pop, 1) := fq1_87 (fl_27 (j := 19) rfl rfl)
theorem dL_law_1748 : decode cL_law 1748 = .ok (.goto 1098, 3) := fq3_167 (fl_27 (j := 20) rfl rfl) (fl_27 (j := 21) rfl rfl) (fl_27 (j := 22) rfl rfl) (s2p rfl (bl rfl))
theorem dL_law_1751 : decode cL_law 1751 = .ok (.aload_n 1, 1) := fq1_43 (fl_27 (j := 23) rfl rfl)
theorem dL_law_1752 : decode cL_law 1752 = .ok (.aload_n 0, 1) := fq1_42 (fl_27 (j := 24) rfl rfl)
theorem dL_law_1753 : decode cL_law 1753 = .ok (.iload_n 3, 1) := fq1_29 (fl_27 (j := 25) rfl rfl)
theorem dL_law_1754 : decode cL_law 1754 = .ok (.iconst 1, 1) := fq1_4 (fl_27 (j := 26) rfl rfl)
theorem dL_law_1755 : decode cL_law 1755 = .ok (.iadd, 1) := fq1_96 (fl_27 (j := 27) rfl rfl)
theorem dL_law_1756 : decode cL_law 1756 = .ok (.iaload, 1) := fq1_46 (fl_27 (j := 28) rfl rfl)
theorem dL_law_1757 : decode cL_law 1757 = .ok (.aload_n 0, 1) := fq1_42 (fl_27 (j := 29) rfl rfl)
theorem dL_law_1758 : decode cL_law 1758 = .ok (.iload_n 3, 1) := fq1_29 (fl_27 (j := 30) rfl rfl)
theorem dL_law_1759 : decode cL_law 1759 = .ok (.iconst 2, 1) := fq1_5 (fl_27 (j := 31) rfl rfl)
theorem dL_law_1760 : decode cL_law 1760 = .ok (.iadd, 1) := fq1_96 (fl_27 (j := 32) rfl rfl)
theorem dL_law_1761 : decode cL_law 1761 = .ok (.iaload, 1) := fq1_46 (fl_27 (j := 33) rfl rfl)
theorem dL_law_1762 : decode cL_law 1762 = .ok (.invokevirtual 182, 3) := fq3_182 (fl_27 (j := 34) rfl rfl) (fl_27 (j := 35) rfl rfl) (fl_27 (j := 36) rfl rfl) rfl
theorem dL_law_1765 : decode cL_law 1765 = .ok (.pop, 1) := fq1_87 (fl_27 (j := 37) rfl rfl)
theorem dL_law_1766 : decode cL_law 1766 = .ok (.aload_n 2, 1) := fq1_44 (fl_27 (j := 38) rfl rfl)
theorem dL_law_1767 : decode cL_law 1767 = .ok (.aload_n 0, 1) := fq1_42 (fl_27 (j := 39) rfl rfl)
theorem dL_law_1768 : decode cL_law 1768 = .ok (.iload_n 3, 1) := fq1_29 (fl_27 (j := 40) rfl rfl)
theorem dL_law_1769 : decode cL_law 1769 = .ok (.iconst 1, 1) := fq1_4 (fl_27 (j := 41) rfl rfl)
theorem dL_law_1770 : decode cL_law 1770 = .ok (.iadd, 1) := fq1_96 (fl_27 (j := 42) rfl rfl)
theorem dL_law_1771 : decode cL_law 1771 = .ok (.iaload, 1) := fq1_46 (fl_27 (j := 43) rfl rfl)
theorem dL_law_1772 : decode cL_law 1772 = .ok (.aload_n 0, 1) := fq1_42 (fl_27 (j := 44) rfl rfl)
theorem dL_law_1773 : decode cL_law 1773 = .ok (.iload_n 3, 1) := fq1_29 (fl_27 (j := 45) rfl rfl)
theorem dL_law_1774 : decode cL_law 1774 = .ok (.iconst 2, 1) := fq1_5 (fl_27 (j := 46) rfl rfl)
theorem dL_law_1775 : decode cL_law 1775 = .ok (.iadd, 1) := fq1_96 (fl_27 (j := 47) rfl rfl)
theorem dL_law_1776 : decode cL_law 1776 = .ok (.iaload, 1) := fq1_46 (fl_27 (j := 48) rfl rfl)
theorem dL_law_1777 : decode cL_law 1777 = .ok (.invokevirtual 185, 3) := fq3_182 (fl_27 (j := 49) rfl rfl) (fl_27 (j := 50) rfl rfl) (fl_27 (j := 51) rfl rfl) rfl
theorem dL_law_1780 : decode cL_law 1780 = .ok (.pop, 1) := fq1_87 (fl_27 (j := 52) rfl rfl)
theorem dL_law_1781 : decode cL_law 1781 = .ok (.goto 1065, 3) := fq3_167 (fl_27 (j := 53) rfl rfl) (fl_27 (j := 54) rfl rfl) (fl_27 (j := 55) rfl rfl) (s2p rfl (bl rfl))
end

section
set_option maxHeartbeats 40000000 in
set_option maxRecDepth 100000 in
theorem law_c32 {p : Program} {e : Env} {s : State} {m : MethodId} {below : List Frame} {meth : Method} {c : Code} (l : Launch) {b L : Nat} {xs : Nat → Int32} {A : Nat → Prop} {D : va_G} {k : Nat → ClassId} {sa sv : Nat} {i : Int} (C : LFX p s m meth c b L xs A D k sa sv) (hi : 0 ≤ i ∧ i + 6 ≤ (L : Int)) (hk : LAT p l e s m below meth c b A D k 2846 i) : LAT p l e s m below meth c b A D k 1550 i := by
  obtain ⟨hx, hb, hr, hml, hown, hts, hKK, hX, hbl, hbA, hA, hAf, hlocks, hSY, hRR, hL⟩ := id C
  intro a IA LA FA QA VA IB LB FB QB VB IC LC FC QC VC ID LD FD QD VD IR LR FR QR VR r H locs ls hI hRT hP hD hS hl
  have hK := hKK.1
  obtain ⟨hP, hD⟩ : PD D A ((GA k a IA LA FA QA VA r) ++ ((GB k a IB LB FB QB VB r) ++ ((GC k a IC LC FC QC VC r) ++ ((GD k a ID LD FD QD VD r) ++ ((GR k a IR LR FR QR VR r) ++ (r.tl)))))) H := ⟨hP, hD⟩
  obtain ⟨hWI, hWI_0, hWI_1, hWI_2, hrd, htr0, htr1, htr2, htr3, hrgk, hrgt, hdrc, hev, hmk, hM, hMK, hTI, hFS, htd, hlt, rgH, rgS, rgY, hdr, hit, hmmk, heq, htq, hrel, hbf, htb, hkw, hSK, hSK0, hSK1, hSK2, hNE, hNE0, hNE1, hNE2, hLE, hYE, hQE, hLE0, hLE1, hLE2, hYE0, hYE1, hYE2⟩ := id hI
  obtain ⟨gw1, gw2, gw3, gw4, gw5, gw6, gw7, gw8, gw9, gw10, gw11⟩ := id hWI
  have hx0 := gw9
  have hYI := gw11
  have hpf : rgI (FR 3) (-128) 127 900 := fun e h1 h2 => by rw [← htb e h1 h2]; exact hbf e h1 h2
  obtain ⟨z1, hz1, hz1a, hz1b⟩ := i32_z (xs (iZ (i + 1)).toNatClampNeg)
  obtain ⟨z2, hz2, hz2a, hz2b⟩ := i32_z (xs (iZ (i + 2)).toNatClampNeg)
  obtain ⟨z3, hz3, hz3a, hz3b⟩ := i32_z (xs (iZ (i + 3)).toNatClampNeg)
  obtain ⟨z4, hz4, hz4a, hz4b⟩ := i32_z (xs (iZ (i + 4)).toNatClampNeg)
  obtain ⟨z5, hz5, hz5a, hz5b⟩ := i32_z (xs (iZ (i + 5)).toNatClampNeg)
  have hl : lv_has ls 4 [(3, .int (iZ i)), (2, .ref (a 106)), (1, .ref (a 0)), (0, .ref b)] := hl
  have hls := hQE.1
  replace hls : _ := hls
  refine lv_aload_n hx hb dL_law_1550 rfl (lv_at hl 2 rfl) ?_
  refine lv_aload_n hx hb dL_law_1551 rfl (lv_at hl 3 rfl) ?_
  refine lv_iload_n hx hb dL_law_1552 rfl (lv_at hl 0 rfl) ?_
  refine lv_iconst (v := iZ 1) hx hb dL_law_1553 rfl ?_
  refine lv_iadd hx hb dL_law_1554 ?_
  refine lv_topi (fun x_1 ex_1 => ?_)
  obtain rfl : x_1 = iZ (i + 1) := ex_1.trans (iZ_add i 1)
  refine va_sld hx hb hX hbl hbA hS (zi1 hi hL) dL_law_1555 ?_
  refine lv_topi (fun x_2 ex_2 => ?_)
  obtain rfl : x_2 = iZ z1 := ex_2.trans hz1
  refine lv_aload_n hx hb dL_law_1556 rfl (lv_at hl 3 rfl) ?_
  refine lv_iload_n hx hb dL_law_1557 rfl (lv_at hl 0 rfl) ?_
  refine lv_iconst (v := iZ 2) hx hb dL_law_1558 rfl ?_
  refine lv_iadd hx hb dL_law_1559 ?_
  refine lv_topi (fun x_3 ex_3 => ?_)
  obtain rfl : x_3 = iZ (i + 2) := ex_3.trans (iZ_add i 2)
  refine va_sld hx hb hX hbl hbA hS (zi2 hi hL) dL_law_1560 ?_
  refine lv_topi (fun x_4 ex_4 => ?_)
  obtain rfl : x_4 = iZ z2 := ex_4.trans hz2
  obtain ⟨hP, hD⟩ := PD.mid4 ⟨hP, hD⟩
  refine CXM (mid := (GB k a IB LB FB QB VB r) ++ ((GC k a IC LC FC QC VC r) ++ ((GD k a ID LD FD QD VD r) ++ ((GR k a IR LR FR QR VR r))))) (c0 := 123) (s0 := 16705) (r := r) (As := [.int (iZ z1), .int (iZ z2)]) (rest := []) hx hb hml hown hts hKK hP hD hS hA (p_latest l D k (a 0) (a 1) (a 2) (a 3) (a 4) (a 5) (a 6) (a 7) (a 8) (a 9) (a 10) (a 11) (IA 0) (IA 1) (IA 2) (LA 0) (LA 1) ([.ref (a 26), .ref (a 27), .ref (a 28), .int (iZ (IA 3)), .int (iZ (IA 4)), .int (iZ (IA 5)), .int (iZ (IA 6))]) (a 23) (a 27) (a 28) (a 24) (a 25) (IA 3) (IA 4) (IA 5) (FA 0) (FA 1) (a 101) (a 102) (a 103) (a 104) (FA 11) (FA 12) (FA 13) (FA 14) z1 z2 r hRT rfl rfl rfl rfl rfl (by first | with_reducible assumption | omega) hx0 (by first | with_reducible assumption | omega) (by first | with_reducible assumption | omega) (by first | with_reducible assumption | omega) hrgk hrgt ⟨hz1a, hz1b⟩ ⟨hz2a, hz2b⟩) ci_X11_latest qm_L_154 ⟨Nat.le_of_ble_eq_true rfl, Nat.le_of_ble_eq_true rfl⟩ ⟨Nat.le_of_ble_eq_true rfl, Nat.le_of_ble_eq_true rfl⟩ [0, 1, 18, 17, 19, 20, 21, 22, 2, 6, 7] [3, 4, 5, 8, 9, 10, 11, 12, 13, 14, 15, 16, 23, 24, 25] rfl rfl rfl (by decide +kernel) (by decide +kernel) (by decide +kernel) 0 rfl rfl rfl hl.1 rfl (Nat.le_of_ble_eq_true rfl) dL_law_1561 (fun u_5 H locs hφ hP hD hS => ?_)
  obtain ⟨r_6, v_7⟩ := u_5
  obtain ⟨p_8, p_9, rtr_6⟩ : (rgI v_7.2.2.1.1 (-1) 420 6) ∧ (rgI v_7.2.2.1.2.1 (-1) 5 6) ∧ ((RT k) (RX (FA 0) (FA 1) (IA 3) (IA 4)) r_6) := hφ
  obtain ⟨hP, hD⟩ := PD.dim4 ⟨hP, hD⟩
  obtain ⟨hP, hD⟩ := PD.by3 (is := [15, 16, 23, 0, 1, 2, 24, 25, 3, 4, 5, 6, 7, 8, 9, 10, 11, 18, 17, 19, 20, 21, 22, 12, 13, 14]) (y := (GA k a (u9 IA 2 v_7.1.2) LA (u9 (u9 (u9 (u9 FA 11 v_7.2.2.1.1) 12 v_7.2.2.1.2.1) 13 v_7.2.2.1.2.2.1) 14 v_7.2.2.1.2.2.2) QA VA r_6)) ⟨hP, hD⟩ (by decide +kernel) rfl rfl
  refine W.ceq (cells' := 123 + cz true r_6.b) (slots' := 16705 + sz true r_6.b) rfl rfl ?_
  refine W.eq (g2 := F0 m 1564 ls [.int (iZ v_7.1.1)]) rfl ?_
  refine lv_pop hx hb dL_law_1564 rfl ?_
  refine lv_aload_n hx hb dL_law_1565 rfl (lv_at hl 1 rfl) ?_
  refine lv_aload_n hx hb dL_law_1566 rfl (lv_at hl 3 rfl) ?_
  refine lv_iload_n hx hb dL_law_1567 rfl (lv_at hl 0 rfl) ?_
  refine lv_iconst (v := iZ 1) hx hb dL_law_1568 rfl ?_
  refine lv_iadd hx hb dL_law_1569 ?_
  refine lv_topi (fun x_10 ex_10 => ?_)
  obtain rfl : x_10 = iZ (i + 1) := ex_10.trans (iZ_add i 1)
  refine va_sld hx hb hX hbl hbA hS (zi1 hi hL) dL_law_1570 ?_
  refine lv_topi (fun x_11 ex_11 => ?_)
  obtain rfl : x_11 = iZ z1 := ex_11.trans hz1
  refine lv_aload_n hx hb dL_law_1571 rfl (lv_at hl 3 rfl) ?_
  refine lv_iload_n hx hb dL_law_1572 rfl (lv_at hl 0 rfl) ?_
  refine lv_iconst (v := iZ 2) hx hb dL_law_1573 rfl ?_
  refine lv_iadd hx hb dL_law_1574 ?_
  refine lv_topi (fun x_12 ex_12 => ?_)
  obtain rfl : x_12 = iZ (i + 2) := ex_12.trans (iZ_add i 2)
  refine va_sld hx hb hX hbl hbA hS (zi2 hi hL) dL_law_1575 ?_
  refine lv_topi (fun x_13 ex_13 => ?_)
  obtain rfl : x_13 = iZ z2 := ex_13.trans hz2
  obtain ⟨hP, hD⟩ := PD.fr5 ⟨hP, hD⟩
  refine CKV2 (As := [.int (iZ z1), .int (iZ z2)]) (rest := []) (tl := (GA k a (u9 IA 2 v_7.1.2) LA (u9 (u9 (u9 (u9 FA 11 v_7.2.2.1.1) 12 v_7.2.2.1.2.1) 13 v_7.2.2.1.2.2.1) 14 v_7.2.2.1.2.2.2) QA VA r_6) ++ ((GB k a IB LB FB QB VB r) ++ ((GC k a IC LC FC QC VC r) ++ ((GD k a ID LD FD QD VD r) ++ (r_6.tl))))) hx hb hml hown hts hKK hP hD hS hA (q_latest l D k (a 106) (a 107) (a 108) (a 109) (a 110) (a 111) (a 112) (a 113) (a 114) (a 115) (a 116) (a 117) (a 118) (a 119) (a 120) (a 121) (a 122) (IR 0) (IR 1) (IR 2) (IR 3) (IR 4) (IR 5) (IR 6) (IR 7) (IR 8) (IR 9) (IR 10) (IR 11) (IR 12) (IR 13) (IR 14) (IR 15) (IR 16) (IR 17) (LR 0) (LR 1) (FR 0) (FR 6) (FR 7) (FR 8) z1 z2 hM ⟨hz1a, hz1b⟩ ⟨hz2a, hz2b⟩) ci_X12_latest qm_L_157 ⟨Nat.le_of_ble_eq_true rfl, Nat.le_of_ble_eq_true rfl⟩ (lroom _) [0, 1, 9, 10, 11] [2, 3, 4, 5, 6, 7, 8, 12, 13, 14, 15, 16] rfl rfl rfl (by decide +kernel) (by decide +kernel) (by decide +kernel) 0 rfl rfl rfl hl.1 rfl (Nat.le_of_ble_eq_true rfl) dL_law_1576 (fun u_14 H locs hφ hP hD hS => ?_)
  obtain ⟨hP, hD⟩ := PD.by3 (is := [12, 13, 0, 1, 2, 3, 4, 5, 6, 14, 15, 16, 7, 8, 9, 10, 11]) (y := (GR k a (u9 IR 0 u_14.1.2) LR (u9 (u9 (u9 FR 6 u_14.2.2.1.1) 7 u_14.2.2.1.2.1) 8 u_14.2.2.1.2.2) QR VR r_6)) ⟨hP, hD⟩ (by decide +kernel) rfl rfl
  refine W.eq (g2 := F0 m 1579 ls [.int (iZ u_14.1.1)]) rfl ?_
  refine lv_pop hx hb dL_law_1579 rfl ?_
  refine lv_goto (tgt := 2846) hx hb dL_law_1580 rfl ?_
  obtain ⟨hP, hD⟩ := PD.fr5 ⟨hP, hD⟩
  obtain ⟨hP, hD⟩ := PD.fr5 ⟨hP, hD⟩
  obtain ⟨hP, hD⟩ := PD.fr5 ⟨hP, hD⟩
  obtain ⟨hP, hD⟩ := PD.fr5 ⟨hP, hD⟩
  exact hk a (u9 IA 2 v_7.1.2) LA (u9 (u9 (u9 (u9 FA 11 v_7.2.2.1.1) 12 v_7.2.2.1.2.1) 13 v_7.2.2.1.2.2.1) 14 v_7.2.2.1.2.2.2) QA VA IB LB FB QB VB IC LC FC QC VC ID LD FD QD VD (u9 IR 0 u_14.1.2) LR (u9 (u9 (u9 FR 6 u_14.2.2.1.1) 7 u_14.2.2.1.2.1) 8 u_14.2.2.1.2.2) QR VR r_6 H locs ls (show INV _ _ _ _ _ _ _ _ _ _ _ _ _ _ _ from ⟨hWI, hWI_0, hWI_1, hWI_2, hrd, htr0, htr1, htr2, htr3, (show rgI v_7.2.2.1.1 (-1) 420 6 from (by assumption)), (show rgI v_7.2.2.1.2.1 (-1) 5 6 from (by assumption)), hdrc, hev, hmk, hM, hMK, hTI, hFS, htd, hlt, rgH, rgS, rgY, hdr, hit, hmmk, heq, htq, hrel, hbf, htb, hkw, hSK, hSK0, hSK1, hSK2, hNE, hNE0, hNE1, hNE2, hLE, hYE, hQE, hLE0, hLE1, hLE2, hYE0, hYE1, hYE2⟩) rtr_6 hP hD hS (lv_sub hl [0, 1, 2, 3] rfl)
set_option maxHeartbeats 40000000 in
set_option maxRecDepth 100000 in
theorem law_c33 {p : Program} {e : Env} {s : State} {m : MethodId} {below : List Frame} {meth : Method} {c : Code} (l : Launch) {b L : Nat} {xs : Nat → Int32} {A : Nat → Prop} {D : va_G} {k : Nat → ClassId} {sa sv : Nat} {i : Int} (C : LFX p s m meth c b L xs A D k sa sv) (hi : 0 ≤ i ∧ i + 6 ≤ (L : Int)) (hk : LAT p l e s m below meth c b A D k 2846 i) : LAT p l e s m below meth c b A D k 1583 i := by
  obtain ⟨hx, hb, hr, hml, hown, hts, hKK, hX, hbl, hbA, hA, hAf, hlocks, hSY, hRR, hL⟩ := id C
  intro a IA LA FA QA VA IB LB FB QB VB IC LC FC QC VC ID LD FD QD VD IR LR FR QR VR r H locs ls hI hRT hP hD hS hl
  have hK := hKK.1
  obtain ⟨hP, hD⟩ : PD D A ((GA k a IA LA FA QA VA r) ++ ((GB k a IB LB FB QB VB r) ++ ((GC k a IC LC FC QC VC r) ++ ((GD k a ID LD FD QD VD r) ++ ((GR k a IR LR FR QR VR r) ++ (r.tl)))))) H := ⟨hP, hD⟩
  obtain ⟨hWI, hWI_0, hWI_1, hWI_2, hrd, htr0, htr1, htr2, htr3, hrgk, hrgt, hdrc, hev, hmk, hM, hMK, hTI, hFS, htd, hlt, rgH, rgS, rgY, hdr, hit, hmmk, heq, htq, hrel, hbf, htb, hkw, hSK, hSK0, hSK1, hSK2, hNE, hNE0, hNE1, hNE2, hLE, hYE, hQE, hLE0, hLE1, hLE2, hYE0, hYE1, hYE2⟩ := id hI
  obtain ⟨gw1, gw2, gw3, gw4, gw5, gw6, gw7, gw8, gw9, gw10, gw11⟩ := id hWI
  have hx0 := gw9
  have hYI := gw11
  have hpf : rgI (FR 3) (-128) 127 900 := fun e h1 h2 => by rw [← htb e h1 h2]; exact hbf e h1 h2
  obtain ⟨z1, hz1, hz1a, hz1b⟩ := i32_z (xs (iZ (i + 1)).toNatClampNeg)
  obtain ⟨z2, hz2, hz2a, hz2b⟩ := i32_z (xs (iZ (i + 2)).toNatClampNeg)
  obtain ⟨z3, hz3, hz3a, hz3b⟩ := i32_z (xs (iZ (i + 3)).toNatClampNeg)
  obtain ⟨z4, hz4, hz4a, hz4b⟩ := i32_z (xs (iZ (i + 4)).toNatClampNeg)
  obtain ⟨z5, hz5, hz5a, hz5b⟩ := i32_z (xs (iZ (i + 5)).toNatClampNeg)
  have hl : lv_has ls 4 [(3, .int (iZ i)), (2, .ref (a 106)), (1, .ref (a 0)), (0, .ref b)] := hl
  have hls := hQE.1
  replace hls : _ := hls
  refine lv_aload_n hx hb dL_law_1583 rfl (lv_at hl 2 rfl) ?_
  refine lv_aload_n hx hb dL_law_1584 rfl (lv_at hl 3 rfl) ?_
  refine lv_iload_n hx hb dL_law_1585 rfl (lv_at hl 0 rfl) ?_
  refine lv_iconst (v := iZ 1) hx hb dL_law_1586 rfl ?_
  refine lv_iadd hx hb dL_law_1587 ?_
  refine lv_topi (fun x_1 ex_1 => ?_)
  obtain rfl : x_1 = iZ (i + 1) := ex_1.trans (iZ_add i 1)
  refine va_sld hx hb hX hbl hbA hS (zi1 hi hL) dL_law_1588 ?_
  refine lv_topi (fun x_2 ex_2 => ?_)
  obtain rfl : x_2 = iZ z1 := ex_2.trans hz1
  obtain ⟨hP, hD⟩ := PD.mid4 ⟨hP, hD⟩
  refine CXM (mid := (GB k a IB LB FB QB VB r) ++ ((GC k a IC LC FC QC VC r) ++ ((GD k a ID LD FD QD VD r) ++ ((GR k a IR LR FR QR VR r))))) (c0 := 123) (s0 := 16705) (r := r) (As := [.int (iZ z1)]) (rest := []) hx hb hml hown hts hKK hP hD hS hA (p_centre l D k (a 0) (a 1) (a 2) (a 3) (a 4) (a 5) (a 6) (a 7) (a 8) (a 9) (a 10) (a 11) (IA 0) (IA 1) (IA 2) (LA 0) (LA 1) ([.ref (a 26), .ref (a 27), .ref (a 28), .int (iZ (IA 3)), .int (iZ (IA 4)), .int (iZ (IA 5)), .int (iZ (IA 6))]) (a 23) (a 27) (a 28) (a 24) (a 25) (IA 3) (IA 4) (IA 5) (FA 0) (FA 1) (a 101) (a 102) (a 103) (a 104) (FA 11) (FA 12) (FA 13) (FA 14) z1 r hRT rfl rfl rfl rfl rfl (by first | with_reducible assumption | omega) hx0 (by first | with_reducible assumption | omega) (by first | with_reducible assumption | omega) (by first | with_reducible assumption | omega) hrgk hrgt ⟨hz1a, hz1b⟩) ci_X11_centre qm_L_158 ⟨Nat.le_of_ble_eq_true rfl, Nat.le_of_ble_eq_true rfl⟩ ⟨Nat.le_of_ble_eq_true rfl, Nat.le_of_ble_eq_true rfl⟩ [0, 1, 18, 17, 19, 20, 21, 22, 2, 6, 7] [3, 4, 5, 8, 9, 10, 11, 12, 13, 14, 15, 16, 23, 24, 25] rfl rfl rfl (by decide +kernel) (by decide +kernel) (by decide +kernel) 0 rfl rfl rfl hl.1 rfl (Nat.le_of_ble_eq_true rfl) dL_law_1589 (fun u_3 H locs hφ hP hD hS => ?_)
  obtain ⟨r_4, v_5⟩ := u_3
  obtain ⟨p_6, p_7, rtr_4⟩ : (rgI v_5.2.2.1.1 (-1) 420 6) ∧ (rgI v_5.2.2.1.2.1 (-1) 5 6) ∧ ((RT k) (RX (FA 0) (FA 1) (IA 3) (IA 4)) r_4) := hφ
  obtain ⟨hP, hD⟩ := PD.dim4 ⟨hP, hD⟩
  obtain ⟨hP, hD⟩ := PD.by3 (is := [15, 16, 23, 0, 1, 2, 24, 25, 3, 4, 5, 6, 7, 8, 9, 10, 11, 18, 17, 19, 20, 21, 22, 12, 13, 14]) (y := (GA k a (u9 IA 2 v_5.1.2) LA (u9 (u9 (u9 (u9 FA 11 v_5.2.2.1.1) 12 v_5.2.2.1.2.1) 13 v_5.2.2.1.2.2.1) 14 v_5.2.2.1.2.2.2) QA VA r_4)) ⟨hP, hD⟩ (by decide +kernel) rfl rfl
  refine W.ceq (cells' := 123 + cz true r_4.b) (slots' := 16705 + sz true r_4.b) rfl rfl ?_
  refine W.eq (g2 := F0 m 1592 ls [.int (iZ v_5.1.1)]) rfl ?_
  refine lv_pop hx hb dL_law_1592 rfl ?_
  refine lv_aload_n hx hb dL_law_1593 rfl (lv_at hl 1 rfl) ?_
  refine lv_aload_n hx hb dL_law_1594 rfl (lv_at hl 3 rfl) ?_
  refine lv_iload_n hx hb dL_law_1595 rfl (lv_at hl 0 rfl) ?_
  refine lv_iconst (v := iZ 1) hx hb dL_law_1596 rfl ?_
  refine lv_iadd hx hb dL_law_1597 ?_
  refine lv_topi (fun x_8 ex_8 => ?_)
  obtain rfl : x_8 = iZ (i + 1) := ex_8.trans (iZ_add i 1)
  refine va_sld hx hb hX hbl hbA hS (zi1 hi hL) dL_law_1598 ?_
  refine lv_topi (fun x_9 ex_9 => ?_)
  obtain rfl : x_9 = iZ z1 := ex_9.trans hz1
  obtain ⟨hP, hD⟩ := PD.fr5 ⟨hP, hD⟩
  refine CKV2 (As := [.int (iZ z1)]) (rest := []) (tl := (GA k a (u9 IA 2 v_5.1.2) LA (u9 (u9 (u9 (u9 FA 11 v_5.2.2.1.1) 12 v_5.2.2.1.2.1) 13 v_5.2.2.1.2.2.1) 14 v_5.2.2.1.2.2.2) QA VA r_4) ++ ((GB k a IB LB FB QB VB r) ++ ((GC k a IC LC FC QC VC r) ++ ((GD k a ID LD FD QD VD r) ++ (r_4.tl))))) hx hb hml hown hts hKK hP hD hS hA (q_centre l D k (a 106) (a 107) (a 108) (a 109) (a 110) (a 111) (a 112) (a 113) (a 114) (a 115) (a 116) (a 117) (a 118) (a 119) (a 120) (a 121) (a 122) (IR 0) (IR 1) (IR 2) (IR 3) (IR 4) (IR 5) (IR 6) (IR 7) (IR 8) (IR 9) (IR 10) (IR 11) (IR 12) (IR 13) (IR 14) (IR 15) (IR 16) (IR 17) (LR 0) (LR 1) (FR 0) (FR 6) (FR 7) (FR 8) z1 hM ⟨hz1a, hz1b⟩) ci_X12_centre qm_L_161 ⟨Nat.le_of_ble_eq_true rfl, Nat.le_of_ble_eq_true rfl⟩ (lroom _) [0, 1, 9, 10, 11] [2, 3, 4, 5, 6, 7, 8, 12, 13, 14, 15, 16] rfl rfl rfl (by decide +kernel) (by decide +kernel) (by decide +kernel) 0 rfl rfl rfl hl.1 rfl (Nat.le_of_ble_eq_true rfl) dL_law_1599 (fun u_10 H locs hφ hP hD hS => ?_)
  obtain ⟨hP, hD⟩ := PD.by3 (is := [12, 13, 0, 1, 2, 3, 4, 5, 6, 14, 15, 16, 7, 8, 9, 10, 11]) (y := (GR k a (u9 IR 0 u_10.1.2) LR (u9 (u9 (u9 FR 6 u_10.2.2.1.1) 7 u_10.2.2.1.2.1) 8 u_10.2.2.1.2.2) QR VR r_4)) ⟨hP, hD⟩ (by decide +kernel) rfl rfl
  refine W.eq (g2 := F0 m 1602 ls [.int (iZ u_10.1.1)]) rfl ?_
  refine lv_pop hx hb dL_law_1602 rfl ?_
  refine lv_goto (tgt := 2846) hx hb dL_law_1603 rfl ?_
  obtain ⟨hP, hD⟩ := PD.fr5 ⟨hP, hD⟩
  obtain ⟨hP, hD⟩ := PD.fr5 ⟨hP, hD⟩
  obtain ⟨hP, hD⟩ := PD.fr5 ⟨hP, hD⟩
  obtain ⟨hP, hD⟩ := PD.fr5 ⟨hP, hD⟩
  exact hk a (u9 IA 2 v_5.1.2) LA (u9 (u9 (u9 (u9 FA 11 v_5.2.2.1.1) 12 v_5.2.2.1.2.1) 13 v_5.2.2.1.2.2.1) 14 v_5.2.2.1.2.2.2) QA VA IB LB FB QB VB IC LC FC QC VC ID LD FD QD VD (u9 IR 0 u_10.1.2) LR (u9 (u9 (u9 FR 6 u_10.2.2.1.1) 7 u_10.2.2.1.2.1) 8 u_10.2.2.1.2.2) QR VR r_4 H locs ls (show INV _ _ _ _ _ _ _ _ _ _ _ _ _ _ _ from ⟨hWI, hWI_0, hWI_1, hWI_2, hrd, htr0, htr1, htr2, htr3, (show rgI v_5.2.2.1.1 (-1) 420 6 from (by assumption)), (show rgI v_5.2.2.1.2.1 (-1) 5 6 from (by assumption)), hdrc, hev, hmk, hM, hMK, hTI, hFS, htd, hlt, rgH, rgS, rgY, hdr, hit, hmmk, heq, htq, hrel, hbf, htb, hkw, hSK, hSK0, hSK1, hSK2, hNE, hNE0, hNE1, hNE2, hLE, hYE, hQE, hLE0, hLE1, hLE2, hYE0, hYE1, hYE2⟩) rtr_4 hP hD hS (lv_sub hl [0, 1, 2, 3] rfl)
set_option maxHeartbeats 40000000 in
set_option maxRecDepth 100000 in
theorem law_c34 {p : Program} {e : Env} {s : State} {m : MethodId} {below : List Frame} {meth : Method} {c : Code} (l : Launch) {b L : Nat} {xs : Nat → Int32} {A : Nat → Prop} {D : va_G} {k : Nat → ClassId} {sa sv : Nat} {i : Int} (C : LFX p s m meth c b L xs A D k sa sv) (hi : 0 ≤ i ∧ i + 6 ≤ (L : Int)) (hk : LAT p l e s m below meth c b A D k 2846 i) : LAT p l e s m below meth c b A D k 1606 i := by
  obtain ⟨hx, hb, hr, hml, hown, hts, hKK, hX, hbl, hbA, hA, hAf, hlocks, hSY, hRR, hL⟩ := id C
  intro a IA LA FA QA VA IB LB FB QB VB IC LC FC QC VC ID LD FD QD VD IR LR FR QR VR r H locs ls hI hRT hP hD hS hl
  have hK := hKK.1
  obtain ⟨hP, hD⟩ : PD D A ((GA k a IA LA FA QA VA r) ++ ((GB k a IB LB FB QB VB r) ++ ((GC k a IC LC FC QC VC r) ++ ((GD k a ID LD FD QD VD r) ++ ((GR k a IR LR FR QR VR r) ++ (r.tl)))))) H := ⟨hP, hD⟩
  obtain ⟨hWI, hWI_0, hWI_1, hWI_2, hrd, htr0, htr1, htr2, htr3, hrgk, hrgt, hdrc, hev, hmk, hM, hMK, hTI, hFS, htd, hlt, rgH, rgS, rgY, hdr, hit, hmmk, heq, htq, hrel, hbf, htb, hkw, hSK, hSK0, hSK1, hSK2, hNE, hNE0, hNE1, hNE2, hLE, hYE, hQE, hLE0, hLE1, hLE2, hYE0, hYE1, hYE2⟩ := id hI
  obtain ⟨gw1, gw2, gw3, gw4, gw5, gw6, gw7, gw8, gw9, gw10, gw11⟩ := id hWI
  have hx0 := gw9
  have hYI := gw11
  have hpf : rgI (FR 3) (-128) 127 900 := fun e h1 h2 => by rw [← htb e h1 h2]; exact hbf e h1 h2
  obtain ⟨z1, hz1, hz1a, hz1b⟩ := i32_z (xs (iZ (i + 1)).toNatClampNeg)
  obtain ⟨z2, hz2, hz2a, hz2b⟩ := i32_z (xs (iZ (i + 2)).toNatClampNeg)
  obtain ⟨z3, hz3, hz3a, hz3b⟩ := i32_z (xs (iZ (i + 3)).toNatClampNeg)
  obtain ⟨z4, hz4, hz4a, hz4b⟩ := i32_z (xs (iZ (i + 4)).toNatClampNeg)
  obtain ⟨z5, hz5, hz5a, hz5b⟩ := i32_z (xs (iZ (i + 5)).toNatClampNeg)
  have hl : lv_has ls 4 [(3, .int (iZ i)), (2, .ref (a 106)), (1, .ref (a 0)), (0, .ref b)] := hl
  have hls := hQE.1
  replace hls : _ := hls
  refine lv_aload_n hx hb dL_law_1606 rfl (lv_at hl 2 rfl) ?_
  refine lv_aload_n hx hb dL_law_1607 rfl (lv_at hl 3 rfl) ?_
  refine lv_iload_n hx hb dL_law_1608 rfl (lv_at hl 0 rfl) ?_
  refine lv_iconst (v := iZ 1) hx hb dL_law_1609 rfl ?_
  refine lv_iadd hx hb dL_law_1610 ?_
  refine lv_topi (fun x_1 ex_1 => ?_)
  obtain rfl : x_1 = iZ (i + 1) := ex_1.trans (iZ_add i 1)
  refine va_sld hx hb hX hbl hbA hS (zi1 hi hL) dL_law_1611 ?_
  refine lv_topi (fun x_2 ex_2 => ?_)
  obtain rfl : x_2 = iZ z1 := ex_2.trans hz1
  refine lv_aload_n hx hb dL_law_1612 rfl (lv_at hl 3 rfl) ?_
  refine lv_iload_n hx hb dL_law_1613 rfl (lv_at hl 0 rfl) ?_
  refine lv_iconst (v := iZ 2) hx hb dL_law_1614 rfl ?_
  refine lv_iadd hx hb dL_law_1615 ?_
  refine lv_topi (fun x_3 ex_3 => ?_)
  obtain rfl : x_3 = iZ (i + 2) := ex_3.trans (iZ_add i 2)
  refine va_sld hx hb hX hbl hbA hS (zi2 hi hL) dL_law_1616 ?_
  refine lv_topi (fun x_4 ex_4 => ?_)
  obtain rfl : x_4 = iZ z2 := ex_4.trans hz2
  obtain ⟨hP, hD⟩ := PD.mid4 ⟨hP, hD⟩
  refine CXM (mid := (GB k a IB LB FB QB VB r) ++ ((GC k a IC LC FC QC VC r) ++ ((GD k a ID LD FD QD VD r) ++ ((GR k a IR LR FR QR VR r))))) (c0 := 123) (s0 := 16705) (r := r) (As := [.int (iZ z1), .int (iZ z2)]) (rest := []) hx hb hml hown hts hKK hP hD hS hA (p_cutOff l D k (a 0) (a 1) (a 2) (a 3) (a 4) (a 5) (a 6) (a 7) (a 8) (a 9) (a 10) (a 11) (IA 0) (IA 1) (IA 2) (LA 0) (LA 1) ([.ref (a 26), .ref (a 27), .ref (a 28), .int (iZ (IA 3)), .int (iZ (IA 4)), .int (iZ (IA 5)), .int (iZ (IA 6))]) (a 23) (a 27) (a 28) (a 24) (a 25) (IA 3) (IA 4) (IA 5) (FA 0) (FA 1) (a 101) (a 102) (a 103) (a 104) (FA 11) (FA 12) (FA 13) (FA 14) z1 z2 r hRT rfl rfl rfl rfl rfl (by first | with_reducible assumption | omega) hx0 (by first | with_reducible assumption | omega) (by first | with_reducible assumption | omega) (by first | with_reducible assumption | omega) hrgk hrgt ⟨hz1a, hz1b⟩ ⟨hz2a, hz2b⟩) ci_X11_cutOff qm_L_162 ⟨Nat.le_of_ble_eq_true rfl, Nat.le_of_ble_eq_true rfl⟩ ⟨Nat.le_of_ble_eq_true rfl, Nat.le_of_ble_eq_true rfl⟩ [0, 1, 18, 17, 19, 20, 21, 22, 2, 6, 7] [3, 4, 5, 8, 9, 10, 11, 12, 13, 14, 15, 16, 23, 24, 25] rfl rfl rfl (by decide +kernel) (by decide +kernel) (by decide +kernel) 0 rfl rfl rfl hl.1 rfl (Nat.le_of_ble_eq_true rfl) dL_law_1617 (fun u_5 H locs hφ hP hD hS => ?_)
  obtain ⟨r_6, v_7⟩ := u_5
  obtain ⟨p_8, p_9, rtr_6⟩ : (rgI v_7.2.2.1.1 (-1) 420 6) ∧ (rgI v_7.2.2.1.2.1 (-1) 5 6) ∧ ((RT k) (RX (FA 0) (FA 1) (IA 3) (IA 4)) r_6) := hφ
  obtain ⟨hP, hD⟩ := PD.dim4 ⟨hP, hD⟩
  obtain ⟨hP, hD⟩ := PD.by3 (is := [15, 16, 23, 0, 1, 2, 24, 25, 3, 4, 5, 6, 7, 8, 9, 10, 11, 18, 17, 19, 20, 21, 22, 12, 13, 14]) (y := (GA k a (u9 IA 2 v_7.1.2) LA (u9 (u9 (u9 (u9 FA 11 v_7.2.2.1.1) 12 v_7.2.2.1.2.1) 13 v_7.2.2.1.2.2.1) 14 v_7.2.2.1.2.2.2) QA VA r_6)) ⟨hP, hD⟩ (by decide +kernel) rfl rfl
  refine W.ceq (cells' := 123 + cz true r_6.b) (slots' := 16705 + sz true r_6.b) rfl rfl ?_
  refine W.eq (g2 := F0 m 1620 ls [.int (iZ v_7.1.1)]) rfl ?_
  refine lv_pop hx hb dL_law_1620 rfl ?_
  refine lv_aload_n hx hb dL_law_1621 rfl (lv_at hl 1 rfl) ?_
  refine lv_aload_n hx hb dL_law_1622 rfl (lv_at hl 3 rfl) ?_
  refine lv_iload_n hx hb dL_law_1623 rfl (lv_at hl 0 rfl) ?_
  refine lv_iconst (v := iZ 1) hx hb dL_law_1624 rfl ?_
  refine lv_iadd hx hb dL_law_1625 ?_
  refine lv_topi (fun x_10 ex_10 => ?_)
  obtain rfl : x_10 = iZ (i + 1) := ex_10.trans (iZ_add i 1)
  refine va_sld hx hb hX hbl hbA hS (zi1 hi hL) dL_law_1626 ?_
  refine lv_topi (fun x_11 ex_11 => ?_)
  obtain rfl : x_11 = iZ z1 := ex_11.trans hz1
  refine lv_aload_n hx hb dL_law_1627 rfl (lv_at hl 3 rfl) ?_
  refine lv_iload_n hx hb dL_law_1628 rfl (lv_at hl 0 rfl) ?_
  refine lv_iconst (v := iZ 2) hx hb dL_law_1629 rfl ?_
  refine lv_iadd hx hb dL_law_1630 ?_
  refine lv_topi (fun x_12 ex_12 => ?_)
  obtain rfl : x_12 = iZ (i + 2) := ex_12.trans (iZ_add i 2)
  refine va_sld hx hb hX hbl hbA hS (zi2 hi hL) dL_law_1631 ?_
  refine lv_topi (fun x_13 ex_13 => ?_)
  obtain rfl : x_13 = iZ z2 := ex_13.trans hz2
  obtain ⟨hP, hD⟩ := PD.fr5 ⟨hP, hD⟩
  refine CKV2 (As := [.int (iZ z1), .int (iZ z2)]) (rest := []) (tl := (GA k a (u9 IA 2 v_7.1.2) LA (u9 (u9 (u9 (u9 FA 11 v_7.2.2.1.1) 12 v_7.2.2.1.2.1) 13 v_7.2.2.1.2.2.1) 14 v_7.2.2.1.2.2.2) QA VA r_6) ++ ((GB k a IB LB FB QB VB r) ++ ((GC k a IC LC FC QC VC r) ++ ((GD k a ID LD FD QD VD r) ++ (r_6.tl))))) hx hb hml hown hts hKK hP hD hS hA (q_cutOff l D k (a 106) (a 107) (a 108) (a 109) (a 110) (a 111) (a 112) (a 113) (a 114) (a 115) (a 116) (a 117) (a 118) (a 119) (a 120) (a 121) (a 122) (IR 0) (IR 1) (IR 2) (IR 3) (IR 4) (IR 5) (IR 6) (IR 7) (IR 8) (IR 9) (IR 10) (IR 11) (IR 12) (IR 13) (IR 14) (IR 15) (IR 16) (IR 17) (LR 0) (LR 1) (FR 0) (FR 6) (FR 7) (FR 8) z1 z2 hM ⟨hz1a, hz1b⟩ ⟨hz2a, hz2b⟩) ci_X12_cutOff qm_L_165 ⟨Nat.le_of_ble_eq_true rfl, Nat.le_of_ble_eq_true rfl⟩ (lroom _) [0, 1, 9, 10, 11] [2, 3, 4, 5, 6, 7, 8, 12, 13, 14, 15, 16] rfl rfl rfl (by decide +kernel) (by decide +kernel) (by decide +kernel) 0 rfl rfl rfl hl.1 rfl (Nat.le_of_ble_eq_true rfl) dL_law_1632 (fun u_14 H locs hφ hP hD hS => ?_)
  obtain ⟨hP, hD⟩ := PD.by3 (is := [12, 13, 0, 1, 2, 3, 4, 5, 6, 14, 15, 16, 7, 8, 9, 10, 11]) (y := (GR k a (u9 IR 0 u_14.1.2) LR (u9 (u9 (u9 FR 6 u_14.2.2.1.1) 7 u_14.2.2.1.2.1) 8 u_14.2.2.1.2.2) QR VR r_6)) ⟨hP, hD⟩ (by decide +kernel) rfl rfl
  refine W.eq (g2 := F0 m 1635 ls [.int (iZ u_14.1.1)]) rfl ?_
  refine lv_pop hx hb dL_law_1635 rfl ?_
  refine lv_goto (tgt := 2846) hx hb dL_law_1636 rfl ?_
  obtain ⟨hP, hD⟩ := PD.fr5 ⟨hP, hD⟩
  obtain ⟨hP, hD⟩ := PD.fr5 ⟨hP, hD⟩
  obtain ⟨hP, hD⟩ := PD.fr5 ⟨hP, hD⟩
  obtain ⟨hP, hD⟩ := PD.fr5 ⟨hP, hD⟩
  exact hk a (u9 IA 2 v_7.1.2) LA (u9 (u9 (u9 (u9 FA 11 v_7.2.2.1.1) 12 v_7.2.2.1.2.1) 13 v_7.2.2.1.2.2.1) 14 v_7.2.2.1.2.2.2) QA VA IB LB FB QB VB IC LC FC QC VC ID LD FD QD VD (u9 IR 0 u_14.1.2) LR (u9 (u9 (u9 FR 6 u_14.2.2.1.1) 7 u_14.2.2.1.2.1) 8 u_14.2.2.1.2.2) QR VR r_6 H locs ls (show INV _ _ _ _ _ _ _ _ _ _ _ _ _ _ _ from ⟨hWI, hWI_0, hWI_1, hWI_2, hrd, htr0, htr1, htr2, htr3, (show rgI v_7.2.2.1.1 (-1) 420 6 from (by assumption)), (show rgI v_7.2.2.1.2.1 (-1) 5 6 from (by assumption)), hdrc, hev, hmk, hM, hMK, hTI, hFS, htd, hlt, rgH, rgS, rgY, hdr, hit, hmmk, heq, htq, hrel, hbf, htb, hkw, hSK, hSK0, hSK1, hSK2, hNE, hNE0, hNE1, hNE2, hLE, hYE, hQE, hLE0, hLE1, hLE2, hYE0, hYE1, hYE2⟩) rtr_6 hP hD hS (lv_sub hl [0, 1, 2, 3] rfl)
set_option maxHeartbeats 40000000 in
set_option maxRecDepth 100000 in
theorem law_c35 {p : Program} {e : Env} {s : State} {m : MethodId} {below : List Frame} {meth : Method} {c : Code} (l : Launch) {b L : Nat} {xs : Nat → Int32} {A : Nat → Prop} {D : va_G} {k : Nat → ClassId} {sa sv : Nat} {i : Int} (C : LFX p s m meth c b L xs A D k sa sv) (hi : 0 ≤ i ∧ i + 6 ≤ (L : Int)) (hk : LAT p l e s m below meth c b A D k 2846 i) : LAT p l e s m below meth c b A D k 1639 i := by
  obtain ⟨hx, hb, hr, hml, hown, hts, hKK, hX, hbl, hbA, hA, hAf, hlocks, hSY, hRR, hL⟩ := id C
  intro a IA LA FA QA VA IB LB FB QB VB IC LC FC QC VC ID LD FD QD VD IR LR FR QR VR r H locs ls hI hRT hP hD hS hl
  have hK := hKK.1
  obtain ⟨hP, hD⟩ : PD D A ((GA k a IA LA FA QA VA r) ++ ((GB k a IB LB FB QB VB r) ++ ((GC k a IC LC FC QC VC r) ++ ((GD k a ID LD FD QD VD r) ++ ((GR k a IR LR FR QR VR r) ++ (r.tl)))))) H := ⟨hP, hD⟩
  obtain ⟨hWI, hWI_0, hWI_1, hWI_2, hrd, htr0, htr1, htr2, htr3, hrgk, hrgt, hdrc, hev, hmk, hM, hMK, hTI, hFS, htd, hlt, rgH, rgS, rgY, hdr, hit, hmmk, heq, htq, hrel, hbf, htb, hkw, hSK, hSK0, hSK1, hSK2, hNE, hNE0, hNE1, hNE2, hLE, hYE, hQE, hLE0, hLE1, hLE2, hYE0, hYE1, hYE2⟩ := id hI
  obtain ⟨gw1, gw2, gw3, gw4, gw5, gw6, gw7, gw8, gw9, gw10, gw11⟩ := id hWI
  have hx0 := gw9
  have hYI := gw11
  have hpf : rgI (FR 3) (-128) 127 900 := fun e h1 h2 => by rw [← htb e h1 h2]; exact hbf e h1 h2
  obtain ⟨z1, hz1, hz1a, hz1b⟩ := i32_z (xs (iZ (i + 1)).toNatClampNeg)
  obtain ⟨z2, hz2, hz2a, hz2b⟩ := i32_z (xs (iZ (i + 2)).toNatClampNeg)
  obtain ⟨z3, hz3, hz3a, hz3b⟩ := i32_z (xs (iZ (i + 3)).toNatClampNeg)
  obtain ⟨z4, hz4, hz4a, hz4b⟩ := i32_z (xs (iZ (i + 4)).toNatClampNeg)
  obtain ⟨z5, hz5, hz5a, hz5b⟩ := i32_z (xs (iZ (i + 5)).toNatClampNeg)
  have hl : lv_has ls 4 [(3, .int (iZ i)), (2, .ref (a 106)), (1, .ref (a 0)), (0, .ref b)] := hl
  have hls := hQE.1
  replace hls : _ := hls
  refine lv_aload_n hx hb dL_law_1639 rfl (lv_at hl 2 rfl) ?_
  refine lv_aload_n hx hb dL_law_1640 rfl (lv_at hl 3 rfl) ?_
  refine lv_iload_n hx hb dL_law_1641 rfl (lv_at hl 0 rfl) ?_
  refine lv_iconst (v := iZ 1) hx hb dL_law_1642 rfl ?_
  refine lv_iadd hx hb dL_law_1643 ?_
  refine lv_topi (fun x_1 ex_1 => ?_)
  obtain rfl : x_1 = iZ (i + 1) := ex_1.trans (iZ_add i 1)
  refine va_sld hx hb hX hbl hbA hS (zi1 hi hL) dL_law_1644 ?_
  refine lv_topi (fun x_2 ex_2 => ?_)
  obtain rfl : x_2 = iZ z1 := ex_2.trans hz1
  refine lv_aload_n hx hb dL_law_1645 rfl (lv_at hl 3 rfl) ?_
  refine lv_iload_n hx hb dL_law_1646 rfl (lv_at hl 0 rfl) ?_
  refine lv_iconst (v := iZ 2) hx hb dL_law_1647 rfl ?_
  refine lv_iadd hx hb dL_law_1648 ?_
  refine lv_topi (fun x_3 ex_3 => ?_)
  obtain rfl : x_3 = iZ (i + 2) := ex_3.trans (iZ_add i 2)
  refine va_sld hx hb hX hbl hbA hS (zi2 hi hL) dL_law_1649 ?_
  refine lv_topi (fun x_4 ex_4 => ?_)
  obtain rfl : x_4 = iZ z2 := ex_4.trans hz2
  obtain ⟨hP, hD⟩ := PD.mid4 ⟨hP, hD⟩
  refine CXM (mid := (GB k a IB LB FB QB VB r) ++ ((GC k a IC LC FC QC VC r) ++ ((GD k a ID LD FD QD VD r) ++ ((GR k a IR LR FR QR VR r))))) (c0 := 123) (s0 := 16705) (r := r) (As := [.int (iZ z1), .int (iZ z2)]) (rest := []) hx hb hml hown hts hKK hP hD hS hA (p_hearsBack l D k (a 0) (a 1) (a 2) (a 3) (a 4) (a 5) (a 6) (a 7) (a 8) (a 9) (a 10) (a 11) (IA 0) (IA 1) (IA 2) (LA 0) (LA 1) ([.ref (a 26), .ref (a 27), .ref (a 28), .int (iZ (IA 3)), .int (iZ (IA 4)), .int (iZ (IA 5)), .int (iZ (IA 6))]) (a 23) (a 27) (a 28) (a 24) (a 25) (IA 3) (IA 4) (IA 5) (FA 0) (FA 1) (a 101) (a 102) (a 103) (a 104) (FA 11) (FA 12) (FA 13) (FA 14) z1 z2 r hRT rfl rfl rfl rfl rfl (by first | with_reducible assumption | omega) hx0 (by first | with_reducible assumption | omega) (by first | with_reducible assumption | omega) (by first | with_reducible assumption | omega) hrgk hrgt ⟨hz1a, hz1b⟩ ⟨hz2a, hz2b⟩) ci_X11_hearsBack qm_L_166 ⟨Nat.le_of_ble_eq_true rfl, Nat.le_of_ble_eq_true rfl⟩ ⟨Nat.le_of_ble_eq_true rfl, Nat.le_of_ble_eq_true rfl⟩ [0, 1, 18, 17, 19, 20, 21, 22, 2, 6, 7] [3, 4, 5, 8, 9, 10, 11, 12, 13, 14, 15, 16, 23, 24, 25] rfl rfl rfl (by decide +kernel) (by decide +kernel) (by decide +kernel) 0 rfl rfl rfl hl.1 rfl (Nat.le_of_ble_eq_true rfl) dL_law_1650 (fun u_5 H locs hφ hP hD hS => ?_)
  obtain ⟨r_6, v_7⟩ := u_5
  obtain ⟨p_8, p_9, rtr_6⟩ : (rgI v_7.2.2.1.1 (-1) 420 6) ∧ (rgI v_7.2.2.1.2.1 (-1) 5 6) ∧ ((RT k) (RX (FA 0) (FA 1) (IA 3) (IA 4)) r_6) := hφ
  obtain ⟨hP, hD⟩ := PD.dim4 ⟨hP, hD⟩
  obtain ⟨hP, hD⟩ := PD.by3 (is := [15, 16, 23, 0, 1, 2, 24, 25, 3, 4, 5, 6, 7, 8, 9, 10, 11, 18, 17, 19, 20, 21, 22, 12, 13, 14]) (y := (GA k a (u9 IA 2 v_7.1.2) LA (u9 (u9 (u9 (u9 FA 11 v_7.2.2.1.1) 12 v_7.2.2.1.2.1) 13 v_7.2.2.1.2.2.1) 14 v_7.2.2.1.2.2.2) QA VA r_6)) ⟨hP, hD⟩ (by decide +kernel) rfl rfl
  refine W.ceq (cells' := 123 + cz true r_6.b) (slots' := 16705 + sz true r_6.b) rfl rfl ?_
  refine W.eq (g2 := F0 m 1653 ls [.int (iZ v_7.1.1)]) rfl ?_
  refine lv_pop hx hb dL_law_1653 rfl ?_
  refine lv_aload_n hx hb dL_law_1654 rfl (lv_at hl 1 rfl) ?_
  refine lv_aload_n hx hb dL_law_1655 rfl (lv_at hl 3 rfl) ?_
  refine lv_iload_n hx hb dL_law_1656 rfl (lv_at hl 0 rfl) ?_
  refine lv_iconst (v := iZ 1) hx hb dL_law_1657 rfl ?_
  refine lv_iadd hx hb dL_law_1658 ?_
  refine lv_topi (fun x_10 ex_10 => ?_)
  obtain rfl : x_10 = iZ (i + 1) := ex_10.trans (iZ_add i 1)
  refine va_sld hx hb hX hbl hbA hS (zi1 hi hL) dL_law_1659 ?_
  refine lv_topi (fun x_11 ex_11 => ?_)
  obtain rfl : x_11 = iZ z1 := ex_11.trans hz1
  refine lv_aload_n hx hb dL_law_1660 rfl (lv_at hl 3 rfl) ?_
  refine lv_iload_n hx hb dL_law_1661 rfl (lv_at hl 0 rfl) ?_
  refine lv_iconst (v := iZ 2) hx hb dL_law_1662 rfl ?_
  refine lv_iadd hx hb dL_law_1663 ?_
  refine lv_topi (fun x_12 ex_12 => ?_)
  obtain rfl : x_12 = iZ (i + 2) := ex_12.trans (iZ_add i 2)
  refine va_sld hx hb hX hbl hbA hS (zi2 hi hL) dL_law_1664 ?_
  refine lv_topi (fun x_13 ex_13 => ?_)
  obtain rfl : x_13 = iZ z2 := ex_13.trans hz2
  obtain ⟨hP, hD⟩ := PD.fr5 ⟨hP, hD⟩
  refine CKV2 (As := [.int (iZ z1), .int (iZ z2)]) (rest := []) (tl := (GA k a (u9 IA 2 v_7.1.2) LA (u9 (u9 (u9 (u9 FA 11 v_7.2.2.1.1) 12 v_7.2.2.1.2.1) 13 v_7.2.2.1.2.2.1) 14 v_7.2.2.1.2.2.2) QA VA r_6) ++ ((GB k a IB LB FB QB VB r) ++ ((GC k a IC LC FC QC VC r) ++ ((GD k a ID LD FD QD VD r) ++ (r_6.tl))))) hx hb hml hown hts hKK hP hD hS hA (q_hearsBack l D k (a 106) (a 107) (a 108) (a 109) (a 110) (a 111) (a 112) (a 113) (a 114) (a 115) (a 116) (a 117) (a 118) (a 119) (a 120) (a 121) (a 122) (IR 0) (IR 1) (IR 2) (IR 3) (IR 4) (IR 5) (IR 6) (IR 7) (IR 8) (IR 9) (IR 10) (IR 11) (IR 12) (IR 13) (IR 14) (IR 15) (IR 16) (IR 17) (LR 0) (LR 1) (FR 0) (FR 6) (FR 7) (FR 8) z1 z2 hM ⟨hz1a, hz1b⟩ ⟨hz2a, hz2b⟩) ci_X12_hearsBack qm_L_169 ⟨Nat.le_of_ble_eq_true rfl, Nat.le_of_ble_eq_true rfl⟩ (lroom _) [0, 1, 9, 10, 11] [2, 3, 4, 5, 6, 7, 8, 12, 13, 14, 15, 16] rfl rfl rfl (by decide +kernel) (by decide +kernel) (by decide +kernel) 0 rfl rfl rfl hl.1 rfl (Nat.le_of_ble_eq_true rfl) dL_law_1665 (fun u_14 H locs hφ hP hD hS => ?_)
  obtain ⟨hP, hD⟩ := PD.by3 (is := [12, 13, 0, 1, 2, 3, 4, 5, 6, 14, 15, 16, 7, 8, 9, 10, 11]) (y := (GR k a (u9 IR 0 u_14.1.2) LR (u9 (u9 (u9 FR 6 u_14.2.2.1.1) 7 u_14.2.2.1.2.1) 8 u_14.2.2.1.2.2) QR VR r_6)) ⟨hP, hD⟩ (by decide +kernel) rfl rfl
  refine W.eq (g2 := F0 m 1668 ls [.int (iZ u_14.1.1)]) rfl ?_
  refine lv_pop hx hb dL_law_1668 rfl ?_
  refine lv_goto (tgt := 2846) hx hb dL_law_1669 rfl ?_
  obtain ⟨hP, hD⟩ := PD.fr5 ⟨hP, hD⟩
  obtain ⟨hP, hD⟩ := PD.fr5 ⟨hP, hD⟩
  obtain ⟨hP, hD⟩ := PD.fr5 ⟨hP, hD⟩
  obtain ⟨hP, hD⟩ := PD.fr5 ⟨hP, hD⟩
  exact hk a (u9 IA 2 v_7.1.2) LA (u9 (u9 (u9 (u9 FA 11 v_7.2.2.1.1) 12 v_7.2.2.1.2.1) 13 v_7.2.2.1.2.2.1) 14 v_7.2.2.1.2.2.2) QA VA IB LB FB QB VB IC LC FC QC VC ID LD FD QD VD (u9 IR 0 u_14.1.2) LR (u9 (u9 (u9 FR 6 u_14.2.2.1.1) 7 u_14.2.2.1.2.1) 8 u_14.2.2.1.2.2) QR VR r_6 H locs ls (show INV _ _ _ _ _ _ _ _ _ _ _ _ _ _ _ from ⟨hWI, hWI_0, hWI_1, hWI_2, hrd, htr0, htr1, htr2, htr3, (show rgI v_7.2.2.1.1 (-1) 420 6 from (by assumption)), (show rgI v_7.2.2.1.2.1 (-1) 5 6 from (by assumption)), hdrc, hev, hmk, hM, hMK, hTI, hFS, htd, hlt, rgH, rgS, rgY, hdr, hit, hmmk, heq, htq, hrel, hbf, htb, hkw, hSK, hSK0, hSK1, hSK2, hNE, hNE0, hNE1, hNE2, hLE, hYE, hQE, hLE0, hLE1, hLE2, hYE0, hYE1, hYE2⟩) rtr_6 hP hD hS (lv_sub hl [0, 1, 2, 3] rfl)
set_option maxHeartbeats 40000000 in
set_option maxRecDepth 100000 in
theorem law_c36 {p : Program} {e : Env} {s : State} {m : MethodId} {below : List Frame} {meth : Method} {c : Code} (l : Launch) {b L : Nat} {xs : Nat → Int32} {A : Nat → Prop} {D : va_G} {k : Nat → ClassId} {sa sv : Nat} {i : Int} (C : LFX p s m meth c b L xs A D k sa sv) (hi : 0 ≤ i ∧ i + 6 ≤ (L : Int)) (hk : LAT p l e s m below meth c b A D k 2846 i) : LAT p l e s m below meth c b A D k 1672 i := by
  obtain ⟨hx, hb, hr, hml, hown, hts, hKK, hX, hbl, hbA, hA, hAf, hlocks, hSY, hRR, hL⟩ := id C
  intro a IA LA FA QA VA IB LB FB QB VB IC LC FC QC VC ID LD FD QD VD IR LR FR QR VR r H locs ls hI hRT hP hD hS hl
  have hK := hKK.1
  obtain ⟨hP, hD⟩ : PD D A ((GA k a IA LA FA QA VA r) ++ ((GB k a IB LB FB QB VB r) ++ ((GC k a IC LC FC QC VC r) ++ ((GD k a ID LD FD QD VD r) ++ ((GR k a IR LR FR QR VR r) ++ (r.tl)))))) H := ⟨hP, hD⟩
  obtain ⟨hWI, hWI_0, hWI_1, hWI_2, hrd, htr0, htr1, htr2, htr3, hrgk, hrgt, hdrc, hev, hmk, hM, hMK, hTI, hFS, htd, hlt, rgH, rgS, rgY, hdr, hit, hmmk, heq, htq, hrel, hbf, htb, hkw, hSK, hSK0, hSK1, hSK2, hNE, hNE0, hNE1, hNE2, hLE, hYE, hQE, hLE0, hLE1, hLE2, hYE0, hYE1, hYE2⟩ := id hI
  obtain ⟨gw1, gw2, gw3, gw4, gw5, gw6, gw7, gw8, gw9, gw10, gw11⟩ := id hWI
  have hx0 := gw9
  have hYI := gw11
  have hpf : rgI (FR 3) (-128) 127 900 := fun e h1 h2 => by rw [← htb e h1 h2]; exact hbf e h1 h2
  obtain ⟨z1, hz1, hz1a, hz1b⟩ := i32_z (xs (iZ (i + 1)).toNatClampNeg)
  obtain ⟨z2, hz2, hz2a, hz2b⟩ := i32_z (xs (iZ (i + 2)).toNatClampNeg)
  obtain ⟨z3, hz3, hz3a, hz3b⟩ := i32_z (xs (iZ (i + 3)).toNatClampNeg)
  obtain ⟨z4, hz4, hz4a, hz4b⟩ := i32_z (xs (iZ (i + 4)).toNatClampNeg)
  obtain ⟨z5, hz5, hz5a, hz5b⟩ := i32_z (xs (iZ (i + 5)).toNatClampNeg)
  have hl : lv_has ls 4 [(3, .int (iZ i)), (2, .ref (a 106)), (1, .ref (a 0)), (0, .ref b)] := hl
  have hls := hQE.1
  replace hls : _ := hls
  refine lv_aload_n hx hb dL_law_1672 rfl (lv_at hl 2 rfl) ?_
  refine lv_aload_n hx hb dL_law_1673 rfl (lv_at hl 3 rfl) ?_
  refine lv_iload_n hx hb dL_law_1674 rfl (lv_at hl 0 rfl) ?_
  refine lv_iconst (v := iZ 1) hx hb dL_law_1675 rfl ?_
  refine lv_iadd hx hb dL_law_1676 ?_
  refine lv_topi (fun x_1 ex_1 => ?_)
  obtain rfl : x_1 = iZ (i + 1) := ex_1.trans (iZ_add i 1)
  refine va_sld hx hb hX hbl hbA hS (zi1 hi hL) dL_law_1677 ?_
  refine lv_topi (fun x_2 ex_2 => ?_)
  obtain rfl : x_2 = iZ z1 := ex_2.trans hz1
  obtain ⟨hP, hD⟩ := PD.mid4 ⟨hP, hD⟩
  refine CXM (mid := (GB k a IB LB FB QB VB r) ++ ((GC k a IC LC FC QC VC r) ++ ((GD k a ID LD FD QD VD r) ++ ((GR k a IR LR FR QR VR r))))) (c0 := 123) (s0 := 16705) (r := r) (As := [.int (iZ z1)]) (rest := []) hx hb hml hown hts hKK hP hD hS hA (p_remote l D k (a 0) (a 1) (a 2) (a 3) (a 4) (a 5) (a 6) (a 7) (a 8) (a 9) (a 10) (a 11) (IA 0) (IA 1) (IA 2) (LA 0) (LA 1) ([.ref (a 26), .ref (a 27), .ref (a 28), .int (iZ (IA 3)), .int (iZ (IA 4)), .int (iZ (IA 5)), .int (iZ (IA 6))]) (a 23) (a 27) (a 28) (a 24) (a 25) (IA 3) (IA 4) (IA 5) (FA 0) (FA 1) (a 101) (a 102) (a 103) (a 104) (FA 11) (FA 12) (FA 13) (FA 14) z1 r hRT rfl rfl rfl rfl rfl (by first | with_reducible assumption | omega) hx0 (by first | with_reducible assumption | omega) (by first | with_reducible assumption | omega) (by first | with_reducible assumption | omega) hrgk hrgt ⟨hz1a, hz1b⟩) ci_X11_remote qm_L_170 ⟨Nat.le_of_ble_eq_true rfl, Nat.le_of_ble_eq_true rfl⟩ ⟨Nat.le_of_ble_eq_true rfl, Nat.le_of_ble_eq_true rfl⟩ [0, 1, 18, 17, 19, 20, 21, 22, 2, 6, 7] [3, 4, 5, 8, 9, 10, 11, 12, 13, 14, 15, 16, 23, 24, 25] rfl rfl rfl (by decide +kernel) (by decide +kernel) (by decide +kernel) 0 rfl rfl rfl hl.1 rfl (Nat.le_of_ble_eq_true rfl) dL_law_1678 (fun u_3 H locs hφ hP hD hS => ?_)
  obtain ⟨r_4, v_5⟩ := u_3
  obtain ⟨p_6, p_7, rtr_4⟩ : (rgI v_5.2.2.1.1 (-1) 420 6) ∧ (rgI v_5.2.2.1.2.1 (-1) 5 6) ∧ ((RT k) (RX (FA 0) (FA 1) (IA 3) (IA 4)) r_4) := hφ
  obtain ⟨hP, hD⟩ := PD.dim4 ⟨hP, hD⟩
  obtain ⟨hP, hD⟩ := PD.by3 (is := [15, 16, 23, 0, 1, 2, 24, 25, 3, 4, 5, 6, 7, 8, 9, 10, 11, 18, 17, 19, 20, 21, 22, 12, 13, 14]) (y := (GA k a (u9 IA 2 v_5.1.2) LA (u9 (u9 (u9 (u9 FA 11 v_5.2.2.1.1) 12 v_5.2.2.1.2.1) 13 v_5.2.2.1.2.2.1) 14 v_5.2.2.1.2.2.2) QA VA r_4)) ⟨hP, hD⟩ (by decide +kernel) rfl rfl
  refine W.ceq (cells' := 123 + cz true r_4.b) (slots' := 16705 + sz true r_4.b) rfl rfl ?_
  refine W.eq (g2 := F0 m 1681 ls [.int (iZ v_5.1.1)]) rfl ?_
  refine lv_pop hx hb dL_law_1681 rfl ?_
  refine lv_aload_n hx hb dL_law_1682 rfl (lv_at hl 1 rfl) ?_
  refine lv_aload_n hx hb dL_law_1683 rfl (lv_at hl 3 rfl) ?_
  refine lv_iload_n hx hb dL_law_1684 rfl (lv_at hl 0 rfl) ?_
  refine lv_iconst (v := iZ 1) hx hb dL_law_1685 rfl ?_
  refine lv_iadd hx hb dL_law_1686 ?_
  refine lv_topi (fun x_8 ex_8 => ?_)
  obtain rfl : x_8 = iZ (i + 1) := ex_8.trans (iZ_add i 1)
  refine va_sld hx hb hX hbl hbA hS (zi1 hi hL) dL_law_1687 ?_
  refine lv_topi (fun x_9 ex_9 => ?_)
  obtain rfl : x_9 = iZ z1 := ex_9.trans hz1
  obtain ⟨hP, hD⟩ := PD.fr5 ⟨hP, hD⟩
  refine CKV2 (As := [.int (iZ z1)]) (rest := []) (tl := (GA k a (u9 IA 2 v_5.1.2) LA (u9 (u9 (u9 (u9 FA 11 v_5.2.2.1.1) 12 v_5.2.2.1.2.1) 13 v_5.2.2.1.2.2.1) 14 v_5.2.2.1.2.2.2) QA VA r_4) ++ ((GB k a IB LB FB QB VB r) ++ ((GC k a IC LC FC QC VC r) ++ ((GD k a ID LD FD QD VD r) ++ (r_4.tl))))) hx hb hml hown hts hKK hP hD hS hA (q_remote l D k (a 106) (a 107) (a 108) (a 109) (a 110) (a 111) (a 112) (a 113) (a 114) (a 115) (a 116) (a 117) (a 118) (a 119) (a 120) (a 121) (a 122) (IR 0) (IR 1) (IR 2) (IR 3) (IR 4) (IR 5) (IR 6) (IR 7) (IR 8) (IR 9) (IR 10) (IR 11) (IR 12) (IR 13) (IR 14) (IR 15) (IR 16) (IR 17) (LR 0) (LR 1) (FR 0) (FR 6) (FR 7) (FR 8) z1 hM ⟨hz1a, hz1b⟩) ci_X12_remote qm_L_173 ⟨Nat.le_of_ble_eq_true rfl, Nat.le_of_ble_eq_true rfl⟩ (lroom _) [0, 1, 9, 10, 11] [2, 3, 4, 5, 6, 7, 8, 12, 13, 14, 15, 16] rfl rfl rfl (by decide +kernel) (by decide +kernel) (by decide +kernel) 0 rfl rfl rfl hl.1 rfl (Nat.le_of_ble_eq_true rfl) dL_law_1688 (fun u_10 H locs hφ hP hD hS => ?_)
  obtain ⟨hP, hD⟩ := PD.by3 (is := [12, 13, 0, 1, 2, 3, 4, 5, 6, 14, 15, 16, 7, 8, 9, 10, 11]) (y := (GR k a (u9 IR 0 u_10.1.2) LR (u9 (u9 (u9 FR 6 u_10.2.2.1.1) 7 u_10.2.2.1.2.1) 8 u_10.2.2.1.2.2) QR VR r_4)) ⟨hP, hD⟩ (by decide +kernel) rfl rfl
  refine W.eq (g2 := F0 m 1691 ls [.int (iZ u_10.1.1)]) rfl ?_
  refine lv_pop hx hb dL_law_1691 rfl ?_
  refine lv_goto (tgt := 2846) hx hb dL_law_1692 rfl ?_
  obtain ⟨hP, hD⟩ := PD.fr5 ⟨hP, hD⟩
  obtain ⟨hP, hD⟩ := PD.fr5 ⟨hP, hD⟩
  obtain ⟨hP, hD⟩ := PD.fr5 ⟨hP, hD⟩
  obtain ⟨hP, hD⟩ := PD.fr5 ⟨hP, hD⟩
  exact hk a (u9 IA 2 v_5.1.2) LA (u9 (u9 (u9 (u9 FA 11 v_5.2.2.1.1) 12 v_5.2.2.1.2.1) 13 v_5.2.2.1.2.2.1) 14 v_5.2.2.1.2.2.2) QA VA IB LB FB QB VB IC LC FC QC VC ID LD FD QD VD (u9 IR 0 u_10.1.2) LR (u9 (u9 (u9 FR 6 u_10.2.2.1.1) 7 u_10.2.2.1.2.1) 8 u_10.2.2.1.2.2) QR VR r_4 H locs ls (show INV _ _ _ _ _ _ _ _ _ _ _ _ _ _ _ from ⟨hWI, hWI_0, hWI_1, hWI_2, hrd, htr0, htr1, htr2, htr3, (show rgI v_5.2.2.1.1 (-1) 420 6 from (by assumption)), (show rgI v_5.2.2.1.2.1 (-1) 5 6 from (by assumption)), hdrc, hev, hmk, hM, hMK, hTI, hFS, htd, hlt, rgH, rgS, rgY, hdr, hit, hmmk, heq, htq, hrel, hbf, htb, hkw, hSK, hSK0, hSK1, hSK2, hNE, hNE0, hNE1, hNE2, hLE, hYE, hQE, hLE0, hLE1, hLE2, hYE0, hYE1, hYE2⟩) rtr_4 hP hD hS (lv_sub hl [0, 1, 2, 3] rfl)
set_option maxHeartbeats 40000000 in
set_option maxRecDepth 100000 in
theorem law_c37 {p : Program} {e : Env} {s : State} {m : MethodId} {below : List Frame} {meth : Method} {c : Code} (l : Launch) {b L : Nat} {xs : Nat → Int32} {A : Nat → Prop} {D : va_G} {k : Nat → ClassId} {sa sv : Nat} {i : Int} (C : LFX p s m meth c b L xs A D k sa sv) (hi : 0 ≤ i ∧ i + 6 ≤ (L : Int)) (hk : LAT p l e s m below meth c b A D k 2846 i) : LAT p l e s m below meth c b A D k 1695 i := by
  obtain ⟨hx, hb, hr, hml, hown, hts, hKK, hX, hbl, hbA, hA, hAf, hlocks, hSY, hRR, hL⟩ := id C
  intro a IA LA FA QA VA IB LB FB QB VB IC LC FC QC VC ID LD FD QD VD IR LR FR QR VR r H locs ls hI hRT hP hD hS hl
  have hK := hKK.1
  obtain ⟨hP, hD⟩ : PD D A ((GA k a IA LA FA QA VA r) ++ ((GB k a IB LB FB QB VB r) ++ ((GC k a IC LC FC QC VC r) ++ ((GD k a ID LD FD QD VD r) ++ ((GR k a IR LR FR QR VR r) ++ (r.tl)))))) H := ⟨hP, hD⟩
  obtain ⟨hWI, hWI_0, hWI_1, hWI_2, hrd, htr0, htr1, htr2, htr3, hrgk, hrgt, hdrc, hev, hmk, hM, hMK, hTI, hFS, htd, hlt, rgH, rgS, rgY, hdr, hit, hmmk, heq, htq, hrel, hbf, htb, hkw, hSK, hSK0, hSK1, hSK2, hNE, hNE0, hNE1, hNE2, hLE, hYE, hQE, hLE0, hLE1, hLE2, hYE0, hYE1, hYE2⟩ := id hI
  obtain ⟨gw1, gw2, gw3, gw4, gw5, gw6, gw7, gw8, gw9, gw10, gw11⟩ := id hWI
  have hx0 := gw9
  have hYI := gw11
  have hpf : rgI (FR 3) (-128) 127 900 := fun e h1 h2 => by rw [← htb e h1 h2]; exact hbf e h1 h2
  obtain ⟨z1, hz1, hz1a, hz1b⟩ := i32_z (xs (iZ (i + 1)).toNatClampNeg)
  obtain ⟨z2, hz2, hz2a, hz2b⟩ := i32_z (xs (iZ (i + 2)).toNatClampNeg)
  obtain ⟨z3, hz3, hz3a, hz3b⟩ := i32_z (xs (iZ (i + 3)).toNatClampNeg)
  obtain ⟨z4, hz4, hz4a, hz4b⟩ := i32_z (xs (iZ (i + 4)).toNatClampNeg)
  obtain ⟨z5, hz5, hz5a, hz5b⟩ := i32_z (xs (iZ (i + 5)).toNatClampNeg)
  have hl : lv_has ls 4 [(3, .int (iZ i)), (2, .ref (a 106)), (1, .ref (a 0)), (0, .ref b)] := hl
  have hls := hQE.1
  replace hls : _ := hls
  refine lv_aload_n hx hb dL_law_1695 rfl (lv_at hl 2 rfl) ?_
  refine lv_aload_n hx hb dL_law_1696 rfl (lv_at hl 3 rfl) ?_
  refine lv_iload_n hx hb dL_law_1697 rfl (lv_at hl 0 rfl) ?_
  refine lv_iconst (v := iZ 1) hx hb dL_law_1698 rfl ?_
  refine lv_iadd hx hb dL_law_1699 ?_
  refine lv_topi (fun x_1 ex_1 => ?_)
  obtain rfl : x_1 = iZ (i + 1) := ex_1.trans (iZ_add i 1)
  refine va_sld hx hb hX hbl hbA hS (zi1 hi hL) dL_law_1700 ?_
  refine lv_topi (fun x_2 ex_2 => ?_)
  obtain rfl : x_2 = iZ z1 := ex_2.trans hz1
  obtain ⟨hP, hD⟩ := PD.mid4 ⟨hP, hD⟩
  refine CXM (mid := (GB k a IB LB FB QB VB r) ++ ((GC k a IC LC FC QC VC r) ++ ((GD k a ID LD FD QD VD r) ++ ((GR k a IR LR FR QR VR r))))) (c0 := 123) (s0 := 16705) (r := r) (As := [.int (iZ z1)]) (rest := []) hx hb hml hown hts hKK hP hD hS hA (x_order l D k (a 0) (a 1) (a 2) (a 3) (a 4) (a 5) (a 6) (a 7) (a 8) (a 9) (a 10) (a 11) (IA 0) (IA 1) (IA 2) (LA 0) (LA 1) ([.ref (a 26), .ref (a 27), .ref (a 28), .int (iZ (IA 3)), .int (iZ (IA 4)), .int (iZ (IA 5)), .int (iZ (IA 6))]) (a 23) (a 27) (a 28) (a 24) (a 25) (IA 3) (IA 4) (IA 5) (FA 0) (FA 1) (a 105) (a 29) (a 30) (a 31) (a 32) (a 101) (a 102) (a 103) (a 104) (a 33) (a 34) (a 35) (a 36) (a 37) (IA 12) (IA 13) (IA 14) (IA 15) (IA 16) (IA 17) (IA 18) (IA 9) (IA 10) (IA 11) (IA 7) (IA 8) (FA 11) (FA 12) (FA 13) (FA 2) (FA 3) (FA 4) (FA 5) (FA 15) (FA 14) (FA 6) (FA 7) (FA 8) (FA 9) (FA 10) z1 r hRT rfl rfl rfl rfl rfl (by first | with_reducible assumption | omega) hx0 (by first | with_reducible assumption | omega) (by first | with_reducible assumption | omega) (by first | with_reducible assumption | omega) (by first | with_reducible assumption | omega) hrgk hrgt (by first | with_reducible assumption | omega) (by first | with_reducible assumption | omega) gw10 (by first | with_reducible assumption | omega) hYI (by first | with_reducible assumption | omega) hLE.2 ⟨hz1a, hz1b⟩) ci_X11_order qm_L_174 ⟨Nat.le_of_ble_eq_true rfl, Nat.le_of_ble_eq_true rfl⟩ ⟨Nat.le_of_ble_eq_true rfl, Nat.le_of_ble_eq_true rfl⟩ [0, 23, 1, 3, 8, 9, 10, 11, 17, 18, 19, 20, 21, 22, 24, 2, 6, 7, 4, 12, 13, 14, 15, 16] [5, 25] rfl rfl rfl (by decide +kernel) (by decide +kernel) (by decide +kernel) 0 rfl rfl rfl hl.1 rfl (Nat.le_of_ble_eq_true rfl) dL_law_1701 (fun u_3 H locs hφ hP hD hS => ?_)
  obtain ⟨r_4, v_5⟩ := u_3
  obtain ⟨p_6, p_7, p_8, p_9, p_10, p_11, p_12, p_13, p_14, rtr_4⟩ : (0 ≤ v_5.1.2.2.1 ∧ v_5.1.2.2.1 ≤ 400) ∧ (0 ≤ v_5.1.2.2.2.1 ∧ v_5.1.2.2.2.1 ≤ 20) ∧ (0 ≤ v_5.1.2.2.2.2.1 ∧ v_5.1.2.2.2.2.1 ≤ 65535) ∧ (rgI v_5.2.2.1.1 (-1) 420 6) ∧ (rgI v_5.2.2.1.2.1 (-1) 5 6) ∧ (rgI v_5.2.2.1.2.2.2.2.1 0 ((IA 3) - 1) v_5.1.2.2.2.1) ∧ (KNC (FA 0) (FA 1) (IA 3) (IA 4) v_5.1.2.2.2.1 v_5.2.2.1.2.2.2.2.1 v_5.2.2.1.2.2.2.2.2.1 v_5.2.2.1.2.2.2.2.2.2.1) ∧ (((0 ≤ z1 ∧ z1 < (IA 3)) ∧ (((IA 8) < 20 ∧ v_5.1.1 = (IA 8) ∧ (cL v_5.1.2.2.1 v_5.1.2.2.2.1 v_5.2.2.1.2.2.2.1 v_5.2.2.1.2.2.2.2.1 v_5.2.2.1.2.2.2.2.2.1) = odF z1 (cL (IA 7) (IA 8) (FA 2) (FA 3) (FA 4))) ∨ (¬ (IA 8) < 20 ∧ (v_5.1.1 : Int) = -1 ∧ (cL v_5.1.2.2.1 v_5.1.2.2.2.1 v_5.2.2.1.2.2.2.1 v_5.2.2.1.2.2.2.2.1 v_5.2.2.1.2.2.2.2.2.1) = (cL (IA 7) (IA 8) (FA 2) (FA 3) (FA 4))))) ∨ (¬ (0 ≤ z1 ∧ z1 < (IA 3)) ∧ (v_5.1.1 : Int) = -1 ∧ (cL v_5.1.2.2.1 v_5.1.2.2.2.1 v_5.2.2.1.2.2.2.1 v_5.2.2.1.2.2.2.2.1 v_5.2.2.1.2.2.2.2.2.1) = (cL (IA 7) (IA 8) (FA 2) (FA 3) (FA 4)))) ∧ (v_5.2.2.1.2.2.2.2.2.2.2.1 = (FA 15)) ∧ ((RT k) (RX (FA 0) (FA 1) (IA 3) (IA 4)) r_4) := hφ
  obtain ⟨hP, hD⟩ := PD.dim4 ⟨hP, hD⟩
  obtain ⟨hP, hD⟩ := PD.by3 (is := [2, 4, 17, 5, 20, 0, 18, 19, 6, 7, 8, 9, 21, 22, 23, 24, 25, 10, 11, 12, 13, 14, 15, 3, 16, 1]) (y := (GA k a (fun i => [(IA 0), (IA 1), v_5.1.2.1, (IA 3), (IA 4), (IA 5), (IA 6), v_5.1.2.2.1, v_5.1.2.2.2.1, (IA 9), (IA 10), (IA 11), v_5.1.2.2.2.2.1, v_5.1.2.2.2.2.2.1, v_5.1.2.2.2.2.2.2.1, v_5.1.2.2.2.2.2.2.2.1, v_5.1.2.2.2.2.2.2.2.2.1, v_5.1.2.2.2.2.2.2.2.2.2.1, v_5.1.2.2.2.2.2.2.2.2.2.2].getD i 0) LA (fun i => [(FA 0), (FA 1), v_5.2.2.1.2.2.2.1, v_5.2.2.1.2.2.2.2.1, v_5.2.2.1.2.2.2.2.2.1, v_5.2.2.1.2.2.2.2.2.2.1, (FA 6), (FA 7), (FA 8), (FA 9), (FA 10), v_5.2.2.1.1, v_5.2.2.1.2.1, v_5.2.2.1.2.2.1, v_5.2.2.1.2.2.2.2.2.2.2.2, v_5.2.2.1.2.2.2.2.2.2.2.1, (FA 16)].getD i (fun _ => 0)) QA VA r_4)) ⟨hP, hD⟩ (by decide +kernel) rfl rfl
  refine W.ceq (cells' := 123 + cz true r_4.b) (slots' := 16705 + sz true r_4.b) rfl rfl ?_
  refine W.eq (g2 := F0 m 1704 ls [.int (iZ v_5.1.1)]) rfl ?_
  refine lv_pop hx hb dL_law_1704 rfl ?_
  refine lv_aload_n hx hb dL_law_1705 rfl (lv_at hl 1 rfl) ?_
  refine lv_aload_n hx hb dL_law_1706 rfl (lv_at hl 3 rfl) ?_
  refine lv_iload_n hx hb dL_law_1707 rfl (lv_at hl 0 rfl) ?_
  refine lv_iconst (v := iZ 1) hx hb dL_law_1708 rfl ?_
  refine lv_iadd hx hb dL_law_1709 ?_
  refine lv_topi (fun x_15 ex_15 => ?_)
  obtain rfl : x_15 = iZ (i + 1) := ex_15.trans (iZ_add i 1)
  refine va_sld hx hb hX hbl hbA hS (zi1 hi hL) dL_law_1710 ?_
  refine lv_topi (fun x_16 ex_16 => ?_)
  obtain rfl : x_16 = iZ z1 := ex_16.trans hz1
  obtain ⟨hP, hD⟩ := PD.fr5 ⟨hP, hD⟩
  refine CKV2 (As := [.int (iZ z1)]) (rest := []) (tl := (GA k a (fun i => [(IA 0), (IA 1), v_5.1.2.1, (IA 3), (IA 4), (IA 5), (IA 6), v_5.1.2.2.1, v_5.1.2.2.2.1, (IA 9), (IA 10), (IA 11), v_5.1.2.2.2.2.1, v_5.1.2.2.2.2.2.1, v_5.1.2.2.2.2.2.2.1, v_5.1.2.2.2.2.2.2.2.1, v_5.1.2.2.2.2.2.2.2.2.1, v_5.1.2.2.2.2.2.2.2.2.2.1, v_5.1.2.2.2.2.2.2.2.2.2.2].getD i 0) LA (fun i => [(FA 0), (FA 1), v_5.2.2.1.2.2.2.1, v_5.2.2.1.2.2.2.2.1, v_5.2.2.1.2.2.2.2.2.1, v_5.2.2.1.2.2.2.2.2.2.1, (FA 6), (FA 7), (FA 8), (FA 9), (FA 10), v_5.2.2.1.1, v_5.2.2.1.2.1, v_5.2.2.1.2.2.1, v_5.2.2.1.2.2.2.2.2.2.2.2, v_5.2.2.1.2.2.2.2.2.2.2.1, (FA 16)].getD i (fun _ => 0)) QA VA r_4) ++ ((GB k a IB LB FB QB VB r) ++ ((GC k a IC LC FC QC VC r) ++ ((GD k a ID LD FD QD VD r) ++ (r_4.tl))))) hx hb hml hown hts hKK hP hD hS hA (r_order l D k (a 106) (a 107) (a 108) (a 109) (a 110) (a 111) (a 112) (a 113) (a 114) (a 115) (a 116) (a 117) (a 118) (a 119) (a 120) (a 121) (a 122) (IR 0) (IR 1) (IR 2) (IR 3) (IR 4) (IR 5) (IR 6) (IR 7) (IR 8) (IR 9) (IR 10) (IR 11) (IR 12) (IR 13) (IR 14) (IR 15) (IR 16) (IR 17) (LR 0) (LR 1) (FR 0) z1 hM ⟨hz1a, hz1b⟩) ci_X12_order qm_L_177 ⟨Nat.le_of_ble_eq_true rfl, Nat.le_of_ble_eq_true rfl⟩ (lroom _) [0, 1] [2, 3, 4, 5, 6, 7, 8, 9, 10, 11, 12, 13, 14, 15, 16] rfl rfl rfl (by decide +kernel) (by decide +kernel) (by decide +kernel) 0 rfl rfl rfl hl.1 rfl (Nat.le_of_ble_eq_true rfl) dL_law_1711 (fun u_17 H locs hφ hP hD hS => ?_)
  obtain ⟨p_18, p_19, p_20⟩ : (M0 u_17.2.2.1) ∧ (CSlowWorldsLaw_law_r4331_294b62.FR u_17.2.2.1 (FR 0)) ∧ (((0 ≤ z1 ∧ z1 < gz (FR 0) 0) ∧ ((gz (FR 0) 4 < 20 ∧ u_17.1.1 = gz (FR 0) 4 ∧ (rL u_17.2.2.1) = odF z1 (rL (FR 0))) ∨ (¬ gz (FR 0) 4 < 20 ∧ (u_17.1.1 : Int) = -1 ∧ u_17.2.2.1 = (FR 0)))) ∨ (¬ (0 ≤ z1 ∧ z1 < gz (FR 0) 0) ∧ (u_17.1.1 : Int) = -1 ∧ u_17.2.2.1 = (FR 0))) := hφ
  obtain ⟨hP, hD⟩ := PD.by3 (is := [15, 16, 0, 1, 2, 3, 4, 5, 6, 7, 8, 9, 10, 11, 12, 13, 14]) (y := (GR k a (u9 IR 0 u_17.1.2) LR (u9 FR 0 u_17.2.2.1) QR VR r_4)) ⟨hP, hD⟩ (by decide +kernel) rfl rfl
  refine W.eq (g2 := F0 m 1714 ls [.int (iZ u_17.1.1)]) rfl ?_
  refine lv_pop hx hb dL_law_1714 rfl ?_
  refine lv_goto (tgt := 2846) hx hb dL_law_1715 rfl ?_
  obtain ⟨hP, hD⟩ := PD.fr5 ⟨hP, hD⟩
  obtain ⟨hP, hD⟩ := PD.fr5 ⟨hP, hD⟩
  obtain ⟨hP, hD⟩ := PD.fr5 ⟨hP, hD⟩
  obtain ⟨hP, hD⟩ := PD.fr5 ⟨hP, hD⟩
  exact hk a (fun i => [(IA 0), (IA 1), v_5.1.2.1, (IA 3), (IA 4), (IA 5), (IA 6), v_5.1.2.2.1, v_5.1.2.2.2.1, (IA 9), (IA 10), (IA 11), v_5.1.2.2.2.2.1, v_5.1.2.2.2.2.2.1, v_5.1.2.2.2.2.2.2.1, v_5.1.2.2.2.2.2.2.2.1, v_5.1.2.2.2.2.2.2.2.2.1, v_5.1.2.2.2.2.2.2.2.2.2.1, v_5.1.2.2.2.2.2.2.2.2.2.2].getD i 0) LA (fun i => [(FA 0), (FA 1), v_5.2.2.1.2.2.2.1, v_5.2.2.1.2.2.2.2.1, v_5.2.2.1.2.2.2.2.2.1, v_5.2.2.1.2.2.2.2.2.2.1, (FA 6), (FA 7), (FA 8), (FA 9), (FA 10), v_5.2.2.1.1, v_5.2.2.1.2.1, v_5.2.2.1.2.2.1, v_5.2.2.1.2.2.2.2.2.2.2.2, v_5.2.2.1.2.2.2.2.2.2.2.1, (FA 16)].getD i (fun _ => 0)) QA VA IB LB FB QB VB IC LC FC QC VC ID LD FD QD VD (u9 IR 0 u_17.1.2) LR (u9 FR 0 u_17.2.2.1) QR VR r_4 H locs ls (show INV _ _ _ _ _ _ _ _ _ _ _ _ _ _ _ from ⟨(show WI (IA 3) (IA 4) (IA 5) v_5.1.2.2.1 v_5.1.2.2.2.1 (IA 9) (IA 10) (IA 11) (FA 0) v_5.2.2.1.2.2.2.2.1 (FA 6) (FA 7) (FA 9) (FA 10) from (by first | with_reducible assumption | exact ⟨by omega, by omega, by omega, by omega, by omega, by omega, by omega, by omega, by first | exact gw9 | assumption, by first | exact gw10 | assumption, by first | exact gw11 | assumption⟩)), hWI_0, hWI_1, hWI_2, hrd, htr0, htr1, htr2, htr3, (show rgI v_5.2.2.1.1 (-1) 420 6 from (by assumption)), (show rgI v_5.2.2.1.2.1 (-1) 5 6 from (by assumption)), (show 0 ≤ v_5.1.2.2.2.2.1 ∧ v_5.1.2.2.2.2.1 ≤ 65535 from (by first | with_reducible assumption | omega)), hev, hmk, (show M0 u_17.2.2.1 from (by assumption)), (show MK u_17.2.2.1 (IR 17) from MK.keep (by omega) hMK (fun e h1 h2 => p_19.1 e (Or.inl (by omega)))), hTI, hFS, htd, hlt, rgH, rgS, rgY, hdr, hit, hmmk, heq, htq, hrel, hbf, htb, hkw, (show SKE (IA 3) (IA 4) (IA 5) (FA 0) (FA 1) u_17.2.2.1 0 from SKE.fr hSK p_19 gw2.2), (show SKI 0 (IA 1) (ID 0) (ID 1) (ID 2) (FD 0) (FD 1) u_17.2.2.1 890 from fun h => SKE.keep (hSK0 h) (fun e p q => p_19.1 e (Or.inl (by omega))) hWI_0.2.1.2), (show SKI 1 (IA 1) (ID 9) (ID 10) (ID 11) (FD 11) (FD 12) u_17.2.2.1 1780 from fun h => SKE.keep (hSK1 h) (fun e p q => p_19.1 e (Or.inl (by omega))) hWI_1.2.1.2), (show SKI 2 (IA 1) (ID 18) (ID 19) (ID 20) (FD 22) (FD 23) u_17.2.2.1 2670 from fun h => SKE.keep (hSK2 h) (fun e p q => p_19.1 e (Or.inl (by omega))) hWI_2.2.1.2), hNE, hNE0, hNE1, hNE2, (show LFE (IA 3) (IA 4) v_5.1.2.2.1 v_5.1.2.2.2.1 (FA 0) (FA 1) v_5.2.2.1.2.2.2.1 v_5.2.2.1.2.2.2.2.1 v_5.2.2.1.2.2.2.2.2.1 v_5.2.2.1.2.2.2.2.2.2.1 u_17.2.2.1 0 from ⟨(ord_two hLE.1 (SKE.z hSK).1 hLE.rg.2 p_13 p_20).1, p_12⟩), (show YFE (IA 3) (IA 9) (IA 11) (FA 6) (FA 7) (FA 8) (FA 9) (FA 10) u_17.2.2.1 0 from (YFE.fr hYE p_19)), (show (∀ o9 : Int, 0 ≤ o9 → o9 < 60 → 0 ≤ gz v_5.2.2.1.2.2.2.2.2.2.2.1 o9 ∧ gz v_5.2.2.1.2.2.2.2.2.2.2.1 o9 ≤ 99) ∧ okZ (FR 11) ∧ cQ v_5.2.2.1.2.2.2.2.2.2.2.1 = rQ (FR 11) from (by rw [p_14]; exact hQE)), (show LFI 0 (IA 1) (ID 0) (ID 1) (ID 4) (ID 5) (FD 0) (FD 1) (FD 2) (FD 3) (FD 4) (FD 5) u_17.2.2.1 890 from (fun h => (hLE0 h).keep (by omega) hWI_0.2.2.2.1 hWI_0.2.2.2.2.1 (fun e p r => p_19.1 _ (Or.inl (by omega))))), (show LFI 1 (IA 1) (ID 9) (ID 10) (ID 13) (ID 14) (FD 11) (FD 12) (FD 13) (FD 14) (FD 15) (FD 16) u_17.2.2.1 1780 from (fun h => (hLE1 h).keep (by omega) hWI_1.2.2.2.1 hWI_1.2.2.2.2.1 (fun e p r => p_19.1 _ (Or.inl (by omega))))), (show LFI 2 (IA 1) (ID 18) (ID 19) (ID 22) (ID 23) (FD 22) (FD 23) (FD 24) (FD 25) (FD 26) (FD 27) u_17.2.2.1 2670 from (fun h => (hLE2 h).keep (by omega) hWI_2.2.2.2.1 hWI_2.2.2.2.2.1 (fun e p r => p_19.1 _ (Or.inl (by omega))))), (show YFI 0 (IA 1) (ID 0) (ID 6) (ID 8) (FD 6) (FD 7) (FD 8) (FD 9) (FD 10) u_17.2.2.1 890 from (fun h => (hYE0 h).keep (fun e p r => p_19.1 _ (Or.inl (by omega))))), (show YFI 1 (IA 1) (ID 9) (ID 15) (ID 17) (FD 17) (FD 18) (FD 19) (FD 20) (FD 21) u_17.2.2.1 1780 from (fun h => (hYE1 h).keep (fun e p r => p_19.1 _ (Or.inl (by omega))))), (show YFI 2 (IA 1) (ID 18) (ID 24) (ID 26) (FD 28) (FD 29) (FD 30) (FD 31) (FD 32) u_17.2.2.1 2670 from (fun h => (hYE2 h).keep (fun e p r => p_19.1 _ (Or.inl (by omega)))))⟩) rtr_4 hP hD hS (lv_sub hl [0, 1, 2, 3] rfl)
set_option maxHeartbeats 40000000 in
set_option maxRecDepth 100000 in
theorem law_c38 {p : Program} {e : Env} {s : State} {m : MethodId} {below : List Frame} {meth : Method} {c : Code} (l : Launch) {b L : Nat} {xs : Nat → Int32} {A : Nat → Prop} {D : va_G} {k : Nat → ClassId} {sa sv : Nat} {i : Int} (C : LFX p s m meth c b L xs A D k sa sv) (hi : 0 ≤ i ∧ i + 6 ≤ (L : Int)) (hk : LAT p l e s m below meth c b A D k 2846 i) : LAT p l e s m below meth c b A D k 1718 i := by
  obtain ⟨hx, hb, hr, hml, hown, hts, hKK, hX, hbl, hbA, hA, hAf, hlocks, hSY, hRR, hL⟩ := id C
  intro a IA LA FA QA VA IB LB FB QB VB IC LC FC QC VC ID LD FD QD VD IR LR FR QR VR r H locs ls hI hRT hP hD hS hl
  have hK := hKK.1
  obtain ⟨hP, hD⟩ : PD D A ((GA k a IA LA FA QA VA r) ++ ((GB k a IB LB FB QB VB r) ++ ((GC k a IC LC FC QC VC r) ++ ((GD k a ID LD FD QD VD r) ++ ((GR k a IR LR FR QR VR r) ++ (r.tl)))))) H := ⟨hP, hD⟩
  obtain ⟨hWI, hWI_0, hWI_1, hWI_2, hrd, htr0, htr1, htr2, htr3, hrgk, hrgt, hdrc, hev, hmk, hM, hMK, hTI, hFS, htd, hlt, rgH, rgS, rgY, hdr, hit, hmmk, heq, htq, hrel, hbf, htb, hkw, hSK, hSK0, hSK1, hSK2, hNE, hNE0, hNE1, hNE2, hLE, hYE, hQE, hLE0, hLE1, hLE2, hYE0, hYE1, hYE2⟩ := id hI
  obtain ⟨gw1, gw2, gw3, gw4, gw5, gw6, gw7, gw8, gw9, gw10, gw11⟩ := id hWI
  have hx0 := gw9
  have hYI := gw11
  have hpf : rgI (FR 3) (-128) 127 900 := fun e h1 h2 => by rw [← htb e h1 h2]; exact hbf e h1 h2
  obtain ⟨z1, hz1, hz1a, hz1b⟩ := i32_z (xs (iZ (i + 1)).toNatClampNeg)
  obtain ⟨z2, hz2, hz2a, hz2b⟩ := i32_z (xs (iZ (i + 2)).toNatClampNeg)
  obtain ⟨z3, hz3, hz3a, hz3b⟩ := i32_z (xs (iZ (i + 3)).toNatClampNeg)
  obtain ⟨z4, hz4, hz4a, hz4b⟩ := i32_z (xs (iZ (i + 4)).toNatClampNeg)
  obtain ⟨z5, hz5, hz5a, hz5b⟩ := i32_z (xs (iZ (i + 5)).toNatClampNeg)
  have hl : lv_has ls 4 [(3, .int (iZ i)), (2, .ref (a 106)), (1, .ref (a 0)), (0, .ref b)] := hl
  have hls := hQE.1
  replace hls : _ := hls
  refine lv_aload_n hx hb dL_law_1718 rfl (lv_at hl 2 rfl) ?_
  refine lv_aload_n hx hb dL_law_1719 rfl (lv_at hl 3 rfl) ?_
  refine lv_iload_n hx hb dL_law_1720 rfl (lv_at hl 0 rfl) ?_
  refine lv_iconst (v := iZ 1) hx hb dL_law_1721 rfl ?_
  refine lv_iadd hx hb dL_law_1722 ?_
  refine lv_topi (fun x_1 ex_1 => ?_)
  obtain rfl : x_1 = iZ (i + 1) := ex_1.trans (iZ_add i 1)
  refine va_sld hx hb hX hbl hbA hS (zi1 hi hL) dL_law_1723 ?_
  refine lv_topi (fun x_2 ex_2 => ?_)
  obtain rfl : x_2 = iZ z1 := ex_2.trans hz1
  refine lv_aload_n hx hb dL_law_1724 rfl (lv_at hl 3 rfl) ?_
  refine lv_iload_n hx hb dL_law_1725 rfl (lv_at hl 0 rfl) ?_
  refine lv_iconst (v := iZ 2) hx hb dL_law_1726 rfl ?_
  refine lv_iadd hx hb dL_law_1727 ?_
  refine lv_topi (fun x_3 ex_3 => ?_)
  obtain rfl : x_3 = iZ (i + 2) := ex_3.trans (iZ_add i 2)
  refine va_sld hx hb hX hbl hbA hS (zi2 hi hL) dL_law_1728 ?_
  refine lv_topi (fun x_4 ex_4 => ?_)
  obtain rfl : x_4 = iZ z2 := ex_4.trans hz2
  refine CKV2 (As := [.int (iZ z1), .int (iZ z2)]) (rest := []) (tl := (GB k a IB LB FB QB VB r) ++ ((GC k a IC LC FC QC VC r) ++ ((GD k a ID LD FD QD VD r) ++ ((GR k a IR LR FR QR VR r) ++ (r.tl))))) hx hb hml hown hts hKK hP hD hS hA (p_given l D k (a 0) (a 1) (a 2) (a 3) (a 4) (a 5) (a 6) (a 7) (a 8) (a 9) (a 10) (a 11) (IA 0) (IA 1) (IA 2) (LA 0) (LA 1) ([.ref (a 26), .ref (a 27), .ref (a 28), .int (iZ (IA 3)), .int (iZ (IA 4)), .int (iZ (IA 5)), .int (iZ (IA 6))]) (a 23) (a 27) (a 28) (a 24) (a 25) (IA 3) (IA 4) (IA 5) (FA 0) (FA 1) (a 29) (a 30) (a 31) (a 32) (IA 7) (IA 8) (FA 2) (FA 3) (FA 4) (FA 5) z1 z2 rfl rfl rfl rfl rfl (by first | with_reducible assumption | omega) hx0 (by first | with_reducible assumption | omega) (by first | with_reducible assumption | omega) (by first | with_reducible assumption | omega) (by first | with_reducible assumption | omega) (by first | with_reducible assumption | omega) gw10 ⟨hz1a, hz1b⟩ ⟨hz2a, hz2b⟩) ci_X11_given qm_L_178 ⟨Nat.le_of_ble_eq_true rfl, Nat.le_of_ble_eq_true rfl⟩ (lroom _) [0, 1, 3, 8, 9, 10, 11, 2, 6, 7] [4, 5, 12, 13, 14, 15, 16, 17, 18, 19, 20, 21, 22, 23, 24, 25] rfl rfl rfl (by decide +kernel) (by decide +kernel) (by decide +kernel) 0 rfl rfl rfl hl.1 rfl (Nat.le_of_ble_eq_true rfl) dL_law_1729 (fun u_5 H locs hφ hP hD hS => ?_)
  obtain ⟨hP, hD⟩ := PD.by3 (is := [16, 17, 23, 18, 0, 1, 24, 25, 19, 20, 21, 22, 2, 3, 4, 5, 6, 7, 8, 9, 10, 11, 12, 13, 14, 15]) (y := (GA k a (u9 IA 2 u_5.1.2) LA FA QA VA r)) ⟨hP, hD⟩ (by decide +kernel) rfl rfl
  refine W.eq (g2 := F0 m 1732 ls [.int (iZ u_5.1.1)]) rfl ?_
  refine lv_pop hx hb dL_law_1732 rfl ?_
  refine lv_aload_n hx hb dL_law_1733 rfl (lv_at hl 1 rfl) ?_
  refine lv_aload_n hx hb dL_law_1734 rfl (lv_at hl 3 rfl) ?_
  refine lv_iload_n hx hb dL_law_1735 rfl (lv_at hl 0 rfl) ?_
  refine lv_iconst (v := iZ 1) hx hb dL_law_1736 rfl ?_
  refine lv_iadd hx hb dL_law_1737 ?_
  refine lv_topi (fun x_6 ex_6 => ?_)
  obtain rfl : x_6 = iZ (i + 1) := ex_6.trans (iZ_add i 1)
  refine va_sld hx hb hX hbl hbA hS (zi1 hi hL) dL_law_1738 ?_
  refine lv_topi (fun x_7 ex_7 => ?_)
  obtain rfl : x_7 = iZ z1 := ex_7.trans hz1
  refine lv_aload_n hx hb dL_law_1739 rfl (lv_at hl 3 rfl) ?_
  refine lv_iload_n hx hb dL_law_1740 rfl (lv_at hl 0 rfl) ?_
  refine lv_iconst (v := iZ 2) hx hb dL_law_1741 rfl ?_
  refine lv_iadd hx hb dL_law_1742 ?_
  refine lv_topi (fun x_8 ex_8 => ?_)
  obtain rfl : x_8 = iZ (i + 2) := ex_8.trans (iZ_add i 2)
  refine va_sld hx hb hX hbl hbA hS (zi2 hi hL) dL_law_1743 ?_
  refine lv_topi (fun x_9 ex_9 => ?_)
  obtain rfl : x_9 = iZ z2 := ex_9.trans hz2
  obtain ⟨hP, hD⟩ := PD.fr5 ⟨hP, hD⟩
  refine CKV2 (As := [.int (iZ z1), .int (iZ z2)]) (rest := []) (tl := (GA k a (u9 IA 2 u_5.1.2) LA FA QA VA r) ++ ((GB k a IB LB FB QB VB r) ++ ((GC k a IC LC FC QC VC r) ++ ((GD k a ID LD FD QD VD r) ++ (r.tl))))) hx hb hml hown hts hKK hP hD hS hA (q_given l D k (a 106) (a 107) (a 108) (a 109) (a 110) (a 111) (a 112) (a 113) (a 114) (a 115) (a 116) (a 117) (a 118) (a 119) (a 120) (a 121) (a 122) (IR 0) (IR 1) (IR 2) (IR 3) (IR 4) (IR 5) (IR 6) (IR 7) (IR 8) (IR 9) (IR 10) (IR 11) (IR 12) (IR 13) (IR 14) (IR 15) (IR 16) (IR 17) (LR 0) (LR 1) (FR 0) z1 z2 hM ⟨hz1a, hz1b⟩ ⟨hz2a, hz2b⟩) ci_X12_given qm_L_181 ⟨Nat.le_of_ble_eq_true rfl, Nat.le_of_ble_eq_true rfl⟩ (lroom _) [0, 1] [2, 3, 4, 5, 6, 7, 8, 9, 10, 11, 12, 13, 14, 15, 16] rfl rfl rfl (by decide +kernel) (by decide +kernel) (by decide +kernel) 0 rfl rfl rfl hl.1 rfl (Nat.le_of_ble_eq_true rfl) dL_law_1744 (fun u_10 H locs hφ hP hD hS => ?_)
  obtain ⟨hP, hD⟩ := PD.by3 (is := [15, 16, 0, 1, 2, 3, 4, 5, 6, 7, 8, 9, 10, 11, 12, 13, 14]) (y := (GR k a (u9 IR 0 u_10.1.2) LR FR QR VR r)) ⟨hP, hD⟩ (by decide +kernel) rfl rfl
  refine W.eq (g2 := F0 m 1747 ls [.int (iZ u_10.1.1)]) rfl ?_
  refine lv_pop hx hb dL_law_1747 rfl ?_
  refine lv_goto (tgt := 2846) hx hb dL_law_1748 rfl ?_
  obtain ⟨hP, hD⟩ := PD.fr5 ⟨hP, hD⟩
  obtain ⟨hP, hD⟩ := PD.fr5 ⟨hP, hD⟩
  obtain ⟨hP, hD⟩ := PD.fr5 ⟨hP, hD⟩
  obtain ⟨hP, hD⟩ := PD.fr5 ⟨hP, hD⟩
  exact hk a (u9 IA 2 u_5.1.2) LA FA QA VA IB LB FB QB VB IC LC FC QC VC ID LD FD QD VD (u9 IR 0 u_10.1.2) LR FR QR VR r H locs ls (show INV _ _ _ _ _ _ _ _ _ _ _ _ _ _ _ from ⟨hWI, hWI_0, hWI_1, hWI_2, hrd, htr0, htr1, htr2, htr3, hrgk, hrgt, hdrc, hev, hmk, hM, hMK, hTI, hFS, htd, hlt, rgH, rgS, rgY, hdr, hit, hmmk, heq, htq, hrel, hbf, htb, hkw, hSK, hSK0, hSK1, hSK2, hNE, hNE0, hNE1, hNE2, hLE, hYE, hQE, hLE0, hLE1, hLE2, hYE0, hYE1, hYE2⟩) hRT hP hD hS (lv_sub hl [0, 1, 2, 3] rfl)
set_option maxHeartbeats 40000000 in
set_option maxRecDepth 100000 in
theorem law_c39 {p : Program} {e : Env} {s : State} {m : MethodId} {below : List Frame} {meth : Method} {c : Code} (l : Launch) {b L : Nat} {xs : Nat → Int32} {A : Nat → Prop} {D : va_G} {k : Nat → ClassId} {sa sv : Nat} {i : Int} (C : LFX p s m meth c b L xs A D k sa sv) (hi : 0 ≤ i ∧ i + 6 ≤ (L : Int)) (hk : LAT p l e s m below meth c b A D k 2846 i) : LAT p l e s m below meth c b A D k 1751 i := by
  obtain ⟨hx, hb, hr, hml, hown, hts, hKK, hX, hbl, hbA, hA, hAf, hlocks, hSY, hRR, hL⟩ := id C
  intro a IA LA FA QA VA IB LB FB QB VB IC LC FC QC VC ID LD FD QD VD IR LR FR QR VR r H locs ls hI hRT hP hD hS hl
  have hK := hKK.1
  obtain ⟨hP, hD⟩ : PD D A ((GA k a IA LA FA QA VA r) ++ ((GB k a IB LB FB QB VB r) ++ ((GC k a IC LC FC QC VC r) ++ ((GD k a ID LD FD QD VD r) ++ ((GR k a IR LR FR QR VR r) ++ (r.tl)))))) H := ⟨hP, hD⟩
  obtain ⟨hWI, hWI_0, hWI_1, hWI_2, hrd, htr0, htr1, htr2, htr3, hrgk, hrgt, hdrc, hev, hmk, hM, hMK, hTI, hFS, htd, hlt, rgH, rgS, rgY, hdr, hit, hmmk, heq, htq, hrel, hbf, htb, hkw, hSK, hSK0, hSK1, hSK2, hNE, hNE0, hNE1, hNE2, hLE, hYE, hQE, hLE0, hLE1, hLE2, hYE0, hYE1, hYE2⟩ := id hI
  obtain ⟨gw1, gw2, gw3, gw4, gw5, gw6, gw7, gw8, gw9, gw10, gw11⟩ := id hWI
  have hx0 := gw9
  have hYI := gw11
  have hpf : rgI (FR 3) (-128) 127 900 := fun e h1 h2 => by rw [← htb e h1 h2]; exact hbf e h1 h2
  obtain ⟨z1, hz1, hz1a, hz1b⟩ := i32_z (xs (iZ (i + 1)).toNatClampNeg)
  obtain ⟨z2, hz2, hz2a, hz2b⟩ := i32_z (xs (iZ (i + 2)).toNatClampNeg)
  obtain ⟨z3, hz3, hz3a, hz3b⟩ := i32_z (xs (iZ (i + 3)).toNatClampNeg)
  obtain ⟨z4, hz4, hz4a, hz4b⟩ := i32_z (xs (iZ (i + 4)).toNatClampNeg)
  obtain ⟨z5, hz5, hz5a, hz5b⟩ := i32_z (xs (iZ (i + 5)).toNatClampNeg)
  have hl : lv_has ls 4 [(3, .int (iZ i)), (2, .ref (a 106)), (1, .ref (a 0)), (0, .ref b)] := hl
  have hls := hQE.1
  replace hls : _ := hls
  refine lv_aload_n hx hb dL_law_1751 rfl (lv_at hl 2 rfl) ?_
  refine lv_aload_n hx hb dL_law_1752 rfl (lv_at hl 3 rfl) ?_
  refine lv_iload_n hx hb dL_law_1753 rfl (lv_at hl 0 rfl) ?_
  refine lv_iconst (v := iZ 1) hx hb dL_law_1754 rfl ?_
  refine lv_iadd hx hb dL_law_1755 ?_
  refine lv_topi (fun x_1 ex_1 => ?_)
  obtain rfl : x_1 = iZ (i + 1) := ex_1.trans (iZ_add i 1)
  refine va_sld hx hb hX hbl hbA hS (zi1 hi hL) dL_law_1756 ?_
  refine lv_topi (fun x_2 ex_2 => ?_)
  obtain rfl : x_2 = iZ z1 := ex_2.trans hz1
  refine lv_aload_n hx hb dL_law_1757 rfl (lv_at hl 3 rfl) ?_
  refine lv_iload_n hx hb dL_law_1758 rfl (lv_at hl 0 rfl) ?_
  refine lv_iconst (v := iZ 2) hx hb dL_law_1759 rfl ?_
  refine lv_iadd hx hb dL_law_1760 ?_
  refine lv_topi (fun x_3 ex_3 => ?_)
  obtain rfl : x_3 = iZ (i + 2) := ex_3.trans (iZ_add i 2)
  refine va_sld hx hb hX hbl hbA hS (zi2 hi hL) dL_law_1761 ?_
  refine lv_topi (fun x_4 ex_4 => ?_)
  obtain rfl : x_4 = iZ z2 := ex_4.trans hz2
  refine CKV2 (As := [.int (iZ z1), .int (iZ z2)]) (rest := []) (tl := (GB k a IB LB FB QB VB r) ++ ((GC k a IC LC FC QC VC r) ++ ((GD k a ID LD FD QD VD r) ++ ((GR k a IR LR FR QR VR r) ++ (r.tl))))) hx hb hml hown hts hKK hP hD hS hA (p_heard l D k (a 0) (a 1) (a 2) (a 3) (a 4) (a 5) (a 6) (a 7) (a 8) (a 9) (a 10) (a 11) (IA 0) (IA 1) (IA 2) (LA 0) (LA 1) ([.ref (a 26), .ref (a 27), .ref (a 28), .int (iZ (IA 3)), .int (iZ (IA 4)), .int (iZ (IA 5)), .int (iZ (IA 6))]) (a 23) (a 27) (a 28) (a 24) (a 25) (IA 3) (IA 4) (IA 5) (FA 0) (FA 1) (a 29) (a 30) (a 31) (a 32) (IA 7) (IA 8) (FA 2) (FA 3) (FA 4) (FA 5) z1 z2 rfl rfl rfl rfl rfl (by first | with_reducible assumption | omega) hx0 (by first | with_reducible assumption | omega) (by first | with_reducible assumption | omega) (by first | with_reducible assumption | omega) (by first | with_reducible assumption | omega) (by first | with_reducible assumption | omega) gw10 ⟨hz1a, hz1b⟩ ⟨hz2a, hz2b⟩) ci_X11_heard qm_L_182 ⟨Nat.le_of_ble_eq_true rfl, Nat.le_of_ble_eq_true rfl⟩ (lroom _) [0, 1, 3, 8, 9, 10, 11, 2, 6, 7] [4, 5, 12, 13, 14, 15, 16, 17, 18, 19, 20, 21, 22, 23, 24, 25] rfl rfl rfl (by decide +kernel) (by decide +kernel) (by decide +kernel) 0 rfl rfl rfl hl.1 rfl (Nat.le_of_ble_eq_true rfl) dL_law_1762 (fun u_5 H locs hφ hP hD hS => ?_)
  obtain ⟨hP, hD⟩ := PD.by3 (is := [16, 17, 23, 18, 0, 1, 24, 25, 19, 20, 21, 22, 2, 3, 4, 5, 6, 7, 8, 9, 10, 11, 12, 13, 14, 15]) (y := (GA k a (u9 IA 2 u_5.1.2) LA FA QA VA r)) ⟨hP, hD⟩ (by decide +kernel) rfl rfl
  refine W.eq (g2 := F0 m 1765 ls [.int (iZ u_5.1.1)]) rfl ?_
  refine lv_pop hx hb dL_law_1765 rfl ?_
  refine lv_aload_n hx hb dL_law_1766 rfl (lv_at hl 1 rfl) ?_
  refine lv_aload_n hx hb dL_law_1767 rfl (lv_at hl 3 rfl) ?_
  refine lv_iload_n hx hb dL_law_1768 rfl (lv_at hl 0 rfl) ?_
  refine lv_iconst (v := iZ 1) hx hb dL_law_1769 rfl ?_
  refine lv_iadd hx hb dL_law_1770 ?_
  refine lv_topi (fun x_6 ex_6 => ?_)
  obtain rfl : x_6 = iZ (i + 1) := ex_6.trans (iZ_add i 1)
  refine va_sld hx hb hX hbl hbA hS (zi1 hi hL) dL_law_1771 ?_
  refine lv_topi (fun x_7 ex_7 => ?_)
  obtain rfl : x_7 = iZ z1 := ex_7.trans hz1
  refine lv_aload_n hx hb dL_law_1772 rfl (lv_at hl 3 rfl) ?_
  refine lv_iload_n hx hb dL_law_1773 rfl (lv_at hl 0 rfl) ?_
  refine lv_iconst (v := iZ 2) hx hb dL_law_1774 rfl ?_
  refine lv_iadd hx hb dL_law_1775 ?_
  refine lv_topi (fun x_8 ex_8 => ?_)
  obtain rfl : x_8 = iZ (i + 2) := ex_8.trans (iZ_add i 2)
  refine va_sld hx hb hX hbl hbA hS (zi2 hi hL) dL_law_1776 ?_
  refine lv_topi (fun x_9 ex_9 => ?_)
  obtain rfl : x_9 = iZ z2 := ex_9.trans hz2
  obtain ⟨hP, hD⟩ := PD.fr5 ⟨hP, hD⟩
  refine CKV2 (As := [.int (iZ z1), .int (iZ z2)]) (rest := []) (tl := (GA k a (u9 IA 2 u_5.1.2) LA FA QA VA r) ++ ((GB k a IB LB FB QB VB r) ++ ((GC k a IC LC FC QC VC r) ++ ((GD k a ID LD FD QD VD r) ++ (r.tl))))) hx hb hml hown hts hKK hP hD hS hA (q_heard l D k (a 106) (a 107) (a 108) (a 109) (a 110) (a 111) (a 112) (a 113) (a 114) (a 115) (a 116) (a 117) (a 118) (a 119) (a 120) (a 121) (a 122) (IR 0) (IR 1) (IR 2) (IR 3) (IR 4) (IR 5) (IR 6) (IR 7) (IR 8) (IR 9) (IR 10) (IR 11) (IR 12) (IR 13) (IR 14) (IR 15) (IR 16) (IR 17) (LR 0) (LR 1) (FR 0) (FR 6) (FR 7) (FR 8) (FR 9) z1 z2 hM rgH ⟨hz1a, hz1b⟩ ⟨hz2a, hz2b⟩) ci_X12_heard qm_L_185 ⟨Nat.le_of_ble_eq_true rfl, Nat.le_of_ble_eq_true rfl⟩ (lroom _) [0, 1, 9, 10, 11, 12] [2, 3, 4, 5, 6, 7, 8, 13, 14, 15, 16] rfl rfl rfl (by decide +kernel) (by decide +kernel) (by decide +kernel) 0 rfl rfl rfl hl.1 rfl (Nat.le_of_ble_eq_true rfl) dL_law_1777 (fun u_10 H locs hφ hP hD hS => ?_)
  have p_11 : rgI u_10.2.2.1.2.2.2 0 1000000 120 := hφ
  obtain ⟨hP, hD⟩ := PD.by3 (is := [11, 12, 0, 1, 2, 3, 4, 5, 6, 13, 14, 15, 16, 7, 8, 9, 10]) (y := (GR k a (u9 IR 0 u_10.1.2) LR (u9 (u9 (u9 (u9 FR 6 u_10.2.2.1.1) 7 u_10.2.2.1.2.1) 8 u_10.2.2.1.2.2.1) 9 u_10.2.2.1.2.2.2) QR VR r)) ⟨hP, hD⟩ (by decide +kernel) rfl rfl
  refine W.eq (g2 := F0 m 1780 ls [.int (iZ u_10.1.1)]) rfl ?_
  refine lv_pop hx hb dL_law_1780 rfl ?_
  refine lv_goto (tgt := 2846) hx hb dL_law_1781 rfl ?_
  obtain ⟨hP, hD⟩ := PD.fr5 ⟨hP, hD⟩
  obtain ⟨hP, hD⟩ := PD.fr5 ⟨hP, hD⟩
  obtain ⟨hP, hD⟩ := PD.fr5 ⟨hP, hD⟩
  obtain ⟨hP, hD⟩ := PD.fr5 ⟨hP, hD⟩
  exact hk a (u9 IA 2 u_5.1.2) LA FA QA VA IB LB FB QB VB IC LC FC QC VC ID LD FD QD VD (u9 IR 0 u_10.1.2) LR (u9 (u9 (u9 (u9 FR 6 u_10.2.2.1.1) 7 u_10.2.2.1.2.1) 8 u_10.2.2.1.2.2.1) 9 u_10.2.2.1.2.2.2) QR VR r H locs ls (show INV _ _ _ _ _ _ _ _ _ _ _ _ _ _ _ from ⟨hWI, hWI_0, hWI_1, hWI_2, hrd, htr0, htr1, htr2, htr3, hrgk, hrgt, hdrc, hev, hmk, hM, hMK, hTI, hFS, htd, hlt, (show rgI u_10.2.2.1.2.2.2 0 1000000 120 from (by assumption)), rgS, rgY, hdr, hit, hmmk, heq, htq, hrel, hbf, htb, hkw, hSK, hSK0, hSK1, hSK2, hNE, hNE0, hNE1, hNE2, hLE, hYE, hQE, hLE0, hLE1, hLE2, hYE0, hYE1, hYE2⟩) hRT hP hD hS (lv_sub hl [0, 1, 2, 3] rfl)
end
