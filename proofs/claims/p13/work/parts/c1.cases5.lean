section
theorem qc_X11_rules : Cond.code yX11_rules cX11_rules 3 (some .int) ∈ gw := tbt (tb5 (List.mem_of_getElem? (i := 4) rfl)) rfl
theorem qi_yX11_rules : Cond.instanceMethod yX11_rules ∈ gw := tbt (tb5 (List.mem_of_getElem? (i := 2) rfl)) rfl
theorem qs_X11_rules : Cond.selects (yX11_rules).cls yX11_rules yX11_rules ∈ gw := tbt (tb5 (List.mem_of_getElem? (i := 3) rfl)) rfl
theorem ci_X11_rules : CIv yX11_rules cX11_rules 3 (some .int) 2 := ⟨qc_X11_rules, qi_yX11_rules, qs_X11_rules, qz_X11, by decide +kernel⟩
theorem qm_L_186 : Cond.methodLink RL 186 yX11_rules ∈ gw := tbt (tb5 (List.mem_of_getElem? (i := 1) rfl)) rfl
theorem qc_X12_rules : Cond.code yX12_rules cX12_rules 3 (some .int) ∈ gw := tbt (tb8 (List.mem_of_getElem? (i := 61) rfl)) rfl
theorem qi_yX12_rules : Cond.instanceMethod yX12_rules ∈ gw := tbt (tb8 (List.mem_of_getElem? (i := 59) rfl)) rfl
theorem qs_X12_rules : Cond.selects (yX12_rules).cls yX12_rules yX12_rules ∈ gw := tbt (tb8 (List.mem_of_getElem? (i := 60) rfl)) rfl
theorem ci_X12_rules : CIv yX12_rules cX12_rules 3 (some .int) 2 := ⟨qc_X12_rules, qi_yX12_rules, qs_X12_rules, qz_X12, by decide +kernel⟩
theorem qm_L_189 : Cond.methodLink RL 189 yX12_rules ∈ gw := tbt (tb8 (List.mem_of_getElem? (i := 58) rfl)) rfl
theorem qc_X11_ruled : Cond.code yX11_ruled cX11_ruled 5 (some .int) ∈ gw := tbt (tb5 (List.mem_of_getElem? (i := 18) rfl)) rfl
theorem qi_yX11_ruled : Cond.instanceMethod yX11_ruled ∈ gw := tbt (tb5 (List.mem_of_getElem? (i := 16) rfl)) rfl
theorem qs_X11_ruled : Cond.selects (yX11_ruled).cls yX11_ruled yX11_ruled ∈ gw := tbt (tb5 (List.mem_of_getElem? (i := 17) rfl)) rfl
theorem ci_X11_ruled : CIv yX11_ruled cX11_ruled 5 (some .int) 2 := ⟨qc_X11_ruled, qi_yX11_ruled, qs_X11_ruled, qz_X11, by decide +kernel⟩
theorem qm_L_190 : Cond.methodLink RL 190 yX11_ruled ∈ gw := tbt (tb5 (List.mem_of_getElem? (i := 15) rfl)) rfl
theorem qc_X12_ruled : Cond.code yX12_ruled cX12_ruled 5 (some .int) ∈ gw := tbt (tb8 (List.mem_of_getElem? (i := 77) rfl)) rfl
theorem qi_yX12_ruled : Cond.instanceMethod yX12_ruled ∈ gw := tbt (tb8 (List.mem_of_getElem? (i := 75) rfl)) rfl
theorem qs_X12_ruled : Cond.selects (yX12_ruled).cls yX12_ruled yX12_ruled ∈ gw := tbt (tb8 (List.mem_of_getElem? (i := 76) rfl)) rfl
theorem ci_X12_ruled : CIv yX12_ruled cX12_ruled 5 (some .int) 2 := ⟨qc_X12_ruled, qi_yX12_ruled, qs_X12_ruled, qz_X12, by decide +kernel⟩
theorem qm_L_193 : Cond.methodLink RL 193 yX12_ruled ∈ gw := tbt (tb8 (List.mem_of_getElem? (i := 74) rfl)) rfl
theorem qc_X11_before : Cond.code yX11_before cX11_before 6 (some .int) ∈ gw := tbt (tb5 (List.mem_of_getElem? (i := 22) rfl)) rfl
theorem qi_yX11_before : Cond.instanceMethod yX11_before ∈ gw := tbt (tb5 (List.mem_of_getElem? (i := 20) rfl)) rfl
theorem qs_X11_before : Cond.selects (yX11_before).cls yX11_before yX11_before ∈ gw := tbt (tb5 (List.mem_of_getElem? (i := 21) rfl)) rfl
theorem ci_X11_before : CIv yX11_before cX11_before 6 (some .int) 3 := ⟨qc_X11_before, qi_yX11_before, qs_X11_before, qz_X11, by decide +kernel⟩
theorem qm_L_194 : Cond.methodLink RL 194 yX11_before ∈ gw := tbt (tb5 (List.mem_of_getElem? (i := 19) rfl)) rfl
theorem qc_X12_before : Cond.code yX12_before cX12_before 6 (some .int) ∈ gw := tbt (tb8 (List.mem_of_getElem? (i := 81) rfl)) rfl
theorem qi_yX12_before : Cond.instanceMethod yX12_before ∈ gw := tbt (tb8 (List.mem_of_getElem? (i := 79) rfl)) rfl
theorem qs_X12_before : Cond.selects (yX12_before).cls yX12_before yX12_before ∈ gw := tbt (tb8 (List.mem_of_getElem? (i := 80) rfl)) rfl
theorem ci_X12_before : CIv yX12_before cX12_before 6 (some .int) 3 := ⟨qc_X12_before, qi_yX12_before, qs_X12_before, qz_X12, by decide +kernel⟩
theorem qm_L_197 : Cond.methodLink RL 197 yX12_before ∈ gw := tbt (tb8 (List.mem_of_getElem? (i := 78) rfl)) rfl
theorem qc_X11_oneForAll : Cond.code yX11_oneForAll cX11_oneForAll 3 (some .int) ∈ gw := tbt (tb5 (List.mem_of_getElem? (i := 30) rfl)) rfl
theorem qi_yX11_oneForAll : Cond.instanceMethod yX11_oneForAll ∈ gw := tbt (tb5 (List.mem_of_getElem? (i := 28) rfl)) rfl
theorem qs_X11_oneForAll : Cond.selects (yX11_oneForAll).cls yX11_oneForAll yX11_oneForAll ∈ gw := tbt (tb5 (List.mem_of_getElem? (i := 29) rfl)) rfl
theorem ci_X11_oneForAll : CIv yX11_oneForAll cX11_oneForAll 3 (some .int) 2 := ⟨qc_X11_oneForAll, qi_yX11_oneForAll, qs_X11_oneForAll, qz_X11, by decide +kernel⟩
theorem qm_L_198 : Cond.methodLink RL 198 yX11_oneForAll ∈ gw := tbt (tb5 (List.mem_of_getElem? (i := 27) rfl)) rfl
theorem qc_X12_oneForAll : Cond.code yX12_oneForAll cX12_oneForAll 3 (some .int) ∈ gw := tbt (tb8 (List.mem_of_getElem? (i := 89) rfl)) rfl
theorem qi_yX12_oneForAll : Cond.instanceMethod yX12_oneForAll ∈ gw := tbt (tb8 (List.mem_of_getElem? (i := 87) rfl)) rfl
theorem qs_X12_oneForAll : Cond.selects (yX12_oneForAll).cls yX12_oneForAll yX12_oneForAll ∈ gw := tbt (tb8 (List.mem_of_getElem? (i := 88) rfl)) rfl
theorem ci_X12_oneForAll : CIv yX12_oneForAll cX12_oneForAll 3 (some .int) 2 := ⟨qc_X12_oneForAll, qi_yX12_oneForAll, qs_X12_oneForAll, qz_X12, by decide +kernel⟩
theorem qm_L_201 : Cond.methodLink RL 201 yX12_oneForAll ∈ gw := tbt (tb8 (List.mem_of_getElem? (i := 86) rfl)) rfl
theorem qc_X11_disputes : Cond.code yX11_disputes cX11_disputes 4 (some .int) ∈ gw := tbt (tb5 (List.mem_of_getElem? (i := 41) rfl)) rfl
theorem qi_yX11_disputes : Cond.instanceMethod yX11_disputes ∈ gw := tbt (tb5 (List.mem_of_getElem? (i := 39) rfl)) rfl
theorem qs_X11_disputes : Cond.selects (yX11_disputes).cls yX11_disputes yX11_disputes ∈ gw := tbt (tb5 (List.mem_of_getElem? (i := 40) rfl)) rfl
theorem ci_X11_disputes : CIv yX11_disputes cX11_disputes 4 (some .int) 0 := ⟨qc_X11_disputes, qi_yX11_disputes, qs_X11_disputes, qz_X11, by decide +kernel⟩
theorem qm_L_202 : Cond.methodLink RL 202 yX11_disputes ∈ gw := tbt (tb5 (List.mem_of_getElem? (i := 38) rfl)) rfl
theorem qc_X12_disputes : Cond.code yX12_disputes cX12_disputes 4 (some .int) ∈ gw := tbt (tb8 (List.mem_of_getElem? (i := 97) rfl)) rfl
theorem qi_yX12_disputes : Cond.instanceMethod yX12_disputes ∈ gw := tbt (tb8 (List.mem_of_getElem? (i := 95) rfl)) rfl
theorem qs_X12_disputes : Cond.selects (yX12_disputes).cls yX12_disputes yX12_disputes ∈ gw := tbt (tb8 (List.mem_of_getElem? (i := 96) rfl)) rfl
theorem ci_X12_disputes : CIv yX12_disputes cX12_disputes 4 (some .int) 0 := ⟨qc_X12_disputes, qi_yX12_disputes, qs_X12_disputes, qz_X12, by decide +kernel⟩
theorem qm_L_205 : Cond.methodLink RL 205 yX12_disputes ∈ gw := tbt (tb8 (List.mem_of_getElem? (i := 94) rfl)) rfl
theorem qc_X11_peace : Cond.code yX11_peace cX11_peace 3 (some .int) ∈ gw := tbt (tb5 (List.mem_of_getElem? (i := 45) rfl)) rfl
theorem qi_yX11_peace : Cond.instanceMethod yX11_peace ∈ gw := tbt (tb5 (List.mem_of_getElem? (i := 43) rfl)) rfl
theorem qs_X11_peace : Cond.selects (yX11_peace).cls yX11_peace yX11_peace ∈ gw := tbt (tb5 (List.mem_of_getElem? (i := 44) rfl)) rfl
theorem ci_X11_peace : CIv yX11_peace cX11_peace 3 (some .int) 1 := ⟨qc_X11_peace, qi_yX11_peace, qs_X11_peace, qz_X11, by decide +kernel⟩
theorem qm_L_206 : Cond.methodLink RL 206 yX11_peace ∈ gw := tbt (tb5 (List.mem_of_getElem? (i := 42) rfl)) rfl
theorem qc_X12_peace : Cond.code yX12_peace cX12_peace 5 (some .int) ∈ gw := tbt (tb8 (List.mem_of_getElem? (i := 101) rfl)) rfl
theorem qi_yX12_peace : Cond.instanceMethod yX12_peace ∈ gw := tbt (tb8 (List.mem_of_getElem? (i := 99) rfl)) rfl
theorem qs_X12_peace : Cond.selects (yX12_peace).cls yX12_peace yX12_peace ∈ gw := tbt (tb8 (List.mem_of_getElem? (i := 100) rfl)) rfl
theorem ci_X12_peace : CIv yX12_peace cX12_peace 5 (some .int) 1 := ⟨qc_X12_peace, qi_yX12_peace, qs_X12_peace, qz_X12, by decide +kernel⟩
theorem qm_L_209 : Cond.methodLink RL 209 yX12_peace ∈ gw := tbt (tb8 (List.mem_of_getElem? (i := 98) rfl)) rfl
theorem qc_X11_kth : Cond.code yX11_kth cX11_kth 5 (some .int) ∈ gw := tbt (tb5 (List.mem_of_getElem? (i := 54) rfl)) rfl
theorem qi_yX11_kth : Cond.instanceMethod yX11_kth ∈ gw := tbt (tb5 (List.mem_of_getElem? (i := 52) rfl)) rfl
theorem qs_X11_kth : Cond.selects (yX11_kth).cls yX11_kth yX11_kth ∈ gw := tbt (tb5 (List.mem_of_getElem? (i := 53) rfl)) rfl
theorem ci_X11_kth : CIv yX11_kth cX11_kth 5 (some .int) 2 := ⟨qc_X11_kth, qi_yX11_kth, qs_X11_kth, qz_X11, by decide +kernel⟩
theorem qm_L_210 : Cond.methodLink RL 210 yX11_kth ∈ gw := tbt (tb5 (List.mem_of_getElem? (i := 51) rfl)) rfl
theorem qc_X12_kth : Cond.code yX12_kth cX12_kth 7 (some .int) ∈ gw := tbt (tb8 (List.mem_of_getElem? (i := 117) rfl)) rfl
theorem qi_yX12_kth : Cond.instanceMethod yX12_kth ∈ gw := tbt (tb8 (List.mem_of_getElem? (i := 115) rfl)) rfl
theorem qs_X12_kth : Cond.selects (yX12_kth).cls yX12_kth yX12_kth ∈ gw := tbt (tb8 (List.mem_of_getElem? (i := 116) rfl)) rfl
theorem ci_X12_kth : CIv yX12_kth cX12_kth 7 (some .int) 2 := ⟨qc_X12_kth, qi_yX12_kth, qs_X12_kth, qz_X12, by decide +kernel⟩
theorem qm_L_213 : Cond.methodLink RL 213 yX12_kth ∈ gw := tbt (tb8 (List.mem_of_getElem? (i := 114) rfl)) rfl
theorem qc_X11_reign : Cond.code yX11_reign cX11_reign 5 (some .int) ∈ gw := tbt (tb5 (List.mem_of_getElem? (i := 63) rfl)) rfl
theorem qi_yX11_reign : Cond.instanceMethod yX11_reign ∈ gw := tbt (tb5 (List.mem_of_getElem? (i := 61) rfl)) rfl
theorem qs_X11_reign : Cond.selects (yX11_reign).cls yX11_reign yX11_reign ∈ gw := tbt (tb5 (List.mem_of_getElem? (i := 62) rfl)) rfl
theorem ci_X11_reign : CIv yX11_reign cX11_reign 5 (some .int) 2 := ⟨qc_X11_reign, qi_yX11_reign, qs_X11_reign, qz_X11, by decide +kernel⟩
theorem qm_L_214 : Cond.methodLink RL 214 yX11_reign ∈ gw := tbt (tb5 (List.mem_of_getElem? (i := 60) rfl)) rfl
theorem qc_X12_reign : Cond.code yX12_reign cX12_reign 3 (some .int) ∈ gw := tbt (tb8 (List.mem_of_getElem? (i := 105) rfl)) rfl
theorem qi_yX12_reign : Cond.instanceMethod yX12_reign ∈ gw := tbt (tb8 (List.mem_of_getElem? (i := 103) rfl)) rfl
theorem qs_X12_reign : Cond.selects (yX12_reign).cls yX12_reign yX12_reign ∈ gw := tbt (tb8 (List.mem_of_getElem? (i := 104) rfl)) rfl
theorem ci_X12_reign : CIv yX12_reign cX12_reign 3 (some .int) 2 := ⟨qc_X12_reign, qi_yX12_reign, qs_X12_reign, qz_X12, by decide +kernel⟩
theorem qm_L_217 : Cond.methodLink RL 217 yX12_reign ∈ gw := tbt (tb8 (List.mem_of_getElem? (i := 102) rfl)) rfl
theorem dL_law_1784 : decode cL_law 1784 = .ok (.aload_n 1, 1) := fq1_43 (fl_27 (j := 56) rfl rfl)
theorem dL_law_1785 : decode cL_law 1785 = .ok (.aload_n 0, 1) := fq1_42 (fl_27 (j := 57) rfl rfl)
theorem dL_law_1786 : decode cL_law 1786 = .ok (.iload_n 3, 1) := fq1_29 (fl_27 (j := 58) rfl rfl)
theorem dL_law_1787 : decode cL_law 1787 = .ok (.iconst 1, 1) := fq1_4 (fl_27 (j := 59) rfl rfl)
theorem dL_law_1788 : decode cL_law 1788 = .ok (.iadd, 1) := fq1_96 (fl_27 (j := 60) rfl rfl)
theorem dL_law_1789 : decode cL_law 1789 = .ok (.iaload, 1) := fq1_46 (fl_27 (j := 61) rfl rfl)
theorem dL_law_1790 : decode cL_law 1790 = .ok (.aload_n 0, 1) := fq1_42 (fl_27 (j := 62) rfl rfl)
theorem dL_law_1791 : decode cL_law 1791 = .ok (.iload_n 3, 1) := fq1_29 (fl_27 (j := 63) rfl rfl)
theorem dL_law_1792 : decode cL_law 1792 = .ok (.iconst 2, 1) := fq1_5 (fl_28 (j := 0) rfl rfl)
theorem dL_law_1793 : decode cL_law 1793 = .ok (.iadd, 1) := fq1_96 (fl_28 (j := 1) rfl rfl)
theorem dL_law_1794 : decode cL_law 1794 = .ok (.iaload, 1) := fq1_46 (fl_28 (j := 2) rfl rfl)
theorem dL_law_1795 : decode cL_law 1795 = .ok (.invokevirtual 186, 3) := fq3_182 (fl_28 (j := 3) rfl rfl) (fl_28 (j := 4) rfl rfl) (fl_28 (j := 5) rfl rfl) rfl
theorem dL_law_1798 : decode cL_law 1798 = .ok (.pop, 1) := fq1_87 (fl_28 (j := 6) rfl rfl)
theorem dL_law_1799 : decode cL_law 1799 = .ok (.aload_n 2, 1) := fq1_44 (fl_28 (j := 7) rfl rfl)
theorem dL_law_1800 : decode cL_law 1800 = .ok (.aload_n 0, 1) := fq1_42 (fl_28 (j := 8) rfl rfl)
theorem dL_law_1801 : decode cL_law 1801 = .ok (.iload_n 3, 1) := fq1_29 (fl_28 (j := 9) rfl rfl)
theorem dL_law_1802 : decode cL_law 1802 = .ok (.iconst 1, 1) := fq1_4 (fl_28 (j := 10) rfl rfl)
theorem dL_law_1803 : decode cL_law 1803 = .ok (.iadd, 1) := fq1_96 (fl_28 (j := 11) rfl rfl)
theorem dL_law_1804 : decode cL_law 1804 = .ok (.iaload, 1) := fq1_46 (fl_28 (j := 12) rfl rfl)
theorem dL_law_1805 : decode cL_law 1805 = .ok (.aload_n 0, 1) := fq1_42 (fl_28 (j := 13) rfl rfl)
theorem dL_law_1806 : decode cL_law 1806 = .ok (.iload_n 3, 1) := fq1_29 (fl_28 (j := 14) rfl rfl)
theorem dL_law_1807 : decode cL_law 1807 = .ok (.iconst 2, 1) := fq1_5 (fl_28 (j := 15) rfl rfl)
theorem dL_law_1808 : decode cL_law 1808 = .ok (.iadd, 1) := fq1_96 (fl_28 (j := 16) rfl rfl)
theorem dL_law_1809 : decode cL_law 1809 = .ok (.iaload, 1) := fq1_46 (fl_28 (j := 17) rfl rfl)
theorem dL_law_1810 : decode cL_law 1810 = .ok (.invokevirtual 189, 3) := fq3_182 (fl_28 (j := 18) rfl rfl) (fl_28 (j := 19) rfl rfl) (fl_28 (j := 20) rfl rfl) rfl
theorem dL_law_1813 : decode cL_law 1813 = .ok (.pop, 1) := fq1_87 (fl_28 (j := 21) rfl rfl)
theorem dL_law_1814 : decode cL_law 1814 = .ok (.goto 1032, 3) := fq3_167 (fl_28 (j := 22) rfl rfl) (fl_28 (j := 23) rfl rfl) (fl_28 (j := 24) rfl rfl) (s2p rfl (bl rfl))
theorem dL_law_1817 : decode cL_law 1817 = .ok (.aload_n 1, 1) := fq1_43 (fl_28 (j := 25) rfl rfl)
theorem dL_law_1818 : decode cL_law 1818 = .ok (.aload_n 0, 1) := fq1_42 (fl_28 (j := 26) rfl rfl)
theorem dL_law_1819 : decode cL_law 1819 = .ok (.iload_n 3, 1) := fq1_29 (fl_28 (j := 27) rfl rfl)
theorem dL_law_1820 : decode cL_law 1820 = .ok (.iconst 1, 1) := fq1_4 (fl_28 (j := 28) rfl rfl)
theorem dL_law_1821 : decode cL_law 1821 = .ok (.iadd, 1) := fq1_96 (fl_28 (j := 29) rfl rfl)
theorem dL_law_1822 : decode cL_law 1822 = .ok (.iaload, 1) := fq1_46 (fl_28 (j := 30) rfl rfl)
theorem dL_law_1823 : decode cL_law 1823 = .ok (.aload_n 0, 1) := fq1_42 (fl_28 (j := 31) rfl rfl)
theorem dL_law_1824 : decode cL_law 1824 = .ok (.iload_n 3, 1) := fq1_29 (fl_28 (j := 32) rfl rfl)
theorem dL_law_1825 : decode cL_law 1825 = .ok (.iconst 2, 1) := fq1_5 (fl_28 (j := 33) rfl rfl)
theorem dL_law_1826 : decode cL_law 1826 = .ok (.iadd, 1) := fq1_96 (fl_28 (j := 34) rfl rfl)
theorem dL_law_1827 : decode cL_law 1827 = .ok (.iaload, 1) := fq1_46 (fl_28 (j := 35) rfl rfl)
theorem dL_law_1828 : decode cL_law 1828 = .ok (.invokevirtual 190, 3) := fq3_182 (fl_28 (j := 36) rfl rfl) (fl_28 (j := 37) rfl rfl) (fl_28 (j := 38) rfl rfl) rfl
theorem dL_law_1831 : decode cL_law 1831 = .ok (.pop, 1) := fq1_87 (fl_28 (j := 39) rfl rfl)
theorem dL_law_1832 : decode cL_law 1832 = .ok (.aload_n 2, 1) := fq1_44 (fl_28 (j := 40) rfl rfl)
theorem dL_law_1833 : decode cL_law 1833 = .ok (.aload_n 0, 1) := fq1_42 (fl_28 (j := 41) rfl rfl)
theorem dL_law_1834 : decode cL_law 1834 = .ok (.iload_n 3, 1) := fq1_29 (fl_28 (j := 42) rfl rfl)
theorem dL_law_1835 : decode cL_law 1835 = .ok (.iconst 1, 1) := fq1_4 (fl_28 (j := 43) rfl rfl)
theorem dL_law_1836 : decode cL_law 1836 = .ok (.iadd, 1) := fq1_96 (fl_28 (j := 44) rfl rfl)
theorem dL_law_1837 : decode cL_law 1837 = .ok (.iaload, 1) := fq1_46 (fl_28 (j := 45) rfl rfl)
theorem dL_law_1838 : decode cL_law 1838 = .ok (.aload_n 0, 1) := fq1_42 (fl_28 (j := 46) rfl rfl)
theorem dL_law_1839 : decode cL_law 1839 = .ok (.iload_n 3, 1) := fq1_29 (fl_28 (j := 47) rfl rfl)
theorem dL_law_1840 : decode cL_law 1840 = .ok (.iconst 2, 1) := fq1_5 (fl_28 (j := 48) rfl rfl)
theorem dL_law_1841 : decode cL_law 1841 = .ok (.iadd, 1) := fq1_96 (fl_28 (j := 49) rfl rfl)
theorem dL_law_1842 : decode cL_law 1842 = .ok (.iaload, 1) := fq1_46 (fl_28 (j := 50) rfl rfl)
theorem dL_law_1843 : decode cL_law 1843 = .ok (.invokevirtual 193, 3) := fq3_182 (fl_28 (j := 51) rfl rfl) (fl_28 (j := 52) rfl rfl) (fl_28 (j := 53) rfl rfl) rfl
theorem dL_law_1846 : decode cL_law 1846 = .ok (.pop, 1) := fq1_87 (fl_28 (j := 54) rfl rfl)
theorem dL_law_1847 : decode cL_law 1847 = .ok (.goto 999, 3) := fq3_167 (fl_28 (j := 55) rfl rfl) (fl_28 (j := 56) rfl rfl) (fl_28 (j := 57) rfl rfl) (s2p rfl (bl rfl))
theorem dL_law_1850 : decode cL_law 1850 = .ok (.aload_n 1, 1) := fq1_43 (fl_28 (j := 58) rfl rfl)
theorem dL_law_1851 : decode cL_law 1851 = .ok (.aload_n 0, 1) := fq1_42 (fl_28 (j := 59) rfl rfl)
theorem dL_law_1852 : decode cL_law 1852 = .ok (.iload_n 3, 1) := fq1_29 (fl_28 (j := 60) rfl rfl)
theorem dL_law_1853 : decode cL_law 1853 = .ok (.iconst 1, 1) := fq1_4 (fl_28 (j := 61) rfl rfl)
theorem dL_law_1854 : decode cL_law 1854 = .ok (.iadd, 1) := fq1_96 (fl_28 (j := 62) rfl rfl)
theorem dL_law_1855 : decode cL_law 1855 = .ok (.iaload, 1) := fq1_46 (fl_28 (j := 63) rfl rfl)
theorem dL_law_1856 : decode cL_law 1856 = .ok (.aload_n 0, 1) := fq1_42 (fl_29 (j := 0) rfl rfl)
theorem dL_law_1857 : decode cL_law 1857 = .ok (.iload_n 3, 1) := fq1_29 (fl_29 (j := 1) rfl rfl)
theorem dL_law_1858 : decode cL_law 1858 = .ok (.iconst 2, 1) := fq1_5 (fl_29 (j := 2) rfl rfl)
theorem dL_law_1859 : decode cL_law 1859 = .ok (.iadd, 1) := fq1_96 (fl_29 (j := 3) rfl rfl)
theorem dL_law_1860 : decode cL_law 1860 = .ok (.iaload, 1) := fq1_46 (fl_29 (j := 4) rfl rfl)
theorem dL_law_1861 : decode cL_law 1861 = .ok (.aload_n 0, 1) := fq1_42 (fl_29 (j := 5) rfl rfl)
theorem dL_law_1862 : decode cL_law 1862 = .ok (.iload_n 3, 1) := fq1_29 (fl_29 (j := 6) rfl rfl)
theorem dL_law_1863 : decode cL_law 1863 = .ok (.iconst 3, 1) := fq1_6 (fl_29 (j := 7) rfl rfl)
theorem dL_law_1864 : decode cL_law 1864 = .ok (.iadd, 1) := fq1_96 (fl_29 (j := 8) rfl rfl)
theorem dL_law_1865 : decode cL_law 1865 = .ok (.iaload, 1) := fq1_46 (fl_29 (j := 9) rfl rfl)
theorem dL_law_1866 : decode cL_law 1866 = .ok (.invokevirtual 194, 3) := fq3_182 (fl_29 (j := 10) rfl rfl) (fl_29 (j := 11) rfl rfl) (fl_29 (j := 12) rfl rfl) rfl
theorem dL_law_1869 : decode cL_law 1869 = .ok (.pop, 1) := fq1_87 (fl_29 (j := 13) rfl rfl)
theorem dL_law_1870 : decode cL_law 1870 = .ok (.aload_n 2, 1) := fq1_44 (fl_29 (j := 14) rfl rfl)
theorem dL_law_1871 : decode cL_law 1871 = .ok (.aload_n 0, 1) := fq1_42 (fl_29 (j := 15) rfl rfl)
theorem dL_law_1872 : decode cL_law 1872 = .ok (.iload_n 3, 1) := fq1_29 (fl_29 (j := 16) rfl rfl)
theorem dL_law_1873 : decode cL_law 1873 = .ok (.iconst 1, 1) := fq1_4 (fl_29 (j := 17) rfl rfl)
theorem dL_law_1874 : decode cL_law 1874 = .ok (.iadd, 1) := fq1_96 (fl_29 (j := 18) rfl rfl)
theorem dL_law_1875 : decode cL_law 1875 = .ok (.iaload, 1) := fq1_46 (fl_29 (j := 19) rfl rfl)
theorem dL_law_1876 : decode cL_law 1876 = .ok (.aload_n 0, 1) := fq1_42 (fl_29 (j := 20) rfl rfl)
theorem dL_law_1877 : decode cL_law 1877 = .ok (.iload_n 3, 1) := fq1_29 (fl_29 (j := 21) rfl rfl)
theorem dL_law_1878 : decode cL_law 1878 = .ok (.iconst 2, 1) := fq1_5 (fl_29 (j := 22) rfl rfl)
theorem dL_law_1879 : decode cL_law 1879 = .ok (.iadd, 1) := fq1_96 (fl_29 (j := 23) rfl rfl)
theorem dL_law_1880 : decode cL_law 1880 = .ok (.iaload, 1) := fq1_46 (fl_29 (j := 24) rfl rfl)
theorem dL_law_1881 : decode cL_law 1881 = .ok (.aload_n 0, 1) := fq1_42 (fl_29 (j := 25) rfl rfl)
theorem dL_law_1882 : decode cL_law 1882 = .ok (.iload_n 3, 1) := fq1_29 (fl_29 (j := 26) rfl rfl)
theorem dL_law_1883 : decode cL_law 1883 = .ok (.iconst 3, 1) := fq1_6 (fl_29 (j := 27) rfl rfl)
theorem dL_law_1884 : decode cL_law 1884 = .ok (.iadd, 1) := fq1_96 (fl_29 (j := 28) rfl rfl)
theorem dL_law_1885 : decode cL_law 1885 = .ok (.iaload, 1) := fq1_46 (fl_29 (j := 29) rfl rfl)
theorem dL_law_1886 : decode cL_law 1886 = .ok (.invokevirtual 197, 3) := fq3_182 (fl_29 (j := 30) rfl rfl) (fl_29 (j := 31) rfl rfl) (fl_29 (j := 32) rfl rfl) rfl
theorem dL_law_1889 : decode cL_law 1889 = .ok (.pop, 1) := fq1_87 (fl_29 (j := 33) rfl rfl)
theorem dL_law_1890 : decode cL_law 1890 = .ok (.goto 956, 3) := fq3_167 (fl_29 (j := 34) rfl rfl) (fl_29 (j := 35) rfl rfl) (fl_29 (j := 36) rfl rfl) (s2p rfl (bl rfl))
theorem dL_law_1893 : decode cL_law 1893 = .ok (.aload_n 1, 1) := fq1_43 (fl_29 (j := 37) rfl rfl)
theorem dL_law_1894 : decode cL_law 1894 = .ok (.aload_n 0, 1) := fq1_42 (fl_29 (j := 38) rfl rfl)
theorem dL_law_1895 : decode cL_law 1895 = .ok (.iload_n 3, 1) := fq1_29 (fl_29 (j := 39) rfl rfl)
theorem dL_law_1896 : decode cL_law 1896 = .ok (.iconst 1, 1) := fq1_4 (fl_29 (j := 40) rfl rfl)
theorem dL_law_1897 : decode cL_law 1897 = .ok (.iadd, 1) := fq1_96 (fl_29 (j := 41) rfl rfl)
theorem dL_law_1898 : decode cL_law 1898 = .ok (.iaload, 1) := fq1_46 (fl_29 (j := 42) rfl rfl)
theorem dL_law_1899 : decode cL_law 1899 = .ok (.aload_n 0, 1) := fq1_42 (fl_29 (j := 43) rfl rfl)
theorem dL_law_1900 : decode cL_law 1900 = .ok (.iload_n 3, 1) := fq1_29 (fl_29 (j := 44) rfl rfl)
theorem dL_law_1901 : decode cL_law 1901 = .ok (.iconst 2, 1) := fq1_5 (fl_29 (j := 45) rfl rfl)
theorem dL_law_1902 : decode cL_law 1902 = .ok (.iadd, 1) := fq1_96 (fl_29 (j := 46) rfl rfl)
theorem dL_law_1903 : decode cL_law 1903 = .ok (.iaload, 1) := fq1_46 (fl_29 (j := 47) rfl rfl)
theorem dL_law_1904 : decode cL_law 1904 = .ok (.invokevirtual 198, 3) := fq3_182 (fl_29 (j := 48) rfl rfl) (fl_29 (j := 49) rfl rfl) (fl_29 (j := 50) rfl rfl) rfl
theorem dL_law_1907 : decode cL_law 1907 = .ok (.pop, 1) := fq1_87 (fl_29 (j := 51) rfl rfl)
theorem dL_law_1908 : decode cL_law 1908 = .ok (.aload_n 2, 1) := fq1_44 (fl_29 (j := 52) rfl rfl)
theorem dL_law_1909 : decode cL_law 1909 = .ok (.aload_n 0, 1) := fq1_42 (fl_29 (j := 53) rfl rfl)
theorem dL_law_1910 : decode cL_law 1910 = .ok (.iload_n 3, 1) := fq1_29 (fl_29 (j := 54) rfl rfl)
theorem dL_law_1911 : decode cL_law 1911 = .ok (.iconst 1, 1) := fq1_4 (fl_29 (j := 55) rfl rfl)
theorem dL_law_1912 : decode cL_law 1912 = .ok (.iadd, 1) := fq1_96 (fl_29 (j := 56) rfl rfl)
theorem dL_law_1913 : decode cL_law 1913 = .ok (.iaload, 1) := fq1_46 (fl_29 (j := 57) rfl rfl)
theorem dL_law_1914 : decode cL_law 1914 = .ok (.aload_n 0, 1) := fq1_42 (fl_29 (j := 58) rfl rfl)
theorem dL_law_1915 : decode cL_law 1915 = .ok (.iload_n 3, 1) := fq1_29 (fl_29 (j := 59) rfl rfl)
theorem dL_law_1916 : decode cL_law 1916 = .ok (.iconst 2, 1) := fq1_5 (fl_29 (j := 60) rfl rfl)
theorem dL_law_1917 : decode cL_law 1917 = .ok (.iadd, 1) := fq1_96 (fl_29 (j := 61) rfl rfl)
theorem dL_law_1918 : decode cL_law 1918 = .ok (.iaload, 1) := fq1_46 (fl_29 (j := 62) rfl rfl)
theorem dL_law_1919 : decode cL_law 1919 = .ok (.invokevirtual 201, 3) := fq3_182 (fl_29 (j := 63) rfl rfl) (fl_30 (j := 0) rfl rfl) (fl_30 (j := 1) rfl rfl) rfl
theorem dL_law_1922 : decode cL_law 1922 = .ok (.pop, 1) := fq1_87 (fl_30 (j := 2) rfl rfl)
theorem dL_law_1923 : decode cL_law 1923 = .ok (.goto 923, 3) := fq3_167 (fl_30 (j := 3) rfl rfl) (fl_30 (j := 4) rfl rfl) (fl_30 (j := 5) rfl rfl) (s2p rfl (bl rfl))
theorem dL_law_1926 : decode cL_law 1926 = .ok (.aload_n 1, 1) := fq1_43 (fl_30 (j := 6) rfl rfl)
theorem dL_law_1927 : decode cL_law 1927 = .ok (.invokevirtual 202, 3) := fq3_182 (fl_30 (j := 7) rfl rfl) (fl_30 (j := 8) rfl rfl) (fl_30 (j := 9) rfl rfl) rfl
theorem dL_law_1930 : decode cL_law 1930 = .ok (.pop, 1) := fq1_87 (fl_30 (j := 10) rfl rfl)
theorem dL_law_1931 : decode cL_law 1931 = .ok (.aload_n 2, 1) := fq1_44 (fl_30 (j := 11) rfl rfl)
theorem dL_law_1932 : decode cL_law 1932 = .ok (.invokevirtual 205, 3) := fq3_182 (fl_30 (j := 12) rfl rfl) (fl_30 (j := 13) rfl rfl) (fl_30 (j := 14) rfl rfl) rfl
theorem dL_law_1935 : decode cL_law 1935 = .ok (.pop, 1) := fq1_87 (fl_30 (j := 15) rfl rfl)
theorem dL_law_1936 : decode cL_law 1936 = .ok (.goto 910, 3) := fq3_167 (fl_30 (j := 16) rfl rfl) (fl_30 (j := 17) rfl rfl) (fl_30 (j := 18) rfl rfl) (s2p rfl (bl rfl))
theorem dL_law_1939 : decode cL_law 1939 = .ok (.aload_n 1, 1) := fq1_43 (fl_30 (j := 19) rfl rfl)
theorem dL_law_1940 : decode cL_law 1940 = .ok (.aload_n 0, 1) := fq1_42 (fl_30 (j := 20) rfl rfl)
theorem dL_law_1941 : decode cL_law 1941 = .ok (.iload_n 3, 1) := fq1_29 (fl_30 (j := 21) rfl rfl)
theorem dL_law_1942 : decode cL_law 1942 = .ok (.iconst 1, 1) := fq1_4 (fl_30 (j := 22) rfl rfl)
theorem dL_law_1943 : decode cL_law 1943 = .ok (.iadd, 1) := fq1_96 (fl_30 (j := 23) rfl rfl)
theorem dL_law_1944 : decode cL_law 1944 = .ok (.iaload, 1) := fq1_46 (fl_30 (j := 24) rfl rfl)
theorem dL_law_1945 : decode cL_law 1945 = .ok (.invokevirtual 206, 3) := fq3_182 (fl_30 (j := 25) rfl rfl) (fl_30 (j := 26) rfl rfl) (fl_30 (j := 27) rfl rfl) rfl
theorem dL_law_1948 : decode cL_law 1948 = .ok (.pop, 1) := fq1_87 (fl_30 (j := 28) rfl rfl)
theorem dL_law_1949 : decode cL_law 1949 = .ok (.aload_n 2, 1) := fq1_44 (fl_30 (j := 29) rfl rfl)
theorem dL_law_1950 : decode cL_law 1950 = .ok (.aload_n 0, 1) := fq1_42 (fl_30 (j := 30) rfl rfl)
theorem dL_law_1951 : decode cL_law 1951 = .ok (.iload_n 3, 1) := fq1_29 (fl_30 (j := 31) rfl rfl)
theorem dL_law_1952 : decode cL_law 1952 = .ok (.iconst 1, 1) := fq1_4 (fl_30 (j := 32) rfl rfl)
theorem dL_law_1953 : decode cL_law 1953 = .ok (.iadd, 1) := fq1_96 (fl_30 (j := 33) rfl rfl)
theorem dL_law_1954 : decode cL_law 1954 = .ok (.iaload, 1) := fq1_46 (fl_30 (j := 34) rfl rfl)
theorem dL_law_1955 : decode cL_law 1955 = .ok (.invokevirtual 209, 3) := fq3_182 (fl_30 (j := 35) rfl rfl) (fl_30 (j := 36) rfl rfl) (fl_30 (j := 37) rfl rfl) rfl
theorem dL_law_1958 : decode cL_law 1958 = .ok (.pop, 1) := fq1_87 (fl_30 (j := 38) rfl rfl)
theorem dL_law_1959 : decode cL_law 1959 = .ok (.goto 887, 3) := fq3_167 (fl_30 (j := 39) rfl rfl) (fl_30 (j := 40) rfl rfl) (fl_30 (j := 41) rfl rfl) (s2p rfl (bl rfl))
theorem dL_law_1962 : decode cL_law 1962 = .ok (.aload_n 1, 1) := fq1_43 (fl_30 (j := 42) rfl rfl)
theorem dL_law_1963 : decode cL_law 1963 = .ok (.aload_n 0, 1) := fq1_42 (fl_30 (j := 43) rfl rfl)
theorem dL_law_1964 : decode cL_law 1964 = .ok (.iload_n 3, 1) := fq1_29 (fl_30 (j := 44) rfl rfl)
theorem dL_law_1965 : decode cL_law 1965 = .ok (.iconst 1, 1) := fq1_4 (fl_30 (j := 45) rfl rfl)
theorem dL_law_1966 : decode cL_law 1966 = .ok (.iadd, 1) := fq1_96 (fl_30 (j := 46) rfl rfl)
theorem dL_law_1967 : decode cL_law 1967 = .ok (.iaload, 1) := fq1_46 (fl_30 (j := 47) rfl rfl)
theorem dL_law_1968 : decode cL_law 1968 = .ok (.aload_n 0, 1) := fq1_42 (fl_30 (j := 48) rfl rfl)
theorem dL_law_1969 : decode cL_law 1969 = .ok (.iload_n 3, 1) := fq1_29 (fl_30 (j := 49) rfl rfl)
theorem dL_law_1970 : decode cL_law 1970 = .ok (.iconst 2, 1) := fq1_5 (fl_30 (j := 50) rfl rfl)
theorem dL_law_1971 : decode cL_law 1971 = .ok (.iadd, 1) := fq1_96 (fl_30 (j := 51) rfl rfl)
theorem dL_law_1972 : decode cL_law 1972 = .ok (.iaload, 1) := fq1_46 (fl_30 (j := 52) rfl rfl)
theorem dL_law_1973 : decode cL_law 1973 = .ok (.invokevirtual 210, 3) := fq3_182 (fl_30 (j := 53) rfl rfl) (fl_30 (j := 54) rfl rfl) (fl_30 (j := 55) rfl rfl) rfl
theorem dL_law_1976 : decode cL_law 1976 = .ok (.pop, 1) := fq1_87 (fl_30 (j := 56) rfl rfl)
theorem dL_law_1977 : decode cL_law 1977 = .ok (.aload_n 2, 1) := fq1_44 (fl_30 (j := 57) rfl rfl)
theorem dL_law_1978 : decode cL_law 1978 = .ok (.aload_n 0, 1) := fq1_42 (fl_30 (j := 58) rfl rfl)
theorem dL_law_1979 : decode cL_law 1979 = .ok (.iload_n 3, 1) := fq1_29 (fl_30 (j := 59) rfl rfl)
theorem dL_law_1980 : decode cL_law 1980 = .ok (.iconst 1, 1) := fq1_4 (fl_30 (j := 60) rfl rfl)
theorem dL_law_1981 : decode cL_law 1981 = .ok (.iadd, 1) := fq1_96 (fl_30 (j := 61) rfl rfl)
theorem dL_law_1982 : decode cL_law 1982 = .ok (.iaload, 1) := fq1_46 (fl_30 (j := 62) rfl rfl)
theorem dL_law_1983 : decode cL_law 1983 = .ok (.aload_n 0, 1) := fq1_42 (fl_30 (j := 63) rfl rfl)
theorem dL_law_1984 : decode cL_law 1984 = .ok (.iload_n 3, 1) := fq1_29 (fl_31 (j := 0) rfl rfl)
theorem dL_law_1985 : decode cL_law 1985 = .ok (.iconst 2, 1) := fq1_5 (fl_31 (j := 1) rfl rfl)
theorem dL_law_1986 : decode cL_law 1986 = .ok (.iadd, 1) := fq1_96 (fl_31 (j := 2) rfl rfl)
theorem dL_law_1987 : decode cL_law 1987 = .ok (.iaload, 1) := fq1_46 (fl_31 (j := 3) rfl rfl)
theorem dL_law_1988 : decode cL_law 1988 = .ok (.invokevirtual 213, 3) := fq3_182 (fl_31 (j := 4) rfl rfl) (fl_31 (j := 5) rfl rfl) (fl_31 (j := 6) rfl rfl) rfl
theorem dL_law_1991 : decode cL_law 1991 = .ok (.pop, 1) := fq1_87 (fl_31 (j := 7) rfl rfl)
theorem dL_law_1992 : decode cL_law 1992 = .ok (.goto 854, 3) := fq3_167 (fl_31 (j := 8) rfl rfl) (fl_31 (j := 9) rfl rfl) (fl_31 (j := 10) rfl rfl) (s2p rfl (bl rfl))
theorem dL_law_1995 : decode cL_law 1995 = .ok (.aload_n 1, 1) := fq1_43 (fl_31 (j := 11) rfl rfl)
theorem dL_law_1996 : decode cL_law 1996 = .ok (.aload_n 0, 1) := fq1_42 (fl_31 (j := 12) rfl rfl)
theorem dL_law_1997 : decode cL_law 1997 = .ok (.iload_n 3, 1) := fq1_29 (fl_31 (j := 13) rfl rfl)
theorem dL_law_1998 : decode cL_law 1998 = .ok (.iconst 1, 1) := fq1_4 (fl_31 (j := 14) rfl rfl)
theorem dL_law_1999 : decode cL_law 1999 = .ok (.iadd, 1) := fq1_96 (fl_31 (j := 15) rfl rfl)
theorem dL_law_2000 : decode cL_law 2000 = .ok (.iaload, 1) := fq1_46 (fl_31 (j := 16) rfl rfl)
theorem dL_law_2001 : decode cL_law 2001 = .ok (.aload_n 0, 1) := fq1_42 (fl_31 (j := 17) rfl rfl)
theorem dL_law_2002 : decode cL_law 2002 = .ok (.iload_n 3, 1) := fq1_29 (fl_31 (j := 18) rfl rfl)
theorem dL_law_2003 : decode cL_law 2003 = .ok (.iconst 2, 1) := fq1_5 (fl_31 (j := 19) rfl rfl)
theorem dL_law_2004 : decode cL_law 2004 = .ok (.iadd, 1) := fq1_96 (fl_31 (j := 20) rfl rfl)
theorem dL_law_2005 : decode cL_law 2005 = .ok (.iaload, 1) := fq1_46 (fl_31 (j := 21) rfl rfl)
theorem dL_law_2006 : decode cL_law 2006 = .ok (.invokevirtual 214, 3) := fq3_182 (fl_31 (j := 22) rfl rfl) (fl_31 (j := 23) rfl rfl) (fl_31 (j := 24) rfl rfl) rfl
theorem dL_law_2009 : decode cL_law 2009 = .ok (.pop, 1) := fq1_87 (fl_31 (j := 25) rfl rfl)
theorem dL_law_2010 : decode cL_law 2010 = .ok (.aload_n 2, 1) := fq1_44 (fl_31 (j := 26) rfl rfl)
theorem dL_law_2011 : decode cL_law 2011 = .ok (.aload_n 0, 1) := fq1_42 (fl_31 (j := 27) rfl rfl)
theorem dL_law_2012 : decode cL_law 2012 = .ok (.iload_n 3, 1) := fq1_29 (fl_31 (j := 28) rfl rfl)
theorem dL_law_2013 : decode cL_law 2013 = .ok (.iconst 1, 1) := fq1_4 (fl_31 (j := 29) rfl rfl)
theorem dL_law_2014 : decode cL_law 2014 = .ok (.iadd, 1) := fq1_96 (fl_31 (j := 30) rfl rfl)
theorem dL_law_2015 : decode cL_law 2015 = .ok (.iaload, 1) := fq1_46 (fl_31 (j := 31) rfl rfl)
theorem dL_law_2016 : decode cL_law 2016 = .ok (.aload_n 0, 1) := fq1_42 (fl_31 (j := 32) rfl rfl)
theorem dL_law_2017 : decode cL_law 2017 = .ok (.iload_n 3, 1) := fq1_29 (fl_31 (j := 33) rfl rfl)
theorem dL_law_2018 : decode cL_law 2018 = .ok (.iconst 2, 1) := fq1_5 (fl_31 (j := 34) rfl rfl)
theorem dL_law_2019 : decode cL_law 2019 = .ok (.iadd, 1) := fq1_96 (fl_31 (j := 35) rfl rfl)
theorem dL_law_2020 : decode cL_law 2020 = .ok (.iaload, 1) := fq1_46 (fl_31 (j := 36) rfl rfl)
theorem dL_law_2021 : decode cL_law 2021 = .ok (.invokevirtual 217, 3) := fq3_182 (fl_31 (j := 37) rfl rfl) (fl_31 (j := 38) rfl rfl) (fl_31 (j := 39) rfl rfl) rfl
theorem dL_law_2024 : decode cL_law 2024 = .ok (.pop, 1) := fq1_87 (fl_31 (j := 40) rfl rfl)
theorem dL_law_2025 : decode cL_law 2025 = .ok (.goto 821, 3) := fq3_167 (fl_31 (j := 41) rfl rfl) (fl_31 (j := 42) rfl rfl) (fl_31 (j := 43) rfl rfl) (s2p rfl (bl rfl))
end

section
set_option maxHeartbeats 40000000 in
set_option maxRecDepth 100000 in
theorem law_c40 {p : Program} {e : Env} {s : State} {m : MethodId} {below : List Frame} {meth : Method} {c : Code} (l : Launch) {b L : Nat} {xs : Nat → Int32} {A : Nat → Prop} {D : va_G} {k : Nat → ClassId} {sa sv : Nat} {i : Int} (C : LFX p s m meth c b L xs A D k sa sv) (hi : 0 ≤ i ∧ i + 6 ≤ (L : Int)) (hk : LAT p l e s m below meth c b A D k 2846 i) : LAT p l e s m below meth c b A D k 1784 i := by
  obtain ⟨hx, hb, hr, hml, hown, hts, hKK, hX, hbl, hbA, hA, hAf, hlocks, hSY, hRR, hL⟩ := id C
  intro a IA LA FA QA VA IB LB FB QB VB IC LC FC QC VC ID LD FD QD VD IR LR FR QR VR r H locs ls hI hRT hP hD hS hl
  have hK := hKK.1
  obtain ⟨hP, hD⟩ : PD D A ((GA k a IA LA FA QA VA r) ++ ((GB k a IB LB FB QB VB r) ++ ((GC k a IC LC FC QC VC r) ++ ((GD k a ID LD FD QD VD r) ++ ((GR k a IR LR FR QR VR r) ++ (r.tl)))))) H := ⟨hP, hD⟩
  obtain ⟨hWI, hWI_0, hWI_1, hWI_2, hrd, htr0, htr1, htr2, htr3, hrgk, hrgt, hdrc, hev, hmk, hM, hMK, hTI, hFS, htd, hlt, rgH, rgS, rgY, hdr, hit, hmmk, heq, htq, hrel, hbf, htb, hkw, hSK, hSK0, hSK1, hSK2, hNE, hNE0, hNE1, hNE2, hLE, hYE, hQE, hLE0, hLE1, hLE2, hYE0, hYE1, hYE2⟩ := id hI
  obtain ⟨gw1, gw2, gw3, gw4, gw5, gw6, gw7, gw8, gw9, gw10, gw11⟩ := id hWI
  have hx0 := gw9
  have hYI := gw11
  have hpf : rgI (FR 3) (-128) 127 900 := fun e h1 h2 => by rw [← htb e h1 h2]; exact hbf e h1 h2
  obtain ⟨z1, hz1, hz1a, hz1b⟩ := i32_z (xs (iZ (i + 1)).toNatClampNeg)
  obtain ⟨z2, hz2, hz2a, hz2b⟩ := i32_z (xs (iZ (i + 2)).toNatClampNeg)
  obtain ⟨z3, hz3, hz3a, hz3b⟩ := i32_z (xs (iZ (i + 3)).toNatClampNeg)
  obtain ⟨z4, hz4, hz4a, hz4b⟩ := i32_z (xs (iZ (i + 4)).toNatClampNeg)
  obtain ⟨z5, hz5, hz5a, hz5b⟩ := i32_z (xs (iZ (i + 5)).toNatClampNeg)
  have hl : lv_has ls 4 [(3, .int (iZ i)), (2, .ref (a 106)), (1, .ref (a 0)), (0, .ref b)] := hl
  have hls := hQE.1
  replace hls : _ := hls
  refine lv_aload_n hx hb dL_law_1784 rfl (lv_at hl 2 rfl) ?_
  refine lv_aload_n hx hb dL_law_1785 rfl (lv_at hl 3 rfl) ?_
  refine lv_iload_n hx hb dL_law_1786 rfl (lv_at hl 0 rfl) ?_
  refine lv_iconst (v := iZ 1) hx hb dL_law_1787 rfl ?_
  refine lv_iadd hx hb dL_law_1788 ?_
  refine lv_topi (fun x_1 ex_1 => ?_)
  obtain rfl : x_1 = iZ (i + 1) := ex_1.trans (iZ_add i 1)
  refine va_sld hx hb hX hbl hbA hS (zi1 hi hL) dL_law_1789 ?_
  refine lv_topi (fun x_2 ex_2 => ?_)
  obtain rfl : x_2 = iZ z1 := ex_2.trans hz1
  refine lv_aload_n hx hb dL_law_1790 rfl (lv_at hl 3 rfl) ?_
  refine lv_iload_n hx hb dL_law_1791 rfl (lv_at hl 0 rfl) ?_
  refine lv_iconst (v := iZ 2) hx hb dL_law_1792 rfl ?_
  refine lv_iadd hx hb dL_law_1793 ?_
  refine lv_topi (fun x_3 ex_3 => ?_)
  obtain rfl : x_3 = iZ (i + 2) := ex_3.trans (iZ_add i 2)
  refine va_sld hx hb hX hbl hbA hS (zi2 hi hL) dL_law_1794 ?_
  refine lv_topi (fun x_4 ex_4 => ?_)
  obtain rfl : x_4 = iZ z2 := ex_4.trans hz2
  refine CKV2 (As := [.int (iZ z1), .int (iZ z2)]) (rest := []) (tl := (GB k a IB LB FB QB VB r) ++ ((GC k a IC LC FC QC VC r) ++ ((GD k a ID LD FD QD VD r) ++ ((GR k a IR LR FR QR VR r) ++ (r.tl))))) hx hb hml hown hts hKK hP hD hS hA (p_rules l D k (a 0) (a 1) (a 2) (a 3) (a 4) (a 5) (a 6) (a 7) (a 8) (a 9) (a 10) (a 11) (IA 0) (IA 1) (IA 2) (LA 0) (LA 1) ([.ref (a 26), .ref (a 27), .ref (a 28), .int (iZ (IA 3)), .int (iZ (IA 4)), .int (iZ (IA 5)), .int (iZ (IA 6))]) (a 23) (a 27) (a 28) (a 24) (a 25) (IA 3) (IA 4) (IA 5) (FA 0) (FA 1) (a 29) (a 30) (a 31) (a 32) (IA 7) (IA 8) (FA 2) (FA 3) (FA 4) (FA 5) z1 z2 rfl rfl rfl rfl rfl (by first | with_reducible assumption | omega) hx0 (by first | with_reducible assumption | omega) (by first | with_reducible assumption | omega) (by first | with_reducible assumption | omega) (by first | with_reducible assumption | omega) (by first | with_reducible assumption | omega) gw10 ⟨hz1a, hz1b⟩ ⟨hz2a, hz2b⟩) ci_X11_rules qm_L_186 ⟨Nat.le_of_ble_eq_true rfl, Nat.le_of_ble_eq_true rfl⟩ (lroom _) [0, 1, 3, 8, 9, 10, 11, 2, 6, 7] [4, 5, 12, 13, 14, 15, 16, 17, 18, 19, 20, 21, 22, 23, 24, 25] rfl rfl rfl (by decide +kernel) (by decide +kernel) (by decide +kernel) 0 rfl rfl rfl hl.1 rfl (Nat.le_of_ble_eq_true rfl) dL_law_1795 (fun u_5 H locs hφ hP hD hS => ?_)
  obtain ⟨hP, hD⟩ := PD.by3 (is := [16, 17, 23, 18, 0, 1, 24, 25, 19, 20, 21, 22, 2, 3, 4, 5, 6, 7, 8, 9, 10, 11, 12, 13, 14, 15]) (y := (GA k a (u9 IA 2 u_5.1.2) LA FA QA VA r)) ⟨hP, hD⟩ (by decide +kernel) rfl rfl
  refine W.eq (g2 := F0 m 1798 ls [.int (iZ u_5.1.1)]) rfl ?_
  refine lv_pop hx hb dL_law_1798 rfl ?_
  refine lv_aload_n hx hb dL_law_1799 rfl (lv_at hl 1 rfl) ?_
  refine lv_aload_n hx hb dL_law_1800 rfl (lv_at hl 3 rfl) ?_
  refine lv_iload_n hx hb dL_law_1801 rfl (lv_at hl 0 rfl) ?_
  refine lv_iconst (v := iZ 1) hx hb dL_law_1802 rfl ?_
  refine lv_iadd hx hb dL_law_1803 ?_
  refine lv_topi (fun x_6 ex_6 => ?_)
  obtain rfl : x_6 = iZ (i + 1) := ex_6.trans (iZ_add i 1)
  refine va_sld hx hb hX hbl hbA hS (zi1 hi hL) dL_law_1804 ?_
  refine lv_topi (fun x_7 ex_7 => ?_)
  obtain rfl : x_7 = iZ z1 := ex_7.trans hz1
  refine lv_aload_n hx hb dL_law_1805 rfl (lv_at hl 3 rfl) ?_
  refine lv_iload_n hx hb dL_law_1806 rfl (lv_at hl 0 rfl) ?_
  refine lv_iconst (v := iZ 2) hx hb dL_law_1807 rfl ?_
  refine lv_iadd hx hb dL_law_1808 ?_
  refine lv_topi (fun x_8 ex_8 => ?_)
  obtain rfl : x_8 = iZ (i + 2) := ex_8.trans (iZ_add i 2)
  refine va_sld hx hb hX hbl hbA hS (zi2 hi hL) dL_law_1809 ?_
  refine lv_topi (fun x_9 ex_9 => ?_)
  obtain rfl : x_9 = iZ z2 := ex_9.trans hz2
  obtain ⟨hP, hD⟩ := PD.fr5 ⟨hP, hD⟩
  refine CKV2 (As := [.int (iZ z1), .int (iZ z2)]) (rest := []) (tl := (GA k a (u9 IA 2 u_5.1.2) LA FA QA VA r) ++ ((GB k a IB LB FB QB VB r) ++ ((GC k a IC LC FC QC VC r) ++ ((GD k a ID LD FD QD VD r) ++ (r.tl))))) hx hb hml hown hts hKK hP hD hS hA (q_rules l D k (a 106) (a 107) (a 108) (a 109) (a 110) (a 111) (a 112) (a 113) (a 114) (a 115) (a 116) (a 117) (a 118) (a 119) (a 120) (a 121) (a 122) (IR 0) (IR 1) (IR 2) (IR 3) (IR 4) (IR 5) (IR 6) (IR 7) (IR 8) (IR 9) (IR 10) (IR 11) (IR 12) (IR 13) (IR 14) (IR 15) (IR 16) (IR 17) (LR 0) (LR 1) (FR 0) (FR 6) (FR 7) (FR 8) (FR 9) z1 z2 hM rgH ⟨hz1a, hz1b⟩ ⟨hz2a, hz2b⟩) ci_X12_rules qm_L_189 ⟨Nat.le_of_ble_eq_true rfl, Nat.le_of_ble_eq_true rfl⟩ (lroom _) [0, 1, 9, 10, 11, 12] [2, 3, 4, 5, 6, 7, 8, 13, 14, 15, 16] rfl rfl rfl (by decide +kernel) (by decide +kernel) (by decide +kernel) 0 rfl rfl rfl hl.1 rfl (Nat.le_of_ble_eq_true rfl) dL_law_1810 (fun u_10 H locs hφ hP hD hS => ?_)
  have p_11 : rgI u_10.2.2.1.2.2.2 0 1000000 120 := hφ
  obtain ⟨hP, hD⟩ := PD.by3 (is := [11, 12, 0, 1, 2, 3, 4, 5, 6, 13, 14, 15, 16, 7, 8, 9, 10]) (y := (GR k a (u9 IR 0 u_10.1.2) LR (u9 (u9 (u9 (u9 FR 6 u_10.2.2.1.1) 7 u_10.2.2.1.2.1) 8 u_10.2.2.1.2.2.1) 9 u_10.2.2.1.2.2.2) QR VR r)) ⟨hP, hD⟩ (by decide +kernel) rfl rfl
  refine W.eq (g2 := F0 m 1813 ls [.int (iZ u_10.1.1)]) rfl ?_
  refine lv_pop hx hb dL_law_1813 rfl ?_
  refine lv_goto (tgt := 2846) hx hb dL_law_1814 rfl ?_
  obtain ⟨hP, hD⟩ := PD.fr5 ⟨hP, hD⟩
  obtain ⟨hP, hD⟩ := PD.fr5 ⟨hP, hD⟩
  obtain ⟨hP, hD⟩ := PD.fr5 ⟨hP, hD⟩
  obtain ⟨hP, hD⟩ := PD.fr5 ⟨hP, hD⟩
  exact hk a (u9 IA 2 u_5.1.2) LA FA QA VA IB LB FB QB VB IC LC FC QC VC ID LD FD QD VD (u9 IR 0 u_10.1.2) LR (u9 (u9 (u9 (u9 FR 6 u_10.2.2.1.1) 7 u_10.2.2.1.2.1) 8 u_10.2.2.1.2.2.1) 9 u_10.2.2.1.2.2.2) QR VR r H locs ls (show INV _ _ _ _ _ _ _ _ _ _ _ _ _ _ _ from ⟨hWI, hWI_0, hWI_1, hWI_2, hrd, htr0, htr1, htr2, htr3, hrgk, hrgt, hdrc, hev, hmk, hM, hMK, hTI, hFS, htd, hlt, (show rgI u_10.2.2.1.2.2.2 0 1000000 120 from (by assumption)), rgS, rgY, hdr, hit, hmmk, heq, htq, hrel, hbf, htb, hkw, hSK, hSK0, hSK1, hSK2, hNE, hNE0, hNE1, hNE2, hLE, hYE, hQE, hLE0, hLE1, hLE2, hYE0, hYE1, hYE2⟩) hRT hP hD hS (lv_sub hl [0, 1, 2, 3] rfl)
set_option maxHeartbeats 40000000 in
set_option maxRecDepth 100000 in
theorem law_c41 {p : Program} {e : Env} {s : State} {m : MethodId} {below : List Frame} {meth : Method} {c : Code} (l : Launch) {b L : Nat} {xs : Nat → Int32} {A : Nat → Prop} {D : va_G} {k : Nat → ClassId} {sa sv : Nat} {i : Int} (C : LFX p s m meth c b L xs A D k sa sv) (hi : 0 ≤ i ∧ i + 6 ≤ (L : Int)) (hk : LAT p l e s m below meth c b A D k 2846 i) : LAT p l e s m below meth c b A D k 1817 i := by
  obtain ⟨hx, hb, hr, hml, hown, hts, hKK, hX, hbl, hbA, hA, hAf, hlocks, hSY, hRR, hL⟩ := id C
  intro a IA LA FA QA VA IB LB FB QB VB IC LC FC QC VC ID LD FD QD VD IR LR FR QR VR r H locs ls hI hRT hP hD hS hl
  have hK := hKK.1
  obtain ⟨hP, hD⟩ : PD D A ((GA k a IA LA FA QA VA r) ++ ((GB k a IB LB FB QB VB r) ++ ((GC k a IC LC FC QC VC r) ++ ((GD k a ID LD FD QD VD r) ++ ((GR k a IR LR FR QR VR r) ++ (r.tl)))))) H := ⟨hP, hD⟩
  obtain ⟨hWI, hWI_0, hWI_1, hWI_2, hrd, htr0, htr1, htr2, htr3, hrgk, hrgt, hdrc, hev, hmk, hM, hMK, hTI, hFS, htd, hlt, rgH, rgS, rgY, hdr, hit, hmmk, heq, htq, hrel, hbf, htb, hkw, hSK, hSK0, hSK1, hSK2, hNE, hNE0, hNE1, hNE2, hLE, hYE, hQE, hLE0, hLE1, hLE2, hYE0, hYE1, hYE2⟩ := id hI
  obtain ⟨gw1, gw2, gw3, gw4, gw5, gw6, gw7, gw8, gw9, gw10, gw11⟩ := id hWI
  have hx0 := gw9
  have hYI := gw11
  have hpf : rgI (FR 3) (-128) 127 900 := fun e h1 h2 => by rw [← htb e h1 h2]; exact hbf e h1 h2
  obtain ⟨z1, hz1, hz1a, hz1b⟩ := i32_z (xs (iZ (i + 1)).toNatClampNeg)
  obtain ⟨z2, hz2, hz2a, hz2b⟩ := i32_z (xs (iZ (i + 2)).toNatClampNeg)
  obtain ⟨z3, hz3, hz3a, hz3b⟩ := i32_z (xs (iZ (i + 3)).toNatClampNeg)
  obtain ⟨z4, hz4, hz4a, hz4b⟩ := i32_z (xs (iZ (i + 4)).toNatClampNeg)
  obtain ⟨z5, hz5, hz5a, hz5b⟩ := i32_z (xs (iZ (i + 5)).toNatClampNeg)
  have hl : lv_has ls 4 [(3, .int (iZ i)), (2, .ref (a 106)), (1, .ref (a 0)), (0, .ref b)] := hl
  have hls := hQE.1
  replace hls : _ := hls
  refine lv_aload_n hx hb dL_law_1817 rfl (lv_at hl 2 rfl) ?_
  refine lv_aload_n hx hb dL_law_1818 rfl (lv_at hl 3 rfl) ?_
  refine lv_iload_n hx hb dL_law_1819 rfl (lv_at hl 0 rfl) ?_
  refine lv_iconst (v := iZ 1) hx hb dL_law_1820 rfl ?_
  refine lv_iadd hx hb dL_law_1821 ?_
  refine lv_topi (fun x_1 ex_1 => ?_)
  obtain rfl : x_1 = iZ (i + 1) := ex_1.trans (iZ_add i 1)
  refine va_sld hx hb hX hbl hbA hS (zi1 hi hL) dL_law_1822 ?_
  refine lv_topi (fun x_2 ex_2 => ?_)
  obtain rfl : x_2 = iZ z1 := ex_2.trans hz1
  refine lv_aload_n hx hb dL_law_1823 rfl (lv_at hl 3 rfl) ?_
  refine lv_iload_n hx hb dL_law_1824 rfl (lv_at hl 0 rfl) ?_
  refine lv_iconst (v := iZ 2) hx hb dL_law_1825 rfl ?_
  refine lv_iadd hx hb dL_law_1826 ?_
  refine lv_topi (fun x_3 ex_3 => ?_)
  obtain rfl : x_3 = iZ (i + 2) := ex_3.trans (iZ_add i 2)
  refine va_sld hx hb hX hbl hbA hS (zi2 hi hL) dL_law_1827 ?_
  refine lv_topi (fun x_4 ex_4 => ?_)
  obtain rfl : x_4 = iZ z2 := ex_4.trans hz2
  refine CKV2 (As := [.int (iZ z1), .int (iZ z2)]) (rest := []) (tl := (GB k a IB LB FB QB VB r) ++ ((GC k a IC LC FC QC VC r) ++ ((GD k a ID LD FD QD VD r) ++ ((GR k a IR LR FR QR VR r) ++ (r.tl))))) hx hb hml hown hts hKK hP hD hS hA (p_ruled l D k (a 0) (a 1) (a 2) (a 3) (a 4) (a 5) (a 6) (a 7) (a 8) (a 9) (a 10) (a 11) (IA 0) (IA 1) (IA 2) (LA 0) (LA 1) ([.ref (a 26), .ref (a 27), .ref (a 28), .int (iZ (IA 3)), .int (iZ (IA 4)), .int (iZ (IA 5)), .int (iZ (IA 6))]) (a 23) (a 27) (a 28) (a 24) (a 25) (IA 3) (IA 4) (IA 5) (FA 0) (FA 1) (a 29) (a 30) (a 31) (a 32) (IA 7) (IA 8) (FA 2) (FA 3) (FA 4) (FA 5) z1 z2 rfl rfl rfl rfl rfl (by first | with_reducible assumption | omega) hx0 (by first | with_reducible assumption | omega) (by first | with_reducible assumption | omega) (by first | with_reducible assumption | omega) (by first | with_reducible assumption | omega) (by first | with_reducible assumption | omega) gw10 ⟨hz1a, hz1b⟩ ⟨hz2a, hz2b⟩) ci_X11_ruled qm_L_190 ⟨Nat.le_of_ble_eq_true rfl, Nat.le_of_ble_eq_true rfl⟩ (lroom _) [0, 1, 3, 8, 9, 10, 11, 2, 6, 7] [4, 5, 12, 13, 14, 15, 16, 17, 18, 19, 20, 21, 22, 23, 24, 25] rfl rfl rfl (by decide +kernel) (by decide +kernel) (by decide +kernel) 0 rfl rfl rfl hl.1 rfl (Nat.le_of_ble_eq_true rfl) dL_law_1828 (fun u_5 H locs hφ hP hD hS => ?_)
  obtain ⟨hP, hD⟩ := PD.by3 (is := [16, 17, 23, 18, 0, 1, 24, 25, 19, 20, 21, 22, 2, 3, 4, 5, 6, 7, 8, 9, 10, 11, 12, 13, 14, 15]) (y := (GA k a (u9 IA 2 u_5.1.2) LA FA QA VA r)) ⟨hP, hD⟩ (by decide +kernel) rfl rfl
  refine W.eq (g2 := F0 m 1831 ls [.int (iZ u_5.1.1)]) rfl ?_
  refine lv_pop hx hb dL_law_1831 rfl ?_
  refine lv_aload_n hx hb dL_law_1832 rfl (lv_at hl 1 rfl) ?_
  refine lv_aload_n hx hb dL_law_1833 rfl (lv_at hl 3 rfl) ?_
  refine lv_iload_n hx hb dL_law_1834 rfl (lv_at hl 0 rfl) ?_
  refine lv_iconst (v := iZ 1) hx hb dL_law_1835 rfl ?_
  refine lv_iadd hx hb dL_law_1836 ?_
  refine lv_topi (fun x_6 ex_6 => ?_)
  obtain rfl : x_6 = iZ (i + 1) := ex_6.trans (iZ_add i 1)
  refine va_sld hx hb hX hbl hbA hS (zi1 hi hL) dL_law_1837 ?_
  refine lv_topi (fun x_7 ex_7 => ?_)
  obtain rfl : x_7 = iZ z1 := ex_7.trans hz1
  refine lv_aload_n hx hb dL_law_1838 rfl (lv_at hl 3 rfl) ?_
  refine lv_iload_n hx hb dL_law_1839 rfl (lv_at hl 0 rfl) ?_
  refine lv_iconst (v := iZ 2) hx hb dL_law_1840 rfl ?_
  refine lv_iadd hx hb dL_law_1841 ?_
  refine lv_topi (fun x_8 ex_8 => ?_)
  obtain rfl : x_8 = iZ (i + 2) := ex_8.trans (iZ_add i 2)
  refine va_sld hx hb hX hbl hbA hS (zi2 hi hL) dL_law_1842 ?_
  refine lv_topi (fun x_9 ex_9 => ?_)
  obtain rfl : x_9 = iZ z2 := ex_9.trans hz2
  obtain ⟨hP, hD⟩ := PD.fr5 ⟨hP, hD⟩
  refine CKV2 (As := [.int (iZ z1), .int (iZ z2)]) (rest := []) (tl := (GA k a (u9 IA 2 u_5.1.2) LA FA QA VA r) ++ ((GB k a IB LB FB QB VB r) ++ ((GC k a IC LC FC QC VC r) ++ ((GD k a ID LD FD QD VD r) ++ (r.tl))))) hx hb hml hown hts hKK hP hD hS hA (q_ruled l D k (a 106) (a 107) (a 108) (a 109) (a 110) (a 111) (a 112) (a 113) (a 114) (a 115) (a 116) (a 117) (a 118) (a 119) (a 120) (a 121) (a 122) (IR 0) (IR 1) (IR 2) (IR 3) (IR 4) (IR 5) (IR 6) (IR 7) (IR 8) (IR 9) (IR 10) (IR 11) (IR 12) (IR 13) (IR 14) (IR 15) (IR 16) (IR 17) (LR 0) (LR 1) (FR 0) (FR 6) (FR 7) (FR 8) (FR 9) z1 z2 hM rgH ⟨hz1a, hz1b⟩ ⟨hz2a, hz2b⟩) ci_X12_ruled qm_L_193 ⟨Nat.le_of_ble_eq_true rfl, Nat.le_of_ble_eq_true rfl⟩ (lroom _) [0, 1, 9, 10, 11, 12] [2, 3, 4, 5, 6, 7, 8, 13, 14, 15, 16] rfl rfl rfl (by decide +kernel) (by decide +kernel) (by decide +kernel) 0 rfl rfl rfl hl.1 rfl (Nat.le_of_ble_eq_true rfl) dL_law_1843 (fun u_10 H locs hφ hP hD hS => ?_)
  have p_11 : rgI u_10.2.2.1.2.2.2 0 1000000 120 := hφ
  obtain ⟨hP, hD⟩ := PD.by3 (is := [11, 12, 0, 1, 2, 3, 4, 5, 6, 13, 14, 15, 16, 7, 8, 9, 10]) (y := (GR k a (u9 IR 0 u_10.1.2) LR (u9 (u9 (u9 (u9 FR 6 u_10.2.2.1.1) 7 u_10.2.2.1.2.1) 8 u_10.2.2.1.2.2.1) 9 u_10.2.2.1.2.2.2) QR VR r)) ⟨hP, hD⟩ (by decide +kernel) rfl rfl
  refine W.eq (g2 := F0 m 1846 ls [.int (iZ u_10.1.1)]) rfl ?_
  refine lv_pop hx hb dL_law_1846 rfl ?_
  refine lv_goto (tgt := 2846) hx hb dL_law_1847 rfl ?_
  obtain ⟨hP, hD⟩ := PD.fr5 ⟨hP, hD⟩
  obtain ⟨hP, hD⟩ := PD.fr5 ⟨hP, hD⟩
  obtain ⟨hP, hD⟩ := PD.fr5 ⟨hP, hD⟩
  obtain ⟨hP, hD⟩ := PD.fr5 ⟨hP, hD⟩
  exact hk a (u9 IA 2 u_5.1.2) LA FA QA VA IB LB FB QB VB IC LC FC QC VC ID LD FD QD VD (u9 IR 0 u_10.1.2) LR (u9 (u9 (u9 (u9 FR 6 u_10.2.2.1.1) 7 u_10.2.2.1.2.1) 8 u_10.2.2.1.2.2.1) 9 u_10.2.2.1.2.2.2) QR VR r H locs ls (show INV _ _ _ _ _ _ _ _ _ _ _ _ _ _ _ from ⟨hWI, hWI_0, hWI_1, hWI_2, hrd, htr0, htr1, htr2, htr3, hrgk, hrgt, hdrc, hev, hmk, hM, hMK, hTI, hFS, htd, hlt, (show rgI u_10.2.2.1.2.2.2 0 1000000 120 from (by assumption)), rgS, rgY, hdr, hit, hmmk, heq, htq, hrel, hbf, htb, hkw, hSK, hSK0, hSK1, hSK2, hNE, hNE0, hNE1, hNE2, hLE, hYE, hQE, hLE0, hLE1, hLE2, hYE0, hYE1, hYE2⟩) hRT hP hD hS (lv_sub hl [0, 1, 2, 3] rfl)
set_option maxHeartbeats 40000000 in
set_option maxRecDepth 100000 in
theorem law_c42 {p : Program} {e : Env} {s : State} {m : MethodId} {below : List Frame} {meth : Method} {c : Code} (l : Launch) {b L : Nat} {xs : Nat → Int32} {A : Nat → Prop} {D : va_G} {k : Nat → ClassId} {sa sv : Nat} {i : Int} (C : LFX p s m meth c b L xs A D k sa sv) (hi : 0 ≤ i ∧ i + 6 ≤ (L : Int)) (hk : LAT p l e s m below meth c b A D k 2846 i) : LAT p l e s m below meth c b A D k 1850 i := by
  obtain ⟨hx, hb, hr, hml, hown, hts, hKK, hX, hbl, hbA, hA, hAf, hlocks, hSY, hRR, hL⟩ := id C
  intro a IA LA FA QA VA IB LB FB QB VB IC LC FC QC VC ID LD FD QD VD IR LR FR QR VR r H locs ls hI hRT hP hD hS hl
  have hK := hKK.1
  obtain ⟨hP, hD⟩ : PD D A ((GA k a IA LA FA QA VA r) ++ ((GB k a IB LB FB QB VB r) ++ ((GC k a IC LC FC QC VC r) ++ ((GD k a ID LD FD QD VD r) ++ ((GR k a IR LR FR QR VR r) ++ (r.tl)))))) H := ⟨hP, hD⟩
  obtain ⟨hWI, hWI_0, hWI_1, hWI_2, hrd, htr0, htr1, htr2, htr3, hrgk, hrgt, hdrc, hev, hmk, hM, hMK, hTI, hFS, htd, hlt, rgH, rgS, rgY, hdr, hit, hmmk, heq, htq, hrel, hbf, htb, hkw, hSK, hSK0, hSK1, hSK2, hNE, hNE0, hNE1, hNE2, hLE, hYE, hQE, hLE0, hLE1, hLE2, hYE0, hYE1, hYE2⟩ := id hI
  obtain ⟨gw1, gw2, gw3, gw4, gw5, gw6, gw7, gw8, gw9, gw10, gw11⟩ := id hWI
  have hx0 := gw9
  have hYI := gw11
  have hpf : rgI (FR 3) (-128) 127 900 := fun e h1 h2 => by rw [← htb e h1 h2]; exact hbf e h1 h2
  obtain ⟨z1, hz1, hz1a, hz1b⟩ := i32_z (xs (iZ (i + 1)).toNatClampNeg)
  obtain ⟨z2, hz2, hz2a, hz2b⟩ := i32_z (xs (iZ (i + 2)).toNatClampNeg)
  obtain ⟨z3, hz3, hz3a, hz3b⟩ := i32_z (xs (iZ (i + 3)).toNatClampNeg)
  obtain ⟨z4, hz4, hz4a, hz4b⟩ := i32_z (xs (iZ (i + 4)).toNatClampNeg)
  obtain ⟨z5, hz5, hz5a, hz5b⟩ := i32_z (xs (iZ (i + 5)).toNatClampNeg)
  have hl : lv_has ls 4 [(3, .int (iZ i)), (2, .ref (a 106)), (1, .ref (a 0)), (0, .ref b)] := hl
  have hls := hQE.1
  replace hls : _ := hls
  refine lv_aload_n hx hb dL_law_1850 rfl (lv_at hl 2 rfl) ?_
  refine lv_aload_n hx hb dL_law_1851 rfl (lv_at hl 3 rfl) ?_
  refine lv_iload_n hx hb dL_law_1852 rfl (lv_at hl 0 rfl) ?_
  refine lv_iconst (v := iZ 1) hx hb dL_law_1853 rfl ?_
  refine lv_iadd hx hb dL_law_1854 ?_
  refine lv_topi (fun x_1 ex_1 => ?_)
  obtain rfl : x_1 = iZ (i + 1) := ex_1.trans (iZ_add i 1)
  refine va_sld hx hb hX hbl hbA hS (zi1 hi hL) dL_law_1855 ?_
  refine lv_topi (fun x_2 ex_2 => ?_)
  obtain rfl : x_2 = iZ z1 := ex_2.trans hz1
  refine lv_aload_n hx hb dL_law_1856 rfl (lv_at hl 3 rfl) ?_
  refine lv_iload_n hx hb dL_law_1857 rfl (lv_at hl 0 rfl) ?_
  refine lv_iconst (v := iZ 2) hx hb dL_law_1858 rfl ?_
  refine lv_iadd hx hb dL_law_1859 ?_
  refine lv_topi (fun x_3 ex_3 => ?_)
  obtain rfl : x_3 = iZ (i + 2) := ex_3.trans (iZ_add i 2)
  refine va_sld hx hb hX hbl hbA hS (zi2 hi hL) dL_law_1860 ?_
  refine lv_topi (fun x_4 ex_4 => ?_)
  obtain rfl : x_4 = iZ z2 := ex_4.trans hz2
  refine lv_aload_n hx hb dL_law_1861 rfl (lv_at hl 3 rfl) ?_
  refine lv_iload_n hx hb dL_law_1862 rfl (lv_at hl 0 rfl) ?_
  refine lv_iconst (v := iZ 3) hx hb dL_law_1863 rfl ?_
  refine lv_iadd hx hb dL_law_1864 ?_
  refine lv_topi (fun x_5 ex_5 => ?_)
  obtain rfl : x_5 = iZ (i + 3) := ex_5.trans (iZ_add i 3)
  refine va_sld hx hb hX hbl hbA hS (zi3 hi hL) dL_law_1865 ?_
  refine lv_topi (fun x_6 ex_6 => ?_)
  obtain rfl : x_6 = iZ z3 := ex_6.trans hz3
  refine CKV2 (As := [.int (iZ z1), .int (iZ z2), .int (iZ z3)]) (rest := []) (tl := (GB k a IB LB FB QB VB r) ++ ((GC k a IC LC FC QC VC r) ++ ((GD k a ID LD FD QD VD r) ++ ((GR k a IR LR FR QR VR r) ++ (r.tl))))) hx hb hml hown hts hKK hP hD hS hA (p_before l D k (a 0) (a 1) (a 2) (a 3) (a 4) (a 5) (a 6) (a 7) (a 8) (a 9) (a 10) (a 11) (IA 0) (IA 1) (IA 2) (LA 0) (LA 1) ([.ref (a 26), .ref (a 27), .ref (a 28), .int (iZ (IA 3)), .int (iZ (IA 4)), .int (iZ (IA 5)), .int (iZ (IA 6))]) (a 23) (a 27) (a 28) (a 24) (a 25) (IA 3) (IA 4) (IA 5) (FA 0) (FA 1) (a 29) (a 30) (a 31) (a 32) (IA 7) (IA 8) (FA 2) (FA 3) (FA 4) (FA 5) z1 z2 z3 rfl rfl rfl rfl rfl (by first | with_reducible assumption | omega) hx0 (by first | with_reducible assumption | omega) (by first | with_reducible assumption | omega) (by first | with_reducible assumption | omega) (by first | with_reducible assumption | omega) (by first | with_reducible assumption | omega) gw10 ⟨hz1a, hz1b⟩ ⟨hz2a, hz2b⟩ ⟨hz3a, hz3b⟩) ci_X11_before qm_L_194 ⟨Nat.le_of_ble_eq_true rfl, Nat.le_of_ble_eq_true rfl⟩ (lroom _) [0, 1, 3, 8, 9, 10, 11, 2, 6, 7] [4, 5, 12, 13, 14, 15, 16, 17, 18, 19, 20, 21, 22, 23, 24, 25] rfl rfl rfl (by decide +kernel) (by decide +kernel) (by decide +kernel) 0 rfl rfl rfl hl.1 rfl (Nat.le_of_ble_eq_true rfl) dL_law_1866 (fun u_7 H locs hφ hP hD hS => ?_)
  obtain ⟨hP, hD⟩ := PD.by3 (is := [16, 17, 23, 18, 0, 1, 24, 25, 19, 20, 21, 22, 2, 3, 4, 5, 6, 7, 8, 9, 10, 11, 12, 13, 14, 15]) (y := (GA k a (u9 IA 2 u_7.1.2) LA FA QA VA r)) ⟨hP, hD⟩ (by decide +kernel) rfl rfl
  refine W.eq (g2 := F0 m 1869 ls [.int (iZ u_7.1.1)]) rfl ?_
  refine lv_pop hx hb dL_law_1869 rfl ?_
  refine lv_aload_n hx hb dL_law_1870 rfl (lv_at hl 1 rfl) ?_
  refine lv_aload_n hx hb dL_law_1871 rfl (lv_at hl 3 rfl) ?_
  refine lv_iload_n hx hb dL_law_1872 rfl (lv_at hl 0 rfl) ?_
  refine lv_iconst (v := iZ 1) hx hb dL_law_1873 rfl ?_
  refine lv_iadd hx hb dL_law_1874 ?_
  refine lv_topi (fun x_8 ex_8 => ?_)
  obtain rfl : x_8 = iZ (i + 1) := ex_8.trans (iZ_add i 1)
  refine va_sld hx hb hX hbl hbA hS (zi1 hi hL) dL_law_1875 ?_
  refine lv_topi (fun x_9 ex_9 => ?_)
  obtain rfl : x_9 = iZ z1 := ex_9.trans hz1
  refine lv_aload_n hx hb dL_law_1876 rfl (lv_at hl 3 rfl) ?_
  refine lv_iload_n hx hb dL_law_1877 rfl (lv_at hl 0 rfl) ?_
  refine lv_iconst (v := iZ 2) hx hb dL_law_1878 rfl ?_
  refine lv_iadd hx hb dL_law_1879 ?_
  refine lv_topi (fun x_10 ex_10 => ?_)
  obtain rfl : x_10 = iZ (i + 2) := ex_10.trans (iZ_add i 2)
  refine va_sld hx hb hX hbl hbA hS (zi2 hi hL) dL_law_1880 ?_
  refine lv_topi (fun x_11 ex_11 => ?_)
  obtain rfl : x_11 = iZ z2 := ex_11.trans hz2
  refine lv_aload_n hx hb dL_law_1881 rfl (lv_at hl 3 rfl) ?_
  refine lv_iload_n hx hb dL_law_1882 rfl (lv_at hl 0 rfl) ?_
  refine lv_iconst (v := iZ 3) hx hb dL_law_1883 rfl ?_
  refine lv_iadd hx hb dL_law_1884 ?_
  refine lv_topi (fun x_12 ex_12 => ?_)
  obtain rfl : x_12 = iZ (i + 3) := ex_12.trans (iZ_add i 3)
  refine va_sld hx hb hX hbl hbA hS (zi3 hi hL) dL_law_1885 ?_
  refine lv_topi (fun x_13 ex_13 => ?_)
  obtain rfl : x_13 = iZ z3 := ex_13.trans hz3
  obtain ⟨hP, hD⟩ := PD.fr5 ⟨hP, hD⟩
  refine CKV2 (As := [.int (iZ z1), .int (iZ z2), .int (iZ z3)]) (rest := []) (tl := (GA k a (u9 IA 2 u_7.1.2) LA FA QA VA r) ++ ((GB k a IB LB FB QB VB r) ++ ((GC k a IC LC FC QC VC r) ++ ((GD k a ID LD FD QD VD r) ++ (r.tl))))) hx hb hml hown hts hKK hP hD hS hA (q_before l D k (a 106) (a 107) (a 108) (a 109) (a 110) (a 111) (a 112) (a 113) (a 114) (a 115) (a 116) (a 117) (a 118) (a 119) (a 120) (a 121) (a 122) (IR 0) (IR 1) (IR 2) (IR 3) (IR 4) (IR 5) (IR 6) (IR 7) (IR 8) (IR 9) (IR 10) (IR 11) (IR 12) (IR 13) (IR 14) (IR 15) (IR 16) (IR 17) (LR 0) (LR 1) (FR 0) (FR 6) (FR 7) (FR 8) (FR 9) z1 z2 z3 hM rgH ⟨hz1a, hz1b⟩ ⟨hz2a, hz2b⟩ ⟨hz3a, hz3b⟩) ci_X12_before qm_L_197 ⟨Nat.le_of_ble_eq_true rfl, Nat.le_of_ble_eq_true rfl⟩ (lroom _) [0, 1, 9, 10, 11, 12] [2, 3, 4, 5, 6, 7, 8, 13, 14, 15, 16] rfl rfl rfl (by decide +kernel) (by decide +kernel) (by decide +kernel) 0 rfl rfl rfl hl.1 rfl (Nat.le_of_ble_eq_true rfl) dL_law_1886 (fun u_14 H locs hφ hP hD hS => ?_)
  have p_15 : rgI u_14.2.2.1.2.2.2 0 1000000 120 := hφ
  obtain ⟨hP, hD⟩ := PD.by3 (is := [11, 12, 0, 1, 2, 3, 4, 5, 6, 13, 14, 15, 16, 7, 8, 9, 10]) (y := (GR k a (u9 IR 0 u_14.1.2) LR (u9 (u9 (u9 (u9 FR 6 u_14.2.2.1.1) 7 u_14.2.2.1.2.1) 8 u_14.2.2.1.2.2.1) 9 u_14.2.2.1.2.2.2) QR VR r)) ⟨hP, hD⟩ (by decide +kernel) rfl rfl
  refine W.eq (g2 := F0 m 1889 ls [.int (iZ u_14.1.1)]) rfl ?_
  refine lv_pop hx hb dL_law_1889 rfl ?_
  refine lv_goto (tgt := 2846) hx hb dL_law_1890 rfl ?_
  obtain ⟨hP, hD⟩ := PD.fr5 ⟨hP, hD⟩
  obtain ⟨hP, hD⟩ := PD.fr5 ⟨hP, hD⟩
  obtain ⟨hP, hD⟩ := PD.fr5 ⟨hP, hD⟩
  obtain ⟨hP, hD⟩ := PD.fr5 ⟨hP, hD⟩
  exact hk a (u9 IA 2 u_7.1.2) LA FA QA VA IB LB FB QB VB IC LC FC QC VC ID LD FD QD VD (u9 IR 0 u_14.1.2) LR (u9 (u9 (u9 (u9 FR 6 u_14.2.2.1.1) 7 u_14.2.2.1.2.1) 8 u_14.2.2.1.2.2.1) 9 u_14.2.2.1.2.2.2) QR VR r H locs ls (show INV _ _ _ _ _ _ _ _ _ _ _ _ _ _ _ from ⟨hWI, hWI_0, hWI_1, hWI_2, hrd, htr0, htr1, htr2, htr3, hrgk, hrgt, hdrc, hev, hmk, hM, hMK, hTI, hFS, htd, hlt, (show rgI u_14.2.2.1.2.2.2 0 1000000 120 from (by assumption)), rgS, rgY, hdr, hit, hmmk, heq, htq, hrel, hbf, htb, hkw, hSK, hSK0, hSK1, hSK2, hNE, hNE0, hNE1, hNE2, hLE, hYE, hQE, hLE0, hLE1, hLE2, hYE0, hYE1, hYE2⟩) hRT hP hD hS (lv_sub hl [0, 1, 2, 3] rfl)
set_option maxHeartbeats 40000000 in
set_option maxRecDepth 100000 in
theorem law_c43 {p : Program} {e : Env} {s : State} {m : MethodId} {below : List Frame} {meth : Method} {c : Code} (l : Launch) {b L : Nat} {xs : Nat → Int32} {A : Nat → Prop} {D : va_G} {k : Nat → ClassId} {sa sv : Nat} {i : Int} (C : LFX p s m meth c b L xs A D k sa sv) (hi : 0 ≤ i ∧ i + 6 ≤ (L : Int)) (hk : LAT p l e s m below meth c b A D k 2846 i) : LAT p l e s m below meth c b A D k 1893 i := by
  obtain ⟨hx, hb, hr, hml, hown, hts, hKK, hX, hbl, hbA, hA, hAf, hlocks, hSY, hRR, hL⟩ := id C
  intro a IA LA FA QA VA IB LB FB QB VB IC LC FC QC VC ID LD FD QD VD IR LR FR QR VR r H locs ls hI hRT hP hD hS hl
  have hK := hKK.1
  obtain ⟨hP, hD⟩ : PD D A ((GA k a IA LA FA QA VA r) ++ ((GB k a IB LB FB QB VB r) ++ ((GC k a IC LC FC QC VC r) ++ ((GD k a ID LD FD QD VD r) ++ ((GR k a IR LR FR QR VR r) ++ (r.tl)))))) H := ⟨hP, hD⟩
  obtain ⟨hWI, hWI_0, hWI_1, hWI_2, hrd, htr0, htr1, htr2, htr3, hrgk, hrgt, hdrc, hev, hmk, hM, hMK, hTI, hFS, htd, hlt, rgH, rgS, rgY, hdr, hit, hmmk, heq, htq, hrel, hbf, htb, hkw, hSK, hSK0, hSK1, hSK2, hNE, hNE0, hNE1, hNE2, hLE, hYE, hQE, hLE0, hLE1, hLE2, hYE0, hYE1, hYE2⟩ := id hI
  obtain ⟨gw1, gw2, gw3, gw4, gw5, gw6, gw7, gw8, gw9, gw10, gw11⟩ := id hWI
  have hx0 := gw9
  have hYI := gw11
  have hpf : rgI (FR 3) (-128) 127 900 := fun e h1 h2 => by rw [← htb e h1 h2]; exact hbf e h1 h2
  obtain ⟨z1, hz1, hz1a, hz1b⟩ := i32_z (xs (iZ (i + 1)).toNatClampNeg)
  obtain ⟨z2, hz2, hz2a, hz2b⟩ := i32_z (xs (iZ (i + 2)).toNatClampNeg)
  obtain ⟨z3, hz3, hz3a, hz3b⟩ := i32_z (xs (iZ (i + 3)).toNatClampNeg)
  obtain ⟨z4, hz4, hz4a, hz4b⟩ := i32_z (xs (iZ (i + 4)).toNatClampNeg)
  obtain ⟨z5, hz5, hz5a, hz5b⟩ := i32_z (xs (iZ (i + 5)).toNatClampNeg)
  have hl : lv_has ls 4 [(3, .int (iZ i)), (2, .ref (a 106)), (1, .ref (a 0)), (0, .ref b)] := hl
  have hls := hQE.1
  replace hls : _ := hls
  refine lv_aload_n hx hb dL_law_1893 rfl (lv_at hl 2 rfl) ?_
  refine lv_aload_n hx hb dL_law_1894 rfl (lv_at hl 3 rfl) ?_
  refine lv_iload_n hx hb dL_law_1895 rfl (lv_at hl 0 rfl) ?_
  refine lv_iconst (v := iZ 1) hx hb dL_law_1896 rfl ?_
  refine lv_iadd hx hb dL_law_1897 ?_
  refine lv_topi (fun x_1 ex_1 => ?_)
  obtain rfl : x_1 = iZ (i + 1) := ex_1.trans (iZ_add i 1)
  refine va_sld hx hb hX hbl hbA hS (zi1 hi hL) dL_law_1898 ?_
  refine lv_topi (fun x_2 ex_2 => ?_)
  obtain rfl : x_2 = iZ z1 := ex_2.trans hz1
  refine lv_aload_n hx hb dL_law_1899 rfl (lv_at hl 3 rfl) ?_
  refine lv_iload_n hx hb dL_law_1900 rfl (lv_at hl 0 rfl) ?_
  refine lv_iconst (v := iZ 2) hx hb dL_law_1901 rfl ?_
  refine lv_iadd hx hb dL_law_1902 ?_
  refine lv_topi (fun x_3 ex_3 => ?_)
  obtain rfl : x_3 = iZ (i + 2) := ex_3.trans (iZ_add i 2)
  refine va_sld hx hb hX hbl hbA hS (zi2 hi hL) dL_law_1903 ?_
  refine lv_topi (fun x_4 ex_4 => ?_)
  obtain rfl : x_4 = iZ z2 := ex_4.trans hz2
  refine CKV2 (As := [.int (iZ z1), .int (iZ z2)]) (rest := []) (tl := (GB k a IB LB FB QB VB r) ++ ((GC k a IC LC FC QC VC r) ++ ((GD k a ID LD FD QD VD r) ++ ((GR k a IR LR FR QR VR r) ++ (r.tl))))) hx hb hml hown hts hKK hP hD hS hA (p_oneForAll l D k (a 0) (a 1) (a 2) (a 3) (a 4) (a 5) (a 6) (a 7) (a 8) (a 9) (a 10) (a 11) (IA 0) (IA 1) (IA 2) (LA 0) (LA 1) ([.ref (a 26), .ref (a 27), .ref (a 28), .int (iZ (IA 3)), .int (iZ (IA 4)), .int (iZ (IA 5)), .int (iZ (IA 6))]) (a 23) (a 27) (a 28) (a 24) (a 25) (IA 3) (IA 4) (IA 5) (FA 0) (FA 1) (a 29) (a 30) (a 31) (a 32) (IA 7) (IA 8) (FA 2) (FA 3) (FA 4) (FA 5) z1 z2 rfl rfl rfl rfl rfl (by first | with_reducible assumption | omega) hx0 (by first | with_reducible assumption | omega) (by first | with_reducible assumption | omega) (by first | with_reducible assumption | omega) (by first | with_reducible assumption | omega) (by first | with_reducible assumption | omega) gw10 ⟨hz1a, hz1b⟩ ⟨hz2a, hz2b⟩) ci_X11_oneForAll qm_L_198 ⟨Nat.le_of_ble_eq_true rfl, Nat.le_of_ble_eq_true rfl⟩ (lroom _) [0, 1, 3, 8, 9, 10, 11, 2, 6, 7] [4, 5, 12, 13, 14, 15, 16, 17, 18, 19, 20, 21, 22, 23, 24, 25] rfl rfl rfl (by decide +kernel) (by decide +kernel) (by decide +kernel) 0 rfl rfl rfl hl.1 rfl (Nat.le_of_ble_eq_true rfl) dL_law_1904 (fun u_5 H locs hφ hP hD hS => ?_)
  obtain ⟨hP, hD⟩ := PD.by3 (is := [16, 17, 23, 18, 0, 1, 24, 25, 19, 20, 21, 22, 2, 3, 4, 5, 6, 7, 8, 9, 10, 11, 12, 13, 14, 15]) (y := (GA k a (u9 IA 2 u_5.1.2) LA FA QA VA r)) ⟨hP, hD⟩ (by decide +kernel) rfl rfl
  refine W.eq (g2 := F0 m 1907 ls [.int (iZ u_5.1.1)]) rfl ?_
  refine lv_pop hx hb dL_law_1907 rfl ?_
  refine lv_aload_n hx hb dL_law_1908 rfl (lv_at hl 1 rfl) ?_
  refine lv_aload_n hx hb dL_law_1909 rfl (lv_at hl 3 rfl) ?_
  refine lv_iload_n hx hb dL_law_1910 rfl (lv_at hl 0 rfl) ?_
  refine lv_iconst (v := iZ 1) hx hb dL_law_1911 rfl ?_
  refine lv_iadd hx hb dL_law_1912 ?_
  refine lv_topi (fun x_6 ex_6 => ?_)
  obtain rfl : x_6 = iZ (i + 1) := ex_6.trans (iZ_add i 1)
  refine va_sld hx hb hX hbl hbA hS (zi1 hi hL) dL_law_1913 ?_
  refine lv_topi (fun x_7 ex_7 => ?_)
  obtain rfl : x_7 = iZ z1 := ex_7.trans hz1
  refine lv_aload_n hx hb dL_law_1914 rfl (lv_at hl 3 rfl) ?_
  refine lv_iload_n hx hb dL_law_1915 rfl (lv_at hl 0 rfl) ?_
  refine lv_iconst (v := iZ 2) hx hb dL_law_1916 rfl ?_
  refine lv_iadd hx hb dL_law_1917 ?_
  refine lv_topi (fun x_8 ex_8 => ?_)
  obtain rfl : x_8 = iZ (i + 2) := ex_8.trans (iZ_add i 2)
  refine va_sld hx hb hX hbl hbA hS (zi2 hi hL) dL_law_1918 ?_
  refine lv_topi (fun x_9 ex_9 => ?_)
  obtain rfl : x_9 = iZ z2 := ex_9.trans hz2
  obtain ⟨hP, hD⟩ := PD.fr5 ⟨hP, hD⟩
  refine CKV2 (As := [.int (iZ z1), .int (iZ z2)]) (rest := []) (tl := (GA k a (u9 IA 2 u_5.1.2) LA FA QA VA r) ++ ((GB k a IB LB FB QB VB r) ++ ((GC k a IC LC FC QC VC r) ++ ((GD k a ID LD FD QD VD r) ++ (r.tl))))) hx hb hml hown hts hKK hP hD hS hA (q_oneForAll l D k (a 106) (a 107) (a 108) (a 109) (a 110) (a 111) (a 112) (a 113) (a 114) (a 115) (a 116) (a 117) (a 118) (a 119) (a 120) (a 121) (a 122) (IR 0) (IR 1) (IR 2) (IR 3) (IR 4) (IR 5) (IR 6) (IR 7) (IR 8) (IR 9) (IR 10) (IR 11) (IR 12) (IR 13) (IR 14) (IR 15) (IR 16) (IR 17) (LR 0) (LR 1) (FR 0) (FR 6) (FR 7) (FR 8) (FR 9) z1 z2 hM rgH ⟨hz1a, hz1b⟩ ⟨hz2a, hz2b⟩) ci_X12_oneForAll qm_L_201 ⟨Nat.le_of_ble_eq_true rfl, Nat.le_of_ble_eq_true rfl⟩ (lroom _) [0, 1, 9, 10, 11, 12] [2, 3, 4, 5, 6, 7, 8, 13, 14, 15, 16] rfl rfl rfl (by decide +kernel) (by decide +kernel) (by decide +kernel) 0 rfl rfl rfl hl.1 rfl (Nat.le_of_ble_eq_true rfl) dL_law_1919 (fun u_10 H locs hφ hP hD hS => ?_)
  have p_11 : rgI u_10.2.2.1.2.2.2 0 1000000 120 := hφ
  obtain ⟨hP, hD⟩ := PD.by3 (is := [11, 12, 0, 1, 2, 3, 4, 5, 6, 13, 14, 15, 16, 7, 8, 9, 10]) (y := (GR k a (u9 IR 0 u_10.1.2) LR (u9 (u9 (u9 (u9 FR 6 u_10.2.2.1.1) 7 u_10.2.2.1.2.1) 8 u_10.2.2.1.2.2.1) 9 u_10.2.2.1.2.2.2) QR VR r)) ⟨hP, hD⟩ (by decide +kernel) rfl rfl
  refine W.eq (g2 := F0 m 1922 ls [.int (iZ u_10.1.1)]) rfl ?_
  refine lv_pop hx hb dL_law_1922 rfl ?_
  refine lv_goto (tgt := 2846) hx hb dL_law_1923 rfl ?_
  obtain ⟨hP, hD⟩ := PD.fr5 ⟨hP, hD⟩
  obtain ⟨hP, hD⟩ := PD.fr5 ⟨hP, hD⟩
  obtain ⟨hP, hD⟩ := PD.fr5 ⟨hP, hD⟩
  obtain ⟨hP, hD⟩ := PD.fr5 ⟨hP, hD⟩
  exact hk a (u9 IA 2 u_5.1.2) LA FA QA VA IB LB FB QB VB IC LC FC QC VC ID LD FD QD VD (u9 IR 0 u_10.1.2) LR (u9 (u9 (u9 (u9 FR 6 u_10.2.2.1.1) 7 u_10.2.2.1.2.1) 8 u_10.2.2.1.2.2.1) 9 u_10.2.2.1.2.2.2) QR VR r H locs ls (show INV _ _ _ _ _ _ _ _ _ _ _ _ _ _ _ from ⟨hWI, hWI_0, hWI_1, hWI_2, hrd, htr0, htr1, htr2, htr3, hrgk, hrgt, hdrc, hev, hmk, hM, hMK, hTI, hFS, htd, hlt, (show rgI u_10.2.2.1.2.2.2 0 1000000 120 from (by assumption)), rgS, rgY, hdr, hit, hmmk, heq, htq, hrel, hbf, htb, hkw, hSK, hSK0, hSK1, hSK2, hNE, hNE0, hNE1, hNE2, hLE, hYE, hQE, hLE0, hLE1, hLE2, hYE0, hYE1, hYE2⟩) hRT hP hD hS (lv_sub hl [0, 1, 2, 3] rfl)
set_option maxHeartbeats 40000000 in
set_option maxRecDepth 100000 in
theorem law_c44 {p : Program} {e : Env} {s : State} {m : MethodId} {below : List Frame} {meth : Method} {c : Code} (l : Launch) {b L : Nat} {xs : Nat → Int32} {A : Nat → Prop} {D : va_G} {k : Nat → ClassId} {sa sv : Nat} {i : Int} (C : LFX p s m meth c b L xs A D k sa sv) (hi : 0 ≤ i ∧ i + 6 ≤ (L : Int)) (hk : LAT p l e s m below meth c b A D k 2846 i) : LAT p l e s m below meth c b A D k 1926 i := by
  obtain ⟨hx, hb, hr, hml, hown, hts, hKK, hX, hbl, hbA, hA, hAf, hlocks, hSY, hRR, hL⟩ := id C
  intro a IA LA FA QA VA IB LB FB QB VB IC LC FC QC VC ID LD FD QD VD IR LR FR QR VR r H locs ls hI hRT hP hD hS hl
  have hK := hKK.1
  obtain ⟨hP, hD⟩ : PD D A ((GA k a IA LA FA QA VA r) ++ ((GB k a IB LB FB QB VB r) ++ ((GC k a IC LC FC QC VC r) ++ ((GD k a ID LD FD QD VD r) ++ ((GR k a IR LR FR QR VR r) ++ (r.tl)))))) H := ⟨hP, hD⟩
  obtain ⟨hWI, hWI_0, hWI_1, hWI_2, hrd, htr0, htr1, htr2, htr3, hrgk, hrgt, hdrc, hev, hmk, hM, hMK, hTI, hFS, htd, hlt, rgH, rgS, rgY, hdr, hit, hmmk, heq, htq, hrel, hbf, htb, hkw, hSK, hSK0, hSK1, hSK2, hNE, hNE0, hNE1, hNE2, hLE, hYE, hQE, hLE0, hLE1, hLE2, hYE0, hYE1, hYE2⟩ := id hI
  obtain ⟨gw1, gw2, gw3, gw4, gw5, gw6, gw7, gw8, gw9, gw10, gw11⟩ := id hWI
  have hx0 := gw9
  have hYI := gw11
  have hpf : rgI (FR 3) (-128) 127 900 := fun e h1 h2 => by rw [← htb e h1 h2]; exact hbf e h1 h2
  obtain ⟨z1, hz1, hz1a, hz1b⟩ := i32_z (xs (iZ (i + 1)).toNatClampNeg)
  obtain ⟨z2, hz2, hz2a, hz2b⟩ := i32_z (xs (iZ (i + 2)).toNatClampNeg)
  obtain ⟨z3, hz3, hz3a, hz3b⟩ := i32_z (xs (iZ (i + 3)).toNatClampNeg)
  obtain ⟨z4, hz4, hz4a, hz4b⟩ := i32_z (xs (iZ (i + 4)).toNatClampNeg)
  obtain ⟨z5, hz5, hz5a, hz5b⟩ := i32_z (xs (iZ (i + 5)).toNatClampNeg)
  have hl : lv_has ls 4 [(3, .int (iZ i)), (2, .ref (a 106)), (1, .ref (a 0)), (0, .ref b)] := hl
  have hls := hQE.1
  replace hls : _ := hls
  refine lv_aload_n hx hb dL_law_1926 rfl (lv_at hl 2 rfl) ?_
  refine CKV2 (As := []) (rest := []) (tl := (GB k a IB LB FB QB VB r) ++ ((GC k a IC LC FC QC VC r) ++ ((GD k a ID LD FD QD VD r) ++ ((GR k a IR LR FR QR VR r) ++ (r.tl))))) hx hb hml hown hts hKK hP hD hS hA (p_disputes l D k (a 0) (a 1) (a 2) (a 3) (a 4) (a 5) (a 6) (a 7) (a 8) (a 9) (a 10) (a 11) (IA 0) (IA 1) (IA 2) (LA 0) (LA 1) ([.ref (a 26), .ref (a 27), .ref (a 28), .int (iZ (IA 3)), .int (iZ (IA 4)), .int (iZ (IA 5)), .int (iZ (IA 6))]) (a 23) (a 27) (a 28) (a 24) (a 25) (IA 3) (IA 4) (IA 5) (FA 0) (FA 1) (a 29) (a 30) (a 31) (a 32) (IA 7) (IA 8) (FA 2) (FA 3) (FA 4) (FA 5) rfl rfl rfl rfl rfl (by first | with_reducible assumption | omega) hx0 (by first | with_reducible assumption | omega) (by first | with_reducible assumption | omega) (by first | with_reducible assumption | omega) (by first | with_reducible assumption | omega) (by first | with_reducible assumption | omega) gw10) ci_X11_disputes qm_L_202 ⟨Nat.le_of_ble_eq_true rfl, Nat.le_of_ble_eq_true rfl⟩ (lroom _) [0, 1, 3, 8, 9, 10, 11, 2, 6, 7] [4, 5, 12, 13, 14, 15, 16, 17, 18, 19, 20, 21, 22, 23, 24, 25] rfl rfl rfl (by decide +kernel) (by decide +kernel) (by decide +kernel) 0 rfl rfl rfl hl.1 rfl (Nat.le_of_ble_eq_true rfl) dL_law_1927 (fun u_1 H locs hφ hP hD hS => ?_)
  obtain ⟨hP, hD⟩ := PD.by3 (is := [16, 17, 23, 18, 0, 1, 24, 25, 19, 20, 21, 22, 2, 3, 4, 5, 6, 7, 8, 9, 10, 11, 12, 13, 14, 15]) (y := (GA k a (u9 IA 2 u_1.1.2) LA FA QA VA r)) ⟨hP, hD⟩ (by decide +kernel) rfl rfl
  refine W.eq (g2 := F0 m 1930 ls [.int (iZ u_1.1.1)]) rfl ?_
  refine lv_pop hx hb dL_law_1930 rfl ?_
  refine lv_aload_n hx hb dL_law_1931 rfl (lv_at hl 1 rfl) ?_
  obtain ⟨hP, hD⟩ := PD.fr5 ⟨hP, hD⟩
  refine CKV2 (As := []) (rest := []) (tl := (GA k a (u9 IA 2 u_1.1.2) LA FA QA VA r) ++ ((GB k a IB LB FB QB VB r) ++ ((GC k a IC LC FC QC VC r) ++ ((GD k a ID LD FD QD VD r) ++ (r.tl))))) hx hb hml hown hts hKK hP hD hS hA (q_disputes l D k (a 106) (a 107) (a 108) (a 109) (a 110) (a 111) (a 112) (a 113) (a 114) (a 115) (a 116) (a 117) (a 118) (a 119) (a 120) (a 121) (a 122) (IR 0) (IR 1) (IR 2) (IR 3) (IR 4) (IR 5) (IR 6) (IR 7) (IR 8) (IR 9) (IR 10) (IR 11) (IR 12) (IR 13) (IR 14) (IR 15) (IR 16) (IR 17) (LR 0) (LR 1) (FR 0) (FR 6) (FR 7) (FR 8) (FR 9) hM rgH) ci_X12_disputes qm_L_205 ⟨Nat.le_of_ble_eq_true rfl, Nat.le_of_ble_eq_true rfl⟩ (lroom _) [0, 1, 9, 10, 11, 12] [2, 3, 4, 5, 6, 7, 8, 13, 14, 15, 16] rfl rfl rfl (by decide +kernel) (by decide +kernel) (by decide +kernel) 0 rfl rfl rfl hl.1 rfl (Nat.le_of_ble_eq_true rfl) dL_law_1932 (fun u_2 H locs hφ hP hD hS => ?_)
  have p_3 : rgI u_2.2.2.1.2.2.2 0 1000000 120 := hφ
  obtain ⟨hP, hD⟩ := PD.by3 (is := [11, 12, 0, 1, 2, 3, 4, 5, 6, 13, 14, 15, 16, 7, 8, 9, 10]) (y := (GR k a (u9 IR 0 u_2.1.2) LR (u9 (u9 (u9 (u9 FR 6 u_2.2.2.1.1) 7 u_2.2.2.1.2.1) 8 u_2.2.2.1.2.2.1) 9 u_2.2.2.1.2.2.2) QR VR r)) ⟨hP, hD⟩ (by decide +kernel) rfl rfl
  refine W.eq (g2 := F0 m 1935 ls [.int (iZ u_2.1.1)]) rfl ?_
  refine lv_pop hx hb dL_law_1935 rfl ?_
  refine lv_goto (tgt := 2846) hx hb dL_law_1936 rfl ?_
  obtain ⟨hP, hD⟩ := PD.fr5 ⟨hP, hD⟩
  obtain ⟨hP, hD⟩ := PD.fr5 ⟨hP, hD⟩
  obtain ⟨hP, hD⟩ := PD.fr5 ⟨hP, hD⟩
  obtain ⟨hP, hD⟩ := PD.fr5 ⟨hP, hD⟩
  exact hk a (u9 IA 2 u_1.1.2) LA FA QA VA IB LB FB QB VB IC LC FC QC VC ID LD FD QD VD (u9 IR 0 u_2.1.2) LR (u9 (u9 (u9 (u9 FR 6 u_2.2.2.1.1) 7 u_2.2.2.1.2.1) 8 u_2.2.2.1.2.2.1) 9 u_2.2.2.1.2.2.2) QR VR r H locs ls (show INV _ _ _ _ _ _ _ _ _ _ _ _ _ _ _ from ⟨hWI, hWI_0, hWI_1, hWI_2, hrd, htr0, htr1, htr2, htr3, hrgk, hrgt, hdrc, hev, hmk, hM, hMK, hTI, hFS, htd, hlt, (show rgI u_2.2.2.1.2.2.2 0 1000000 120 from (by assumption)), rgS, rgY, hdr, hit, hmmk, heq, htq, hrel, hbf, htb, hkw, hSK, hSK0, hSK1, hSK2, hNE, hNE0, hNE1, hNE2, hLE, hYE, hQE, hLE0, hLE1, hLE2, hYE0, hYE1, hYE2⟩) hRT hP hD hS (lv_sub hl [0, 1, 2, 3] rfl)
set_option maxHeartbeats 40000000 in
set_option maxRecDepth 100000 in
theorem law_c45 {p : Program} {e : Env} {s : State} {m : MethodId} {below : List Frame} {meth : Method} {c : Code} (l : Launch) {b L : Nat} {xs : Nat → Int32} {A : Nat → Prop} {D : va_G} {k : Nat → ClassId} {sa sv : Nat} {i : Int} (C : LFX p s m meth c b L xs A D k sa sv) (hi : 0 ≤ i ∧ i + 6 ≤ (L : Int)) (hk : LAT p l e s m below meth c b A D k 2846 i) : LAT p l e s m below meth c b A D k 1939 i := by
  obtain ⟨hx, hb, hr, hml, hown, hts, hKK, hX, hbl, hbA, hA, hAf, hlocks, hSY, hRR, hL⟩ := id C
  intro a IA LA FA QA VA IB LB FB QB VB IC LC FC QC VC ID LD FD QD VD IR LR FR QR VR r H locs ls hI hRT hP hD hS hl
  have hK := hKK.1
  obtain ⟨hP, hD⟩ : PD D A ((GA k a IA LA FA QA VA r) ++ ((GB k a IB LB FB QB VB r) ++ ((GC k a IC LC FC QC VC r) ++ ((GD k a ID LD FD QD VD r) ++ ((GR k a IR LR FR QR VR r) ++ (r.tl)))))) H := ⟨hP, hD⟩
  obtain ⟨hWI, hWI_0, hWI_1, hWI_2, hrd, htr0, htr1, htr2, htr3, hrgk, hrgt, hdrc, hev, hmk, hM, hMK, hTI, hFS, htd, hlt, rgH, rgS, rgY, hdr, hit, hmmk, heq, htq, hrel, hbf, htb, hkw, hSK, hSK0, hSK1, hSK2, hNE, hNE0, hNE1, hNE2, hLE, hYE, hQE, hLE0, hLE1, hLE2, hYE0, hYE1, hYE2⟩ := id hI
  obtain ⟨gw1, gw2, gw3, gw4, gw5, gw6, gw7, gw8, gw9, gw10, gw11⟩ := id hWI
  have hx0 := gw9
  have hYI := gw11
  have hpf : rgI (FR 3) (-128) 127 900 := fun e h1 h2 => by rw [← htb e h1 h2]; exact hbf e h1 h2
  obtain ⟨z1, hz1, hz1a, hz1b⟩ := i32_z (xs (iZ (i + 1)).toNatClampNeg)
  obtain ⟨z2, hz2, hz2a, hz2b⟩ := i32_z (xs (iZ (i + 2)).toNatClampNeg)
  obtain ⟨z3, hz3, hz3a, hz3b⟩ := i32_z (xs (iZ (i + 3)).toNatClampNeg)
  obtain ⟨z4, hz4, hz4a, hz4b⟩ := i32_z (xs (iZ (i + 4)).toNatClampNeg)
  obtain ⟨z5, hz5, hz5a, hz5b⟩ := i32_z (xs (iZ (i + 5)).toNatClampNeg)
  have hl : lv_has ls 4 [(3, .int (iZ i)), (2, .ref (a 106)), (1, .ref (a 0)), (0, .ref b)] := hl
  have hls := hQE.1
  replace hls : _ := hls
  refine lv_aload_n hx hb dL_law_1939 rfl (lv_at hl 2 rfl) ?_
  refine lv_aload_n hx hb dL_law_1940 rfl (lv_at hl 3 rfl) ?_
  refine lv_iload_n hx hb dL_law_1941 rfl (lv_at hl 0 rfl) ?_
  refine lv_iconst (v := iZ 1) hx hb dL_law_1942 rfl ?_
  refine lv_iadd hx hb dL_law_1943 ?_
  refine lv_topi (fun x_1 ex_1 => ?_)
  obtain rfl : x_1 = iZ (i + 1) := ex_1.trans (iZ_add i 1)
  refine va_sld hx hb hX hbl hbA hS (zi1 hi hL) dL_law_1944 ?_
  refine lv_topi (fun x_2 ex_2 => ?_)
  obtain rfl : x_2 = iZ z1 := ex_2.trans hz1
  refine CKV2 (As := [.int (iZ z1)]) (rest := []) (tl := (GB k a IB LB FB QB VB r) ++ ((GC k a IC LC FC QC VC r) ++ ((GD k a ID LD FD QD VD r) ++ ((GR k a IR LR FR QR VR r) ++ (r.tl))))) hx hb hml hown hts hKK hP hD hS hA (p_peace l D k (a 0) (a 1) (a 2) (a 3) (a 4) (a 5) (a 6) (a 7) (a 8) (a 9) (a 10) (a 11) (IA 0) (IA 1) (IA 2) (LA 0) (LA 1) ([.ref (a 26), .ref (a 27), .ref (a 28), .int (iZ (IA 3)), .int (iZ (IA 4)), .int (iZ (IA 5)), .int (iZ (IA 6))]) (a 23) (a 27) (a 28) (a 24) (a 25) (IA 3) (IA 4) (IA 5) (FA 0) (FA 1) (a 29) (a 30) (a 31) (a 32) (IA 7) (IA 8) (FA 2) (FA 3) (FA 4) (FA 5) z1 rfl rfl rfl rfl rfl (by first | with_reducible assumption | omega) hx0 (by first | with_reducible assumption | omega) (by first | with_reducible assumption | omega) (by first | with_reducible assumption | omega) (by first | with_reducible assumption | omega) (by first | with_reducible assumption | omega) gw10 ⟨hz1a, hz1b⟩) ci_X11_peace qm_L_206 ⟨Nat.le_of_ble_eq_true rfl, Nat.le_of_ble_eq_true rfl⟩ (lroom _) [0, 1, 3, 8, 9, 10, 11, 2, 6, 7] [4, 5, 12, 13, 14, 15, 16, 17, 18, 19, 20, 21, 22, 23, 24, 25] rfl rfl rfl (by decide +kernel) (by decide +kernel) (by decide +kernel) 0 rfl rfl rfl hl.1 rfl (Nat.le_of_ble_eq_true rfl) dL_law_1945 (fun u_3 H locs hφ hP hD hS => ?_)
  obtain ⟨hP, hD⟩ := PD.by3 (is := [16, 17, 23, 18, 0, 1, 24, 25, 19, 20, 21, 22, 2, 3, 4, 5, 6, 7, 8, 9, 10, 11, 12, 13, 14, 15]) (y := (GA k a (u9 IA 2 u_3.1.2) LA FA QA VA r)) ⟨hP, hD⟩ (by decide +kernel) rfl rfl
  refine W.eq (g2 := F0 m 1948 ls [.int (iZ u_3.1.1)]) rfl ?_
  refine lv_pop hx hb dL_law_1948 rfl ?_
  refine lv_aload_n hx hb dL_law_1949 rfl (lv_at hl 1 rfl) ?_
  refine lv_aload_n hx hb dL_law_1950 rfl (lv_at hl 3 rfl) ?_
  refine lv_iload_n hx hb dL_law_1951 rfl (lv_at hl 0 rfl) ?_
  refine lv_iconst (v := iZ 1) hx hb dL_law_1952 rfl ?_
  refine lv_iadd hx hb dL_law_1953 ?_
  refine lv_topi (fun x_4 ex_4 => ?_)
  obtain rfl : x_4 = iZ (i + 1) := ex_4.trans (iZ_add i 1)
  refine va_sld hx hb hX hbl hbA hS (zi1 hi hL) dL_law_1954 ?_
  refine lv_topi (fun x_5 ex_5 => ?_)
  obtain rfl : x_5 = iZ z1 := ex_5.trans hz1
  obtain ⟨hP, hD⟩ := PD.fr5 ⟨hP, hD⟩
  refine CKV2 (As := [.int (iZ z1)]) (rest := []) (tl := (GA k a (u9 IA 2 u_3.1.2) LA FA QA VA r) ++ ((GB k a IB LB FB QB VB r) ++ ((GC k a IC LC FC QC VC r) ++ ((GD k a ID LD FD QD VD r) ++ (r.tl))))) hx hb hml hown hts hKK hP hD hS hA (q_peace l D k (a 106) (a 107) (a 108) (a 109) (a 110) (a 111) (a 112) (a 113) (a 114) (a 115) (a 116) (a 117) (a 118) (a 119) (a 120) (a 121) (a 122) (IR 0) (IR 1) (IR 2) (IR 3) (IR 4) (IR 5) (IR 6) (IR 7) (IR 8) (IR 9) (IR 10) (IR 11) (IR 12) (IR 13) (IR 14) (IR 15) (IR 16) (IR 17) (LR 0) (LR 1) (FR 0) (FR 6) (FR 7) (FR 8) (FR 9) z1 hM rgH ⟨hz1a, hz1b⟩) ci_X12_peace qm_L_209 ⟨Nat.le_of_ble_eq_true rfl, Nat.le_of_ble_eq_true rfl⟩ (lroom _) [0, 1, 9, 10, 11, 12] [2, 3, 4, 5, 6, 7, 8, 13, 14, 15, 16] rfl rfl rfl (by decide +kernel) (by decide +kernel) (by decide +kernel) 0 rfl rfl rfl hl.1 rfl (Nat.le_of_ble_eq_true rfl) dL_law_1955 (fun u_6 H locs hφ hP hD hS => ?_)
  have p_7 : rgI u_6.2.2.1.2.2.2 0 1000000 120 := hφ
  obtain ⟨hP, hD⟩ := PD.by3 (is := [11, 12, 0, 1, 2, 3, 4, 5, 6, 13, 14, 15, 16, 7, 8, 9, 10]) (y := (GR k a (u9 IR 0 u_6.1.2) LR (u9 (u9 (u9 (u9 FR 6 u_6.2.2.1.1) 7 u_6.2.2.1.2.1) 8 u_6.2.2.1.2.2.1) 9 u_6.2.2.1.2.2.2) QR VR r)) ⟨hP, hD⟩ (by decide +kernel) rfl rfl
  refine W.eq (g2 := F0 m 1958 ls [.int (iZ u_6.1.1)]) rfl ?_
  refine lv_pop hx hb dL_law_1958 rfl ?_
  refine lv_goto (tgt := 2846) hx hb dL_law_1959 rfl ?_
  obtain ⟨hP, hD⟩ := PD.fr5 ⟨hP, hD⟩
  obtain ⟨hP, hD⟩ := PD.fr5 ⟨hP, hD⟩
  obtain ⟨hP, hD⟩ := PD.fr5 ⟨hP, hD⟩
  obtain ⟨hP, hD⟩ := PD.fr5 ⟨hP, hD⟩
  exact hk a (u9 IA 2 u_3.1.2) LA FA QA VA IB LB FB QB VB IC LC FC QC VC ID LD FD QD VD (u9 IR 0 u_6.1.2) LR (u9 (u9 (u9 (u9 FR 6 u_6.2.2.1.1) 7 u_6.2.2.1.2.1) 8 u_6.2.2.1.2.2.1) 9 u_6.2.2.1.2.2.2) QR VR r H locs ls (show INV _ _ _ _ _ _ _ _ _ _ _ _ _ _ _ from ⟨hWI, hWI_0, hWI_1, hWI_2, hrd, htr0, htr1, htr2, htr3, hrgk, hrgt, hdrc, hev, hmk, hM, hMK, hTI, hFS, htd, hlt, (show rgI u_6.2.2.1.2.2.2 0 1000000 120 from (by assumption)), rgS, rgY, hdr, hit, hmmk, heq, htq, hrel, hbf, htb, hkw, hSK, hSK0, hSK1, hSK2, hNE, hNE0, hNE1, hNE2, hLE, hYE, hQE, hLE0, hLE1, hLE2, hYE0, hYE1, hYE2⟩) hRT hP hD hS (lv_sub hl [0, 1, 2, 3] rfl)
set_option maxHeartbeats 40000000 in
set_option maxRecDepth 100000 in
theorem law_c46 {p : Program} {e : Env} {s : State} {m : MethodId} {below : List Frame} {meth : Method} {c : Code} (l : Launch) {b L : Nat} {xs : Nat → Int32} {A : Nat → Prop} {D : va_G} {k : Nat → ClassId} {sa sv : Nat} {i : Int} (C : LFX p s m meth c b L xs A D k sa sv) (hi : 0 ≤ i ∧ i + 6 ≤ (L : Int)) (hk : LAT p l e s m below meth c b A D k 2846 i) : LAT p l e s m below meth c b A D k 1962 i := by
  obtain ⟨hx, hb, hr, hml, hown, hts, hKK, hX, hbl, hbA, hA, hAf, hlocks, hSY, hRR, hL⟩ := id C
  intro a IA LA FA QA VA IB LB FB QB VB IC LC FC QC VC ID LD FD QD VD IR LR FR QR VR r H locs ls hI hRT hP hD hS hl
  have hK := hKK.1
  obtain ⟨hP, hD⟩ : PD D A ((GA k a IA LA FA QA VA r) ++ ((GB k a IB LB FB QB VB r) ++ ((GC k a IC LC FC QC VC r) ++ ((GD k a ID LD FD QD VD r) ++ ((GR k a IR LR FR QR VR r) ++ (r.tl)))))) H := ⟨hP, hD⟩
  obtain ⟨hWI, hWI_0, hWI_1, hWI_2, hrd, htr0, htr1, htr2, htr3, hrgk, hrgt, hdrc, hev, hmk, hM, hMK, hTI, hFS, htd, hlt, rgH, rgS, rgY, hdr, hit, hmmk, heq, htq, hrel, hbf, htb, hkw, hSK, hSK0, hSK1, hSK2, hNE, hNE0, hNE1, hNE2, hLE, hYE, hQE, hLE0, hLE1, hLE2, hYE0, hYE1, hYE2⟩ := id hI
  obtain ⟨gw1, gw2, gw3, gw4, gw5, gw6, gw7, gw8, gw9, gw10, gw11⟩ := id hWI
  have hx0 := gw9
  have hYI := gw11
  have hpf : rgI (FR 3) (-128) 127 900 := fun e h1 h2 => by rw [← htb e h1 h2]; exact hbf e h1 h2
  obtain ⟨z1, hz1, hz1a, hz1b⟩ := i32_z (xs (iZ (i + 1)).toNatClampNeg)
  obtain ⟨z2, hz2, hz2a, hz2b⟩ := i32_z (xs (iZ (i + 2)).toNatClampNeg)
  obtain ⟨z3, hz3, hz3a, hz3b⟩ := i32_z (xs (iZ (i + 3)).toNatClampNeg)
  obtain ⟨z4, hz4, hz4a, hz4b⟩ := i32_z (xs (iZ (i + 4)).toNatClampNeg)
  obtain ⟨z5, hz5, hz5a, hz5b⟩ := i32_z (xs (iZ (i + 5)).toNatClampNeg)
  have hl : lv_has ls 4 [(3, .int (iZ i)), (2, .ref (a 106)), (1, .ref (a 0)), (0, .ref b)] := hl
  have hls := hQE.1
  replace hls : _ := hls
  refine lv_aload_n hx hb dL_law_1962 rfl (lv_at hl 2 rfl) ?_
  refine lv_aload_n hx hb dL_law_1963 rfl (lv_at hl 3 rfl) ?_
  refine lv_iload_n hx hb dL_law_1964 rfl (lv_at hl 0 rfl) ?_
  refine lv_iconst (v := iZ 1) hx hb dL_law_1965 rfl ?_
  refine lv_iadd hx hb dL_law_1966 ?_
  refine lv_topi (fun x_1 ex_1 => ?_)
  obtain rfl : x_1 = iZ (i + 1) := ex_1.trans (iZ_add i 1)
  refine va_sld hx hb hX hbl hbA hS (zi1 hi hL) dL_law_1967 ?_
  refine lv_topi (fun x_2 ex_2 => ?_)
  obtain rfl : x_2 = iZ z1 := ex_2.trans hz1
  refine lv_aload_n hx hb dL_law_1968 rfl (lv_at hl 3 rfl) ?_
  refine lv_iload_n hx hb dL_law_1969 rfl (lv_at hl 0 rfl) ?_
  refine lv_iconst (v := iZ 2) hx hb dL_law_1970 rfl ?_
  refine lv_iadd hx hb dL_law_1971 ?_
  refine lv_topi (fun x_3 ex_3 => ?_)
  obtain rfl : x_3 = iZ (i + 2) := ex_3.trans (iZ_add i 2)
  refine va_sld hx hb hX hbl hbA hS (zi2 hi hL) dL_law_1972 ?_
  refine lv_topi (fun x_4 ex_4 => ?_)
  obtain rfl : x_4 = iZ z2 := ex_4.trans hz2
  refine CKV2 (As := [.int (iZ z1), .int (iZ z2)]) (rest := []) (tl := (GB k a IB LB FB QB VB r) ++ ((GC k a IC LC FC QC VC r) ++ ((GD k a ID LD FD QD VD r) ++ ((GR k a IR LR FR QR VR r) ++ (r.tl))))) hx hb hml hown hts hKK hP hD hS hA (p_kth l D k (a 0) (a 1) (a 2) (a 3) (a 4) (a 5) (a 6) (a 7) (a 8) (a 9) (a 10) (a 11) (IA 0) (IA 1) (IA 2) (LA 0) (LA 1) ([.ref (a 26), .ref (a 27), .ref (a 28), .int (iZ (IA 3)), .int (iZ (IA 4)), .int (iZ (IA 5)), .int (iZ (IA 6))]) (a 23) (a 27) (a 28) (a 24) (a 25) (IA 3) (IA 4) (IA 5) (FA 0) (FA 1) (a 29) (a 30) (a 31) (a 32) (IA 7) (IA 8) (FA 2) (FA 3) (FA 4) (FA 5) z1 z2 rfl rfl rfl rfl rfl (by first | with_reducible assumption | omega) hx0 (by first | with_reducible assumption | omega) (by first | with_reducible assumption | omega) (by first | with_reducible assumption | omega) (by first | with_reducible assumption | omega) (by first | with_reducible assumption | omega) gw10 ⟨hz1a, hz1b⟩ ⟨hz2a, hz2b⟩) ci_X11_kth qm_L_210 ⟨Nat.le_of_ble_eq_true rfl, Nat.le_of_ble_eq_true rfl⟩ (lroom _) [0, 1, 3, 8, 9, 10, 11, 2, 6, 7] [4, 5, 12, 13, 14, 15, 16, 17, 18, 19, 20, 21, 22, 23, 24, 25] rfl rfl rfl (by decide +kernel) (by decide +kernel) (by decide +kernel) 0 rfl rfl rfl hl.1 rfl (Nat.le_of_ble_eq_true rfl) dL_law_1973 (fun u_5 H locs hφ hP hD hS => ?_)
  obtain ⟨hP, hD⟩ := PD.by3 (is := [16, 17, 23, 18, 0, 1, 24, 25, 19, 20, 21, 22, 2, 3, 4, 5, 6, 7, 8, 9, 10, 11, 12, 13, 14, 15]) (y := (GA k a (u9 IA 2 u_5.1.2) LA FA QA VA r)) ⟨hP, hD⟩ (by decide +kernel) rfl rfl
  refine W.eq (g2 := F0 m 1976 ls [.int (iZ u_5.1.1)]) rfl ?_
  refine lv_pop hx hb dL_law_1976 rfl ?_
  refine lv_aload_n hx hb dL_law_1977 rfl (lv_at hl 1 rfl) ?_
  refine lv_aload_n hx hb dL_law_1978 rfl (lv_at hl 3 rfl) ?_
  refine lv_iload_n hx hb dL_law_1979 rfl (lv_at hl 0 rfl) ?_
  refine lv_iconst (v := iZ 1) hx hb dL_law_1980 rfl ?_
  refine lv_iadd hx hb dL_law_1981 ?_
  refine lv_topi (fun x_6 ex_6 => ?_)
  obtain rfl : x_6 = iZ (i + 1) := ex_6.trans (iZ_add i 1)
  refine va_sld hx hb hX hbl hbA hS (zi1 hi hL) dL_law_1982 ?_
  refine lv_topi (fun x_7 ex_7 => ?_)
  obtain rfl : x_7 = iZ z1 := ex_7.trans hz1
  refine lv_aload_n hx hb dL_law_1983 rfl (lv_at hl 3 rfl) ?_
  refine lv_iload_n hx hb dL_law_1984 rfl (lv_at hl 0 rfl) ?_
  refine lv_iconst (v := iZ 2) hx hb dL_law_1985 rfl ?_
  refine lv_iadd hx hb dL_law_1986 ?_
  refine lv_topi (fun x_8 ex_8 => ?_)
  obtain rfl : x_8 = iZ (i + 2) := ex_8.trans (iZ_add i 2)
  refine va_sld hx hb hX hbl hbA hS (zi2 hi hL) dL_law_1987 ?_
  refine lv_topi (fun x_9 ex_9 => ?_)
  obtain rfl : x_9 = iZ z2 := ex_9.trans hz2
  obtain ⟨hP, hD⟩ := PD.fr5 ⟨hP, hD⟩
  refine CKV2 (As := [.int (iZ z1), .int (iZ z2)]) (rest := []) (tl := (GA k a (u9 IA 2 u_5.1.2) LA FA QA VA r) ++ ((GB k a IB LB FB QB VB r) ++ ((GC k a IC LC FC QC VC r) ++ ((GD k a ID LD FD QD VD r) ++ (r.tl))))) hx hb hml hown hts hKK hP hD hS hA (q_kth l D k (a 106) (a 107) (a 108) (a 109) (a 110) (a 111) (a 112) (a 113) (a 114) (a 115) (a 116) (a 117) (a 118) (a 119) (a 120) (a 121) (a 122) (IR 0) (IR 1) (IR 2) (IR 3) (IR 4) (IR 5) (IR 6) (IR 7) (IR 8) (IR 9) (IR 10) (IR 11) (IR 12) (IR 13) (IR 14) (IR 15) (IR 16) (IR 17) (LR 0) (LR 1) (FR 0) (FR 6) (FR 7) (FR 8) (FR 9) z1 z2 hM rgH ⟨hz1a, hz1b⟩ ⟨hz2a, hz2b⟩) ci_X12_kth qm_L_213 ⟨Nat.le_of_ble_eq_true rfl, Nat.le_of_ble_eq_true rfl⟩ (lroom _) [0, 1, 9, 10, 11, 12] [2, 3, 4, 5, 6, 7, 8, 13, 14, 15, 16] rfl rfl rfl (by decide +kernel) (by decide +kernel) (by decide +kernel) 0 rfl rfl rfl hl.1 rfl (Nat.le_of_ble_eq_true rfl) dL_law_1988 (fun u_10 H locs hφ hP hD hS => ?_)
  have p_11 : rgI u_10.2.2.1.2.2.2 0 1000000 120 := hφ
  obtain ⟨hP, hD⟩ := PD.by3 (is := [11, 12, 0, 1, 2, 3, 4, 5, 6, 13, 14, 15, 16, 7, 8, 9, 10]) (y := (GR k a (u9 IR 0 u_10.1.2) LR (u9 (u9 (u9 (u9 FR 6 u_10.2.2.1.1) 7 u_10.2.2.1.2.1) 8 u_10.2.2.1.2.2.1) 9 u_10.2.2.1.2.2.2) QR VR r)) ⟨hP, hD⟩ (by decide +kernel) rfl rfl
  refine W.eq (g2 := F0 m 1991 ls [.int (iZ u_10.1.1)]) rfl ?_
  refine lv_pop hx hb dL_law_1991 rfl ?_
  refine lv_goto (tgt := 2846) hx hb dL_law_1992 rfl ?_
  obtain ⟨hP, hD⟩ := PD.fr5 ⟨hP, hD⟩
  obtain ⟨hP, hD⟩ := PD.fr5 ⟨hP, hD⟩
  obtain ⟨hP, hD⟩ := PD.fr5 ⟨hP, hD⟩
  obtain ⟨hP, hD⟩ := PD.fr5 ⟨hP, hD⟩
  exact hk a (u9 IA 2 u_5.1.2) LA FA QA VA IB LB FB QB VB IC LC FC QC VC ID LD FD QD VD (u9 IR 0 u_10.1.2) LR (u9 (u9 (u9 (u9 FR 6 u_10.2.2.1.1) 7 u_10.2.2.1.2.1) 8 u_10.2.2.1.2.2.1) 9 u_10.2.2.1.2.2.2) QR VR r H locs ls (show INV _ _ _ _ _ _ _ _ _ _ _ _ _ _ _ from ⟨hWI, hWI_0, hWI_1, hWI_2, hrd, htr0, htr1, htr2, htr3, hrgk, hrgt, hdrc, hev, hmk, hM, hMK, hTI, hFS, htd, hlt, (show rgI u_10.2.2.1.2.2.2 0 1000000 120 from (by assumption)), rgS, rgY, hdr, hit, hmmk, heq, htq, hrel, hbf, htb, hkw, hSK, hSK0, hSK1, hSK2, hNE, hNE0, hNE1, hNE2, hLE, hYE, hQE, hLE0, hLE1, hLE2, hYE0, hYE1, hYE2⟩) hRT hP hD hS (lv_sub hl [0, 1, 2, 3] rfl)
set_option maxHeartbeats 40000000 in
set_option maxRecDepth 100000 in
theorem law_c47 {p : Program} {e : Env} {s : State} {m : MethodId} {below : List Frame} {meth : Method} {c : Code} (l : Launch) {b L : Nat} {xs : Nat → Int32} {A : Nat → Prop} {D : va_G} {k : Nat → ClassId} {sa sv : Nat} {i : Int} (C : LFX p s m meth c b L xs A D k sa sv) (hi : 0 ≤ i ∧ i + 6 ≤ (L : Int)) (hk : LAT p l e s m below meth c b A D k 2846 i) : LAT p l e s m below meth c b A D k 1995 i := by
  obtain ⟨hx, hb, hr, hml, hown, hts, hKK, hX, hbl, hbA, hA, hAf, hlocks, hSY, hRR, hL⟩ := id C
  intro a IA LA FA QA VA IB LB FB QB VB IC LC FC QC VC ID LD FD QD VD IR LR FR QR VR r H locs ls hI hRT hP hD hS hl
  have hK := hKK.1
  obtain ⟨hP, hD⟩ : PD D A ((GA k a IA LA FA QA VA r) ++ ((GB k a IB LB FB QB VB r) ++ ((GC k a IC LC FC QC VC r) ++ ((GD k a ID LD FD QD VD r) ++ ((GR k a IR LR FR QR VR r) ++ (r.tl)))))) H := ⟨hP, hD⟩
  obtain ⟨hWI, hWI_0, hWI_1, hWI_2, hrd, htr0, htr1, htr2, htr3, hrgk, hrgt, hdrc, hev, hmk, hM, hMK, hTI, hFS, htd, hlt, rgH, rgS, rgY, hdr, hit, hmmk, heq, htq, hrel, hbf, htb, hkw, hSK, hSK0, hSK1, hSK2, hNE, hNE0, hNE1, hNE2, hLE, hYE, hQE, hLE0, hLE1, hLE2, hYE0, hYE1, hYE2⟩ := id hI
  obtain ⟨gw1, gw2, gw3, gw4, gw5, gw6, gw7, gw8, gw9, gw10, gw11⟩ := id hWI
  have hx0 := gw9
  have hYI := gw11
  have hpf : rgI (FR 3) (-128) 127 900 := fun e h1 h2 => by rw [← htb e h1 h2]; exact hbf e h1 h2
  obtain ⟨z1, hz1, hz1a, hz1b⟩ := i32_z (xs (iZ (i + 1)).toNatClampNeg)
  obtain ⟨z2, hz2, hz2a, hz2b⟩ := i32_z (xs (iZ (i + 2)).toNatClampNeg)
  obtain ⟨z3, hz3, hz3a, hz3b⟩ := i32_z (xs (iZ (i + 3)).toNatClampNeg)
  obtain ⟨z4, hz4, hz4a, hz4b⟩ := i32_z (xs (iZ (i + 4)).toNatClampNeg)
  obtain ⟨z5, hz5, hz5a, hz5b⟩ := i32_z (xs (iZ (i + 5)).toNatClampNeg)
  have hl : lv_has ls 4 [(3, .int (iZ i)), (2, .ref (a 106)), (1, .ref (a 0)), (0, .ref b)] := hl
  have hls := hQE.1
  replace hls : _ := hls
  refine lv_aload_n hx hb dL_law_1995 rfl (lv_at hl 2 rfl) ?_
  refine lv_aload_n hx hb dL_law_1996 rfl (lv_at hl 3 rfl) ?_
  refine lv_iload_n hx hb dL_law_1997 rfl (lv_at hl 0 rfl) ?_
  refine lv_iconst (v := iZ 1) hx hb dL_law_1998 rfl ?_
  refine lv_iadd hx hb dL_law_1999 ?_
  refine lv_topi (fun x_1 ex_1 => ?_)
  obtain rfl : x_1 = iZ (i + 1) := ex_1.trans (iZ_add i 1)
  refine va_sld hx hb hX hbl hbA hS (zi1 hi hL) dL_law_2000 ?_
  refine lv_topi (fun x_2 ex_2 => ?_)
  obtain rfl : x_2 = iZ z1 := ex_2.trans hz1
  refine lv_aload_n hx hb dL_law_2001 rfl (lv_at hl 3 rfl) ?_
  refine lv_iload_n hx hb dL_law_2002 rfl (lv_at hl 0 rfl) ?_
  refine lv_iconst (v := iZ 2) hx hb dL_law_2003 rfl ?_
  refine lv_iadd hx hb dL_law_2004 ?_
  refine lv_topi (fun x_3 ex_3 => ?_)
  obtain rfl : x_3 = iZ (i + 2) := ex_3.trans (iZ_add i 2)
  refine va_sld hx hb hX hbl hbA hS (zi2 hi hL) dL_law_2005 ?_
  refine lv_topi (fun x_4 ex_4 => ?_)
  obtain rfl : x_4 = iZ z2 := ex_4.trans hz2
  refine CKV2 (As := [.int (iZ z1), .int (iZ z2)]) (rest := []) (tl := (GB k a IB LB FB QB VB r) ++ ((GC k a IC LC FC QC VC r) ++ ((GD k a ID LD FD QD VD r) ++ ((GR k a IR LR FR QR VR r) ++ (r.tl))))) hx hb hml hown hts hKK hP hD hS hA (p_reign l D k (a 0) (a 1) (a 2) (a 3) (a 4) (a 5) (a 6) (a 7) (a 8) (a 9) (a 10) (a 11) (IA 0) (IA 1) (IA 2) (LA 0) (LA 1) ([.ref (a 26), .ref (a 27), .ref (a 28), .int (iZ (IA 3)), .int (iZ (IA 4)), .int (iZ (IA 5)), .int (iZ (IA 6))]) (a 23) (a 27) (a 28) (a 24) (a 25) (IA 3) (IA 4) (IA 5) (FA 0) (FA 1) (a 29) (a 30) (a 31) (a 32) (IA 7) (IA 8) (FA 2) (FA 3) (FA 4) (FA 5) z1 z2 rfl rfl rfl rfl rfl (by first | with_reducible assumption | omega) hx0 (by first | with_reducible assumption | omega) (by first | with_reducible assumption | omega) (by first | with_reducible assumption | omega) (by first | with_reducible assumption | omega) (by first | with_reducible assumption | omega) gw10 ⟨hz1a, hz1b⟩ ⟨hz2a, hz2b⟩) ci_X11_reign qm_L_214 ⟨Nat.le_of_ble_eq_true rfl, Nat.le_of_ble_eq_true rfl⟩ (lroom _) [0, 1, 3, 8, 9, 10, 11, 2, 6, 7] [4, 5, 12, 13, 14, 15, 16, 17, 18, 19, 20, 21, 22, 23, 24, 25] rfl rfl rfl (by decide +kernel) (by decide +kernel) (by decide +kernel) 0 rfl rfl rfl hl.1 rfl (Nat.le_of_ble_eq_true rfl) dL_law_2006 (fun u_5 H locs hφ hP hD hS => ?_)
  obtain ⟨hP, hD⟩ := PD.by3 (is := [16, 17, 23, 18, 0, 1, 24, 25, 19, 20, 21, 22, 2, 3, 4, 5, 6, 7, 8, 9, 10, 11, 12, 13, 14, 15]) (y := (GA k a (u9 IA 2 u_5.1.2) LA FA QA VA r)) ⟨hP, hD⟩ (by decide +kernel) rfl rfl
  refine W.eq (g2 := F0 m 2009 ls [.int (iZ u_5.1.1)]) rfl ?_
  refine lv_pop hx hb dL_law_2009 rfl ?_
  refine lv_aload_n hx hb dL_law_2010 rfl (lv_at hl 1 rfl) ?_
  refine lv_aload_n hx hb dL_law_2011 rfl (lv_at hl 3 rfl) ?_
  refine lv_iload_n hx hb dL_law_2012 rfl (lv_at hl 0 rfl) ?_
  refine lv_iconst (v := iZ 1) hx hb dL_law_2013 rfl ?_
  refine lv_iadd hx hb dL_law_2014 ?_
  refine lv_topi (fun x_6 ex_6 => ?_)
  obtain rfl : x_6 = iZ (i + 1) := ex_6.trans (iZ_add i 1)
  refine va_sld hx hb hX hbl hbA hS (zi1 hi hL) dL_law_2015 ?_
  refine lv_topi (fun x_7 ex_7 => ?_)
  obtain rfl : x_7 = iZ z1 := ex_7.trans hz1
  refine lv_aload_n hx hb dL_law_2016 rfl (lv_at hl 3 rfl) ?_
  refine lv_iload_n hx hb dL_law_2017 rfl (lv_at hl 0 rfl) ?_
  refine lv_iconst (v := iZ 2) hx hb dL_law_2018 rfl ?_
  refine lv_iadd hx hb dL_law_2019 ?_
  refine lv_topi (fun x_8 ex_8 => ?_)
  obtain rfl : x_8 = iZ (i + 2) := ex_8.trans (iZ_add i 2)
  refine va_sld hx hb hX hbl hbA hS (zi2 hi hL) dL_law_2020 ?_
  refine lv_topi (fun x_9 ex_9 => ?_)
  obtain rfl : x_9 = iZ z2 := ex_9.trans hz2
  obtain ⟨hP, hD⟩ := PD.fr5 ⟨hP, hD⟩
  refine CKV2 (As := [.int (iZ z1), .int (iZ z2)]) (rest := []) (tl := (GA k a (u9 IA 2 u_5.1.2) LA FA QA VA r) ++ ((GB k a IB LB FB QB VB r) ++ ((GC k a IC LC FC QC VC r) ++ ((GD k a ID LD FD QD VD r) ++ (r.tl))))) hx hb hml hown hts hKK hP hD hS hA (q_reign l D k (a 106) (a 107) (a 108) (a 109) (a 110) (a 111) (a 112) (a 113) (a 114) (a 115) (a 116) (a 117) (a 118) (a 119) (a 120) (a 121) (a 122) (IR 0) (IR 1) (IR 2) (IR 3) (IR 4) (IR 5) (IR 6) (IR 7) (IR 8) (IR 9) (IR 10) (IR 11) (IR 12) (IR 13) (IR 14) (IR 15) (IR 16) (IR 17) (LR 0) (LR 1) (FR 0) (FR 6) (FR 7) (FR 8) (FR 9) z1 z2 hM rgH ⟨hz1a, hz1b⟩ ⟨hz2a, hz2b⟩) ci_X12_reign qm_L_217 ⟨Nat.le_of_ble_eq_true rfl, Nat.le_of_ble_eq_true rfl⟩ (lroom _) [0, 1, 9, 10, 11, 12] [2, 3, 4, 5, 6, 7, 8, 13, 14, 15, 16] rfl rfl rfl (by decide +kernel) (by decide +kernel) (by decide +kernel) 0 rfl rfl rfl hl.1 rfl (Nat.le_of_ble_eq_true rfl) dL_law_2021 (fun u_10 H locs hφ hP hD hS => ?_)
  have p_11 : rgI u_10.2.2.1.2.2.2 0 1000000 120 := hφ
  obtain ⟨hP, hD⟩ := PD.by3 (is := [11, 12, 0, 1, 2, 3, 4, 5, 6, 13, 14, 15, 16, 7, 8, 9, 10]) (y := (GR k a (u9 IR 0 u_10.1.2) LR (u9 (u9 (u9 (u9 FR 6 u_10.2.2.1.1) 7 u_10.2.2.1.2.1) 8 u_10.2.2.1.2.2.1) 9 u_10.2.2.1.2.2.2) QR VR r)) ⟨hP, hD⟩ (by decide +kernel) rfl rfl
  refine W.eq (g2 := F0 m 2024 ls [.int (iZ u_10.1.1)]) rfl ?_
  refine lv_pop hx hb dL_law_2024 rfl ?_
  refine lv_goto (tgt := 2846) hx hb dL_law_2025 rfl ?_
  obtain ⟨hP, hD⟩ := PD.fr5 ⟨hP, hD⟩
  obtain ⟨hP, hD⟩ := PD.fr5 ⟨hP, hD⟩
  obtain ⟨hP, hD⟩ := PD.fr5 ⟨hP, hD⟩
  obtain ⟨hP, hD⟩ := PD.fr5 ⟨hP, hD⟩
  exact hk a (u9 IA 2 u_5.1.2) LA FA QA VA IB LB FB QB VB IC LC FC QC VC ID LD FD QD VD (u9 IR 0 u_10.1.2) LR (u9 (u9 (u9 (u9 FR 6 u_10.2.2.1.1) 7 u_10.2.2.1.2.1) 8 u_10.2.2.1.2.2.1) 9 u_10.2.2.1.2.2.2) QR VR r H locs ls (show INV _ _ _ _ _ _ _ _ _ _ _ _ _ _ _ from ⟨hWI, hWI_0, hWI_1, hWI_2, hrd, htr0, htr1, htr2, htr3, hrgk, hrgt, hdrc, hev, hmk, hM, hMK, hTI, hFS, htd, hlt, (show rgI u_10.2.2.1.2.2.2 0 1000000 120 from (by assumption)), rgS, rgY, hdr, hit, hmmk, heq, htq, hrel, hbf, htb, hkw, hSK, hSK0, hSK1, hSK2, hNE, hNE0, hNE1, hNE2, hLE, hYE, hQE, hLE0, hLE1, hLE2, hYE0, hYE1, hYE2⟩) hRT hP hD hS (lv_sub hl [0, 1, 2, 3] rfl)
end
