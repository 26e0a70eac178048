theorem qc_X11_mark : Cond.code yX11_mark cX11_mark 1 (some .int) ∈ gw := tbt (tb6 (List.mem_of_getElem? (i := 23) rfl)) rfl
theorem qi_yX11_mark : Cond.instanceMethod yX11_mark ∈ gw := tbt (tb6 (List.mem_of_getElem? (i := 21) rfl)) rfl
theorem qs_X11_mark : Cond.selects (yX11_mark).cls yX11_mark yX11_mark ∈ gw := tbt (tb6 (List.mem_of_getElem? (i := 22) rfl)) rfl
theorem ci_X11_mark : CIv yX11_mark cX11_mark 1 (some .int) 0 := ⟨qc_X11_mark, qi_yX11_mark, qs_X11_mark, qz_X11, by decide +kernel⟩
theorem qm_L_315 : Cond.methodLink RL 315 yX11_mark ∈ gw := tbt (tb6 (List.mem_of_getElem? (i := 20) rfl)) rfl
theorem qc_X12_mark : Cond.code yX12_mark cX12_mark 1 (some .int) ∈ gw := tbt (tb9 (List.mem_of_getElem? (i := 41) rfl)) rfl
theorem qi_yX12_mark : Cond.instanceMethod yX12_mark ∈ gw := tbt (tb9 (List.mem_of_getElem? (i := 39) rfl)) rfl
theorem qs_X12_mark : Cond.selects (yX12_mark).cls yX12_mark yX12_mark ∈ gw := tbt (tb9 (List.mem_of_getElem? (i := 40) rfl)) rfl
theorem ci_X12_mark : CIv yX12_mark cX12_mark 1 (some .int) 0 := ⟨qc_X12_mark, qi_yX12_mark, qs_X12_mark, qz_X12, by decide +kernel⟩
theorem qm_L_318 : Cond.methodLink RL 318 yX12_mark ∈ gw := tbt (tb9 (List.mem_of_getElem? (i := 38) rfl)) rfl
theorem qc_X11_back : Cond.code yX11_back cX11_back 1 (some .int) ∈ gw := tbt (tb6 (List.mem_of_getElem? (i := 33) rfl)) rfl
theorem qi_yX11_back : Cond.instanceMethod yX11_back ∈ gw := tbt (tb6 (List.mem_of_getElem? (i := 31) rfl)) rfl
theorem qs_X11_back : Cond.selects (yX11_back).cls yX11_back yX11_back ∈ gw := tbt (tb6 (List.mem_of_getElem? (i := 32) rfl)) rfl
theorem ci_X11_back : CIv yX11_back cX11_back 1 (some .int) 0 := ⟨qc_X11_back, qi_yX11_back, qs_X11_back, qz_X11, by decide +kernel⟩
theorem qm_L_319 : Cond.methodLink RL 319 yX11_back ∈ gw := tbt (tb6 (List.mem_of_getElem? (i := 30) rfl)) rfl
theorem qc_X12_back : Cond.code yX12_back cX12_back 1 (some .int) ∈ gw := tbt (tb9 (List.mem_of_getElem? (i := 49) rfl)) rfl
theorem qi_yX12_back : Cond.instanceMethod yX12_back ∈ gw := tbt (tb9 (List.mem_of_getElem? (i := 47) rfl)) rfl
theorem qs_X12_back : Cond.selects (yX12_back).cls yX12_back yX12_back ∈ gw := tbt (tb9 (List.mem_of_getElem? (i := 48) rfl)) rfl
theorem ci_X12_back : CIv yX12_back cX12_back 1 (some .int) 0 := ⟨qc_X12_back, qi_yX12_back, qs_X12_back, qz_X12, by decide +kernel⟩
theorem qm_L_322 : Cond.methodLink RL 322 yX12_back ∈ gw := tbt (tb9 (List.mem_of_getElem? (i := 46) rfl)) rfl
theorem dL_law_2820 : decode cL_law 2820 = .ok (.aload_n 1, 1) := fq1_43 (fl_44 (j := 4) rfl rfl)
theorem dL_law_2821 : decode cL_law 2821 = .ok (.invokevirtual 315, 3) := fq3_182 (fl_44 (j := 5) rfl rfl) (fl_44 (j := 6) rfl rfl) (fl_44 (j := 7) rfl rfl) (by decide)
theorem dL_law_2824 : decode cL_law 2824 = .ok (.pop, 1) := fq1_87 (fl_44 (j := 8) rfl rfl)
theorem dL_law_2825 : decode cL_law 2825 = .ok (.aload_n 2, 1) := fq1_44 (fl_44 (j := 9) rfl rfl)
theorem dL_law_2826 : decode cL_law 2826 = .ok (.invokevirtual 318, 3) := fq3_182 (fl_44 (j := 10) rfl rfl) (fl_44 (j := 11) rfl rfl) (fl_44 (j := 12) rfl rfl) (by decide)
theorem dL_law_2829 : decode cL_law 2829 = .ok (.pop, 1) := fq1_87 (fl_44 (j := 13) rfl rfl)
theorem dL_law_2830 : decode cL_law 2830 = .ok (.goto 16, 3) := fq3_167 (fl_44 (j := 14) rfl rfl) (fl_44 (j := 15) rfl rfl) (fl_44 (j := 16) rfl rfl) (by decide)
theorem dL_law_2833 : decode cL_law 2833 = .ok (.aload_n 1, 1) := fq1_43 (fl_44 (j := 17) rfl rfl)
theorem dL_law_2834 : decode cL_law 2834 = .ok (.invokevirtual 319, 3) := fq3_182 (fl_44 (j := 18) rfl rfl) (fl_44 (j := 19) rfl rfl) (fl_44 (j := 20) rfl rfl) (by decide)
theorem dL_law_2837 : decode cL_law 2837 = .ok (.pop, 1) := fq1_87 (fl_44 (j := 21) rfl rfl)
theorem dL_law_2838 : decode cL_law 2838 = .ok (.aload_n 2, 1) := fq1_44 (fl_44 (j := 22) rfl rfl)
theorem dL_law_2839 : decode cL_law 2839 = .ok (.invokevirtual 322, 3) := fq3_182 (fl_44 (j := 23) rfl rfl) (fl_44 (j := 24) rfl rfl) (fl_44 (j := 25) rfl rfl) (by decide)
theorem dL_law_2842 : decode cL_law 2842 = .ok (.pop, 1) := fq1_87 (fl_44 (j := 26) rfl rfl)
theorem dL_law_2843 : decode cL_law 2843 = .ok (.goto 3, 3) := fq3_167 (fl_44 (j := 27) rfl rfl) (fl_44 (j := 28) rfl rfl) (fl_44 (j := 29) rfl rfl) (by decide)
