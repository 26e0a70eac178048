theorem qc_X11_fashion : Cond.code yX11_fashion cX11_fashion 4 (some .int) ∈ gw := tbt (tb5 (List.mem_of_getElem? (i := 192) rfl)) rfl
theorem qi_yX11_fashion : Cond.instanceMethod yX11_fashion ∈ gw := tbt (tb5 (List.mem_of_getElem? (i := 190) rfl)) rfl
theorem qs_X11_fashion : Cond.selects (yX11_fashion).cls yX11_fashion yX11_fashion ∈ gw := tbt (tb5 (List.mem_of_getElem? (i := 191) rfl)) rfl
theorem ci_X11_fashion : CIv yX11_fashion cX11_fashion 4 (some .int) 2 := ⟨qc_X11_fashion, qi_yX11_fashion, qs_X11_fashion, qz_X11, by decide +kernel⟩
theorem qm_L_283 : Cond.methodLink RL 283 yX11_fashion ∈ gw := tbt (tb5 (List.mem_of_getElem? (i := 189) rfl)) rfl
theorem qc_X12_fashion : Cond.code yX12_fashion cX12_fashion 3 (some .int) ∈ gw := tbt (tb8 (List.mem_of_getElem? (i := 219) rfl)) rfl
theorem qi_yX12_fashion : Cond.instanceMethod yX12_fashion ∈ gw := tbt (tb8 (List.mem_of_getElem? (i := 217) rfl)) rfl
theorem qs_X12_fashion : Cond.selects (yX12_fashion).cls yX12_fashion yX12_fashion ∈ gw := tbt (tb8 (List.mem_of_getElem? (i := 218) rfl)) rfl
theorem ci_X12_fashion : CIv yX12_fashion cX12_fashion 3 (some .int) 2 := ⟨qc_X12_fashion, qi_yX12_fashion, qs_X12_fashion, qz_X12, by decide +kernel⟩
theorem qm_L_286 : Cond.methodLink RL 286 yX12_fashion ∈ gw := tbt (tb8 (List.mem_of_getElem? (i := 216) rfl)) rfl
theorem qc_X11_follows : Cond.code yX11_follows cX11_follows 3 (some .int) ∈ gw := tbt (tb5 (List.mem_of_getElem? (i := 196) rfl)) rfl
theorem qi_yX11_follows : Cond.instanceMethod yX11_follows ∈ gw := tbt (tb5 (List.mem_of_getElem? (i := 194) rfl)) rfl
theorem qs_X11_follows : Cond.selects (yX11_follows).cls yX11_follows yX11_follows ∈ gw := tbt (tb5 (List.mem_of_getElem? (i := 195) rfl)) rfl
theorem ci_X11_follows : CIv yX11_follows cX11_follows 3 (some .int) 2 := ⟨qc_X11_follows, qi_yX11_follows, qs_X11_follows, qz_X11, by decide +kernel⟩
theorem qm_L_287 : Cond.methodLink RL 287 yX11_follows ∈ gw := tbt (tb5 (List.mem_of_getElem? (i := 193) rfl)) rfl
theorem qc_X12_follows : Cond.code yX12_follows cX12_follows 3 (some .int) ∈ gw := tbt (tb8 (List.mem_of_getElem? (i := 223) rfl)) rfl
theorem qi_yX12_follows : Cond.instanceMethod yX12_follows ∈ gw := tbt (tb8 (List.mem_of_getElem? (i := 221) rfl)) rfl
theorem qs_X12_follows : Cond.selects (yX12_follows).cls yX12_follows yX12_follows ∈ gw := tbt (tb8 (List.mem_of_getElem? (i := 222) rfl)) rfl
theorem ci_X12_follows : CIv yX12_follows cX12_follows 3 (some .int) 2 := ⟨qc_X12_follows, qi_yX12_follows, qs_X12_follows, qz_X12, by decide +kernel⟩
theorem qm_L_290 : Cond.methodLink RL 290 yX12_follows ∈ gw := tbt (tb8 (List.mem_of_getElem? (i := 220) rfl)) rfl
theorem qc_X11_model : Cond.code yX11_model cX11_model 6 (some .int) ∈ gw := tbt (tb5 (List.mem_of_getElem? (i := 204) rfl)) rfl
theorem qi_yX11_model : Cond.instanceMethod yX11_model ∈ gw := tbt (tb5 (List.mem_of_getElem? (i := 202) rfl)) rfl
theorem qs_X11_model : Cond.selects (yX11_model).cls yX11_model yX11_model ∈ gw := tbt (tb5 (List.mem_of_getElem? (i := 203) rfl)) rfl
theorem ci_X11_model : CIv yX11_model cX11_model 6 (some .int) 1 := ⟨qc_X11_model, qi_yX11_model, qs_X11_model, qz_X11, by decide +kernel⟩
theorem qm_L_291 : Cond.methodLink RL 291 yX11_model ∈ gw := tbt (tb5 (List.mem_of_getElem? (i := 201) rfl)) rfl
theorem qc_X12_model : Cond.code yX12_model cX12_model 6 (some .int) ∈ gw := tbt (tb8 (List.mem_of_getElem? (i := 231) rfl)) rfl
theorem qi_yX12_model : Cond.instanceMethod yX12_model ∈ gw := tbt (tb8 (List.mem_of_getElem? (i := 229) rfl)) rfl
theorem qs_X12_model : Cond.selects (yX12_model).cls yX12_model yX12_model ∈ gw := tbt (tb8 (List.mem_of_getElem? (i := 230) rfl)) rfl
theorem ci_X12_model : CIv yX12_model cX12_model 6 (some .int) 1 := ⟨qc_X12_model, qi_yX12_model, qs_X12_model, qz_X12, by decide +kernel⟩
theorem qm_L_294 : Cond.methodLink RL 294 yX12_model ∈ gw := tbt (tb8 (List.mem_of_getElem? (i := 228) rfl)) rfl
theorem qc_X11_changes : Cond.code yX11_changes cX11_changes 5 (some .int) ∈ gw := tbt (tb5 (List.mem_of_getElem? (i := 208) rfl)) rfl
theorem qi_yX11_changes : Cond.instanceMethod yX11_changes ∈ gw := tbt (tb5 (List.mem_of_getElem? (i := 206) rfl)) rfl
theorem qs_X11_changes : Cond.selects (yX11_changes).cls yX11_changes yX11_changes ∈ gw := tbt (tb5 (List.mem_of_getElem? (i := 207) rfl)) rfl
theorem ci_X11_changes : CIv yX11_changes cX11_changes 5 (some .int) 1 := ⟨qc_X11_changes, qi_yX11_changes, qs_X11_changes, qz_X11, by decide +kernel⟩
theorem qm_L_295 : Cond.methodLink RL 295 yX11_changes ∈ gw := tbt (tb5 (List.mem_of_getElem? (i := 205) rfl)) rfl
theorem qc_X12_changes : Cond.code yX12_changes cX12_changes 4 (some .int) ∈ gw := tbt (tb8 (List.mem_of_getElem? (i := 239) rfl)) rfl
theorem qi_yX12_changes : Cond.instanceMethod yX12_changes ∈ gw := tbt (tb8 (List.mem_of_getElem? (i := 237) rfl)) rfl
theorem qs_X12_changes : Cond.selects (yX12_changes).cls yX12_changes yX12_changes ∈ gw := tbt (tb8 (List.mem_of_getElem? (i := 238) rfl)) rfl
theorem ci_X12_changes : CIv yX12_changes cX12_changes 4 (some .int) 1 := ⟨qc_X12_changes, qi_yX12_changes, qs_X12_changes, qz_X12, by decide +kernel⟩
theorem qm_L_298 : Cond.methodLink RL 298 yX12_changes ∈ gw := tbt (tb8 (List.mem_of_getElem? (i := 236) rfl)) rfl
theorem qc_X11_uniform : Cond.code yX11_uniform cX11_uniform 5 (some .int) ∈ gw := tbt (tb5 (List.mem_of_getElem? (i := 212) rfl)) rfl
theorem qi_yX11_uniform : Cond.instanceMethod yX11_uniform ∈ gw := tbt (tb5 (List.mem_of_getElem? (i := 210) rfl)) rfl
theorem qs_X11_uniform : Cond.selects (yX11_uniform).cls yX11_uniform yX11_uniform ∈ gw := tbt (tb5 (List.mem_of_getElem? (i := 211) rfl)) rfl
theorem ci_X11_uniform : CIv yX11_uniform cX11_uniform 5 (some .int) 0 := ⟨qc_X11_uniform, qi_yX11_uniform, qs_X11_uniform, qz_X11, by decide +kernel⟩
theorem qm_L_299 : Cond.methodLink RL 299 yX11_uniform ∈ gw := tbt (tb5 (List.mem_of_getElem? (i := 209) rfl)) rfl
theorem qc_X12_uniform : Cond.code yX12_uniform cX12_uniform 3 (some .int) ∈ gw := tbt (tb8 (List.mem_of_getElem? (i := 235) rfl)) rfl
theorem qi_yX12_uniform : Cond.instanceMethod yX12_uniform ∈ gw := tbt (tb8 (List.mem_of_getElem? (i := 233) rfl)) rfl
theorem qs_X12_uniform : Cond.selects (yX12_uniform).cls yX12_uniform yX12_uniform ∈ gw := tbt (tb8 (List.mem_of_getElem? (i := 234) rfl)) rfl
theorem ci_X12_uniform : CIv yX12_uniform cX12_uniform 3 (some .int) 0 := ⟨qc_X12_uniform, qi_yX12_uniform, qs_X12_uniform, qz_X12, by decide +kernel⟩
theorem qm_L_302 : Cond.methodLink RL 302 yX12_uniform ∈ gw := tbt (tb8 (List.mem_of_getElem? (i := 232) rfl)) rfl
theorem qc_X11_live : Cond.code yX11_live cX11_live 2 (some .int) ∈ gw := tbt (tb5 (List.mem_of_getElem? (i := 216) rfl)) rfl
theorem qi_yX11_live : Cond.instanceMethod yX11_live ∈ gw := tbt (tb5 (List.mem_of_getElem? (i := 214) rfl)) rfl
theorem qs_X11_live : Cond.selects (yX11_live).cls yX11_live yX11_live ∈ gw := tbt (tb5 (List.mem_of_getElem? (i := 215) rfl)) rfl
theorem ci_X11_live : CIv yX11_live cX11_live 2 (some .int) 1 := ⟨qc_X11_live, qi_yX11_live, qs_X11_live, qz_X11, by decide +kernel⟩
theorem qm_L_303 : Cond.methodLink RL 303 yX11_live ∈ gw := tbt (tb5 (List.mem_of_getElem? (i := 213) rfl)) rfl
theorem qc_X12_live : Cond.code yX12_live cX12_live 3 (some .int) ∈ gw := tbt (tb9 (List.mem_of_getElem? (i := 3) rfl)) rfl
theorem qi_yX12_live : Cond.instanceMethod yX12_live ∈ gw := tbt (tb9 (List.mem_of_getElem? (i := 1) rfl)) rfl
theorem qs_X12_live : Cond.selects (yX12_live).cls yX12_live yX12_live ∈ gw := tbt (tb9 (List.mem_of_getElem? (i := 2) rfl)) rfl
theorem ci_X12_live : CIv yX12_live cX12_live 3 (some .int) 1 := ⟨qc_X12_live, qi_yX12_live, qs_X12_live, qz_X12, by decide +kernel⟩
theorem qm_L_306 : Cond.methodLink RL 306 yX12_live ∈ gw := tbt (tb9 (List.mem_of_getElem? (i := 0) rfl)) rfl
theorem qc_X11_lived : Cond.code yX11_lived cX11_lived 2 (some .int) ∈ gw := tbt (tb6 (List.mem_of_getElem? (i := 10) rfl)) rfl
theorem qi_yX11_lived : Cond.instanceMethod yX11_lived ∈ gw := tbt (tb6 (List.mem_of_getElem? (i := 8) rfl)) rfl
theorem qs_X11_lived : Cond.selects (yX11_lived).cls yX11_lived yX11_lived ∈ gw := tbt (tb6 (List.mem_of_getElem? (i := 9) rfl)) rfl
theorem ci_X11_lived : CIv yX11_lived cX11_lived 2 (some .int) 1 := ⟨qc_X11_lived, qi_yX11_lived, qs_X11_lived, qz_X11, by decide +kernel⟩
theorem qm_L_307 : Cond.methodLink RL 307 yX11_lived ∈ gw := tbt (tb6 (List.mem_of_getElem? (i := 7) rfl)) rfl
theorem qc_X12_lived : Cond.code yX12_lived cX12_lived 2 (some .int) ∈ gw := tbt (tb9 (List.mem_of_getElem? (i := 29) rfl)) rfl
theorem qi_yX12_lived : Cond.instanceMethod yX12_lived ∈ gw := tbt (tb9 (List.mem_of_getElem? (i := 27) rfl)) rfl
theorem qs_X12_lived : Cond.selects (yX12_lived).cls yX12_lived yX12_lived ∈ gw := tbt (tb9 (List.mem_of_getElem? (i := 28) rfl)) rfl
theorem ci_X12_lived : CIv yX12_lived cX12_lived 2 (some .int) 1 := ⟨qc_X12_lived, qi_yX12_lived, qs_X12_lived, qz_X12, by decide +kernel⟩
theorem qm_L_310 : Cond.methodLink RL 310 yX12_lived ∈ gw := tbt (tb9 (List.mem_of_getElem? (i := 26) rfl)) rfl
theorem qc_X11_mean : Cond.code yX11_mean cX11_mean 5 (some .boolean) ∈ gw := tbt (tb6 (List.mem_of_getElem? (i := 14) rfl)) rfl
theorem qi_yX11_mean : Cond.instanceMethod yX11_mean ∈ gw := tbt (tb6 (List.mem_of_getElem? (i := 12) rfl)) rfl
theorem qs_X11_mean : Cond.selects (yX11_mean).cls yX11_mean yX11_mean ∈ gw := tbt (tb6 (List.mem_of_getElem? (i := 13) rfl)) rfl
theorem ci_X11_mean : CIv yX11_mean cX11_mean 5 (some .boolean) 2 := ⟨qc_X11_mean, qi_yX11_mean, qs_X11_mean, qz_X11, by decide +kernel⟩
theorem qm_L_311 : Cond.methodLink RL 311 yX11_mean ∈ gw := tbt (tb6 (List.mem_of_getElem? (i := 11) rfl)) rfl
theorem qc_X12_mean : Cond.code yX12_mean cX12_mean 7 (some .boolean) ∈ gw := tbt (tb9 (List.mem_of_getElem? (i := 33) rfl)) rfl
theorem qi_yX12_mean : Cond.instanceMethod yX12_mean ∈ gw := tbt (tb9 (List.mem_of_getElem? (i := 31) rfl)) rfl
theorem qs_X12_mean : Cond.selects (yX12_mean).cls yX12_mean yX12_mean ∈ gw := tbt (tb9 (List.mem_of_getElem? (i := 32) rfl)) rfl
theorem ci_X12_mean : CIv yX12_mean cX12_mean 7 (some .boolean) 2 := ⟨qc_X12_mean, qi_yX12_mean, qs_X12_mean, qz_X12, by decide +kernel⟩
theorem qm_L_314 : Cond.methodLink RL 314 yX12_mean ∈ gw := tbt (tb9 (List.mem_of_getElem? (i := 30) rfl)) rfl
theorem dL_law_2616 : decode cL_law 2616 = .ok (.aload_n 1, 1) := fq1_43 (fl_40 (j := 56) rfl rfl)
theorem dL_law_2617 : decode cL_law 2617 = .ok (.aload_n 0, 1) := fq1_42 (fl_40 (j := 57) rfl rfl)
theorem dL_law_2618 : decode cL_law 2618 = .ok (.iload_n 3, 1) := fq1_29 (fl_40 (j := 58) rfl rfl)
theorem dL_law_2619 : decode cL_law 2619 = .ok (.iconst 1, 1) := fq1_4 (fl_40 (j := 59) rfl rfl)
theorem dL_law_2620 : decode cL_law 2620 = .ok (.iadd, 1) := fq1_96 (fl_40 (j := 60) rfl rfl)
theorem dL_law_2621 : decode cL_law 2621 = .ok (.iaload, 1) := fq1_46 (fl_40 (j := 61) rfl rfl)
theorem dL_law_2622 : decode cL_law 2622 = .ok (.aload_n 0, 1) := fq1_42 (fl_40 (j := 62) rfl rfl)
theorem dL_law_2623 : decode cL_law 2623 = .ok (.iload_n 3, 1) := fq1_29 (fl_40 (j := 63) rfl rfl)
theorem dL_law_2624 : decode cL_law 2624 = .ok (.iconst 2, 1) := fq1_5 (fl_41 (j := 0) rfl rfl)
theorem dL_law_2625 : decode cL_law 2625 = .ok (.iadd, 1) := fq1_96 (fl_41 (j := 1) rfl rfl)
theorem dL_law_2626 : decode cL_law 2626 = .ok (.iaload, 1) := fq1_46 (fl_41 (j := 2) rfl rfl)
theorem dL_law_2627 : decode cL_law 2627 = .ok (.invokevirtual 283, 3) := fq3_182 (fl_41 (j := 3) rfl rfl) (fl_41 (j := 4) rfl rfl) (fl_41 (j := 5) rfl rfl) (by decide)
theorem dL_law_2630 : decode cL_law 2630 = .ok (.pop, 1) := fq1_87 (fl_41 (j := 6) rfl rfl)
theorem dL_law_2631 : decode cL_law 2631 = .ok (.aload_n 2, 1) := fq1_44 (fl_41 (j := 7) rfl rfl)
theorem dL_law_2632 : decode cL_law 2632 = .ok (.aload_n 0, 1) := fq1_42 (fl_41 (j := 8) rfl rfl)
theorem dL_law_2633 : decode cL_law 2633 = .ok (.iload_n 3, 1) := fq1_29 (fl_41 (j := 9) rfl rfl)
theorem dL_law_2634 : decode cL_law 2634 = .ok (.iconst 1, 1) := fq1_4 (fl_41 (j := 10) rfl rfl)
theorem dL_law_2635 : decode cL_law 2635 = .ok (.iadd, 1) := fq1_96 (fl_41 (j := 11) rfl rfl)
theorem dL_law_2636 : decode cL_law 2636 = .ok (.iaload, 1) := fq1_46 (fl_41 (j := 12) rfl rfl)
theorem dL_law_2637 : decode cL_law 2637 = .ok (.aload_n 0, 1) := fq1_42 (fl_41 (j := 13) rfl rfl)
theorem dL_law_2638 : decode cL_law 2638 = .ok (.iload_n 3, 1) := fq1_29 (fl_41 (j := 14) rfl rfl)
theorem dL_law_2639 : decode cL_law 2639 = .ok (.iconst 2, 1) := fq1_5 (fl_41 (j := 15) rfl rfl)
theorem dL_law_2640 : decode cL_law 2640 = .ok (.iadd, 1) := fq1_96 (fl_41 (j := 16) rfl rfl)
theorem dL_law_2641 : decode cL_law 2641 = .ok (.iaload, 1) := fq1_46 (fl_41 (j := 17) rfl rfl)
theorem dL_law_2642 : decode cL_law 2642 = .ok (.invokevirtual 286, 3) := fq3_182 (fl_41 (j := 18) rfl rfl) (fl_41 (j := 19) rfl rfl) (fl_41 (j := 20) rfl rfl) (by decide)
theorem dL_law_2645 : decode cL_law 2645 = .ok (.pop, 1) := fq1_87 (fl_41 (j := 21) rfl rfl)
theorem dL_law_2646 : decode cL_law 2646 = .ok (.goto 200, 3) := fq3_167 (fl_41 (j := 22) rfl rfl) (fl_41 (j := 23) rfl rfl) (fl_41 (j := 24) rfl rfl) (by decide)
theorem dL_law_2649 : decode cL_law 2649 = .ok (.aload_n 1, 1) := fq1_43 (fl_41 (j := 25) rfl rfl)
theorem dL_law_2650 : decode cL_law 2650 = .ok (.aload_n 0, 1) := fq1_42 (fl_41 (j := 26) rfl rfl)
theorem dL_law_2651 : decode cL_law 2651 = .ok (.iload_n 3, 1) := fq1_29 (fl_41 (j := 27) rfl rfl)
theorem dL_law_2652 : decode cL_law 2652 = .ok (.iconst 1, 1) := fq1_4 (fl_41 (j := 28) rfl rfl)
theorem dL_law_2653 : decode cL_law 2653 = .ok (.iadd, 1) := fq1_96 (fl_41 (j := 29) rfl rfl)
theorem dL_law_2654 : decode cL_law 2654 = .ok (.iaload, 1) := fq1_46 (fl_41 (j := 30) rfl rfl)
theorem dL_law_2655 : decode cL_law 2655 = .ok (.aload_n 0, 1) := fq1_42 (fl_41 (j := 31) rfl rfl)
theorem dL_law_2656 : decode cL_law 2656 = .ok (.iload_n 3, 1) := fq1_29 (fl_41 (j := 32) rfl rfl)
theorem dL_law_2657 : decode cL_law 2657 = .ok (.iconst 2, 1) := fq1_5 (fl_41 (j := 33) rfl rfl)
theorem dL_law_2658 : decode cL_law 2658 = .ok (.iadd, 1) := fq1_96 (fl_41 (j := 34) rfl rfl)
theorem dL_law_2659 : decode cL_law 2659 = .ok (.iaload, 1) := fq1_46 (fl_41 (j := 35) rfl rfl)
theorem dL_law_2660 : decode cL_law 2660 = .ok (.invokevirtual 287, 3) := fq3_182 (fl_41 (j := 36) rfl rfl) (fl_41 (j := 37) rfl rfl) (fl_41 (j := 38) rfl rfl) (by decide)
theorem dL_law_2663 : decode cL_law 2663 = .ok (.pop, 1) := fq1_87 (fl_41 (j := 39) rfl rfl)
theorem dL_law_2664 : decode cL_law 2664 = .ok (.aload_n 2, 1) := fq1_44 (fl_41 (j := 40) rfl rfl)
theorem dL_law_2665 : decode cL_law 2665 = .ok (.aload_n 0, 1) := fq1_42 (fl_41 (j := 41) rfl rfl)
theorem dL_law_2666 : decode cL_law 2666 = .ok (.iload_n 3, 1) := fq1_29 (fl_41 (j := 42) rfl rfl)
theorem dL_law_2667 : decode cL_law 2667 = .ok (.iconst 1, 1) := fq1_4 (fl_41 (j := 43) rfl rfl)
theorem dL_law_2668 : decode cL_law 2668 = .ok (.iadd, 1) := fq1_96 (fl_41 (j := 44) rfl rfl)
theorem dL_law_2669 : decode cL_law 2669 = .ok (.iaload, 1) := fq1_46 (fl_41 (j := 45) rfl rfl)
theorem dL_law_2670 : decode cL_law 2670 = .ok (.aload_n 0, 1) := fq1_42 (fl_41 (j := 46) rfl rfl)
theorem dL_law_2671 : decode cL_law 2671 = .ok (.iload_n 3, 1) := fq1_29 (fl_41 (j := 47) rfl rfl)
theorem dL_law_2672 : decode cL_law 2672 = .ok (.iconst 2, 1) := fq1_5 (fl_41 (j := 48) rfl rfl)
theorem dL_law_2673 : decode cL_law 2673 = .ok (.iadd, 1) := fq1_96 (fl_41 (j := 49) rfl rfl)
theorem dL_law_2674 : decode cL_law 2674 = .ok (.iaload, 1) := fq1_46 (fl_41 (j := 50) rfl rfl)
theorem dL_law_2675 : decode cL_law 2675 = .ok (.invokevirtual 290, 3) := fq3_182 (fl_41 (j := 51) rfl rfl) (fl_41 (j := 52) rfl rfl) (fl_41 (j := 53) rfl rfl) (by decide)
theorem dL_law_2678 : decode cL_law 2678 = .ok (.pop, 1) := fq1_87 (fl_41 (j := 54) rfl rfl)
theorem dL_law_2679 : decode cL_law 2679 = .ok (.goto 167, 3) := fq3_167 (fl_41 (j := 55) rfl rfl) (fl_41 (j := 56) rfl rfl) (fl_41 (j := 57) rfl rfl) (by decide)
theorem dL_law_2682 : decode cL_law 2682 = .ok (.aload_n 1, 1) := fq1_43 (fl_41 (j := 58) rfl rfl)
theorem dL_law_2683 : decode cL_law 2683 = .ok (.aload_n 0, 1) := fq1_42 (fl_41 (j := 59) rfl rfl)
theorem dL_law_2684 : decode cL_law 2684 = .ok (.iload_n 3, 1) := fq1_29 (fl_41 (j := 60) rfl rfl)
theorem dL_law_2685 : decode cL_law 2685 = .ok (.iconst 1, 1) := fq1_4 (fl_41 (j := 61) rfl rfl)
theorem dL_law_2686 : decode cL_law 2686 = .ok (.iadd, 1) := fq1_96 (fl_41 (j := 62) rfl rfl)
theorem dL_law_2687 : decode cL_law 2687 = .ok (.iaload, 1) := fq1_46 (fl_41 (j := 63) rfl rfl)
theorem dL_law_2688 : decode cL_law 2688 = .ok (.invokevirtual 291, 3) := fq3_182 (fl_42 (j := 0) rfl rfl) (fl_42 (j := 1) rfl rfl) (fl_42 (j := 2) rfl rfl) (by decide)
theorem dL_law_2691 : decode cL_law 2691 = .ok (.pop, 1) := fq1_87 (fl_42 (j := 3) rfl rfl)
theorem dL_law_2692 : decode cL_law 2692 = .ok (.aload_n 2, 1) := fq1_44 (fl_42 (j := 4) rfl rfl)
theorem dL_law_2693 : decode cL_law 2693 = .ok (.aload_n 0, 1) := fq1_42 (fl_42 (j := 5) rfl rfl)
theorem dL_law_2694 : decode cL_law 2694 = .ok (.iload_n 3, 1) := fq1_29 (fl_42 (j := 6) rfl rfl)
theorem dL_law_2695 : decode cL_law 2695 = .ok (.iconst 1, 1) := fq1_4 (fl_42 (j := 7) rfl rfl)
theorem dL_law_2696 : decode cL_law 2696 = .ok (.iadd, 1) := fq1_96 (fl_42 (j := 8) rfl rfl)
theorem dL_law_2697 : decode cL_law 2697 = .ok (.iaload, 1) := fq1_46 (fl_42 (j := 9) rfl rfl)
theorem dL_law_2698 : decode cL_law 2698 = .ok (.invokevirtual 294, 3) := fq3_182 (fl_42 (j := 10) rfl rfl) (fl_42 (j := 11) rfl rfl) (fl_42 (j := 12) rfl rfl) (by decide)
theorem dL_law_2701 : decode cL_law 2701 = .ok (.pop, 1) := fq1_87 (fl_42 (j := 13) rfl rfl)
theorem dL_law_2702 : decode cL_law 2702 = .ok (.goto 144, 3) := fq3_167 (fl_42 (j := 14) rfl rfl) (fl_42 (j := 15) rfl rfl) (fl_42 (j := 16) rfl rfl) (by decide)
theorem dL_law_2705 : decode cL_law 2705 = .ok (.aload_n 1, 1) := fq1_43 (fl_42 (j := 17) rfl rfl)
theorem dL_law_2706 : decode cL_law 2706 = .ok (.aload_n 0, 1) := fq1_42 (fl_42 (j := 18) rfl rfl)
theorem dL_law_2707 : decode cL_law 2707 = .ok (.iload_n 3, 1) := fq1_29 (fl_42 (j := 19) rfl rfl)
theorem dL_law_2708 : decode cL_law 2708 = .ok (.iconst 1, 1) := fq1_4 (fl_42 (j := 20) rfl rfl)
theorem dL_law_2709 : decode cL_law 2709 = .ok (.iadd, 1) := fq1_96 (fl_42 (j := 21) rfl rfl)
theorem dL_law_2710 : decode cL_law 2710 = .ok (.iaload, 1) := fq1_46 (fl_42 (j := 22) rfl rfl)
theorem dL_law_2711 : decode cL_law 2711 = .ok (.invokevirtual 295, 3) := fq3_182 (fl_42 (j := 23) rfl rfl) (fl_42 (j := 24) rfl rfl) (fl_42 (j := 25) rfl rfl) (by decide)
theorem dL_law_2714 : decode cL_law 2714 = .ok (.pop, 1) := fq1_87 (fl_42 (j := 26) rfl rfl)
theorem dL_law_2715 : decode cL_law 2715 = .ok (.aload_n 2, 1) := fq1_44 (fl_42 (j := 27) rfl rfl)
theorem dL_law_2716 : decode cL_law 2716 = .ok (.aload_n 0, 1) := fq1_42 (fl_42 (j := 28) rfl rfl)
theorem dL_law_2717 : decode cL_law 2717 = .ok (.iload_n 3, 1) := fq1_29 (fl_42 (j := 29) rfl rfl)
theorem dL_law_2718 : decode cL_law 2718 = .ok (.iconst 1, 1) := fq1_4 (fl_42 (j := 30) rfl rfl)
theorem dL_law_2719 : decode cL_law 2719 = .ok (.iadd, 1) := fq1_96 (fl_42 (j := 31) rfl rfl)
theorem dL_law_2720 : decode cL_law 2720 = .ok (.iaload, 1) := fq1_46 (fl_42 (j := 32) rfl rfl)
theorem dL_law_2721 : decode cL_law 2721 = .ok (.invokevirtual 298, 3) := fq3_182 (fl_42 (j := 33) rfl rfl) (fl_42 (j := 34) rfl rfl) (fl_42 (j := 35) rfl rfl) (by decide)
theorem dL_law_2724 : decode cL_law 2724 = .ok (.pop, 1) := fq1_87 (fl_42 (j := 36) rfl rfl)
theorem dL_law_2725 : decode cL_law 2725 = .ok (.goto 121, 3) := fq3_167 (fl_42 (j := 37) rfl rfl) (fl_42 (j := 38) rfl rfl) (fl_42 (j := 39) rfl rfl) (by decide)
theorem dL_law_2728 : decode cL_law 2728 = .ok (.aload_n 1, 1) := fq1_43 (fl_42 (j := 40) rfl rfl)
theorem dL_law_2729 : decode cL_law 2729 = .ok (.invokevirtual 299, 3) := fq3_182 (fl_42 (j := 41) rfl rfl) (fl_42 (j := 42) rfl rfl) (fl_42 (j := 43) rfl rfl) (by decide)
theorem dL_law_2732 : decode cL_law 2732 = .ok (.pop, 1) := fq1_87 (fl_42 (j := 44) rfl rfl)
theorem dL_law_2733 : decode cL_law 2733 = .ok (.aload_n 2, 1) := fq1_44 (fl_42 (j := 45) rfl rfl)
theorem dL_law_2734 : decode cL_law 2734 = .ok (.invokevirtual 302, 3) := fq3_182 (fl_42 (j := 46) rfl rfl) (fl_42 (j := 47) rfl rfl) (fl_42 (j := 48) rfl rfl) (by decide)
theorem dL_law_2737 : decode cL_law 2737 = .ok (.pop, 1) := fq1_87 (fl_42 (j := 49) rfl rfl)
theorem dL_law_2738 : decode cL_law 2738 = .ok (.goto 108, 3) := fq3_167 (fl_42 (j := 50) rfl rfl) (fl_42 (j := 51) rfl rfl) (fl_42 (j := 52) rfl rfl) (by decide)
theorem dL_law_2741 : decode cL_law 2741 = .ok (.aload_n 1, 1) := fq1_43 (fl_42 (j := 53) rfl rfl)
theorem dL_law_2742 : decode cL_law 2742 = .ok (.aload_n 0, 1) := fq1_42 (fl_42 (j := 54) rfl rfl)
theorem dL_law_2743 : decode cL_law 2743 = .ok (.iload_n 3, 1) := fq1_29 (fl_42 (j := 55) rfl rfl)
theorem dL_law_2744 : decode cL_law 2744 = .ok (.iconst 1, 1) := fq1_4 (fl_42 (j := 56) rfl rfl)
theorem dL_law_2745 : decode cL_law 2745 = .ok (.iadd, 1) := fq1_96 (fl_42 (j := 57) rfl rfl)
theorem dL_law_2746 : decode cL_law 2746 = .ok (.iaload, 1) := fq1_46 (fl_42 (j := 58) rfl rfl)
theorem dL_law_2747 : decode cL_law 2747 = .ok (.invokevirtual 303, 3) := fq3_182 (fl_42 (j := 59) rfl rfl) (fl_42 (j := 60) rfl rfl) (fl_42 (j := 61) rfl rfl) (by decide)
theorem dL_law_2750 : decode cL_law 2750 = .ok (.pop, 1) := fq1_87 (fl_42 (j := 62) rfl rfl)
theorem dL_law_2751 : decode cL_law 2751 = .ok (.aload_n 2, 1) := fq1_44 (fl_42 (j := 63) rfl rfl)
theorem dL_law_2752 : decode cL_law 2752 = .ok (.aload_n 0, 1) := fq1_42 (fl_43 (j := 0) rfl rfl)
theorem dL_law_2753 : decode cL_law 2753 = .ok (.iload_n 3, 1) := fq1_29 (fl_43 (j := 1) rfl rfl)
theorem dL_law_2754 : decode cL_law 2754 = .ok (.iconst 1, 1) := fq1_4 (fl_43 (j := 2) rfl rfl)
theorem dL_law_2755 : decode cL_law 2755 = .ok (.iadd, 1) := fq1_96 (fl_43 (j := 3) rfl rfl)
theorem dL_law_2756 : decode cL_law 2756 = .ok (.iaload, 1) := fq1_46 (fl_43 (j := 4) rfl rfl)
theorem dL_law_2757 : decode cL_law 2757 = .ok (.invokevirtual 306, 3) := fq3_182 (fl_43 (j := 5) rfl rfl) (fl_43 (j := 6) rfl rfl) (fl_43 (j := 7) rfl rfl) (by decide)
theorem dL_law_2760 : decode cL_law 2760 = .ok (.pop, 1) := fq1_87 (fl_43 (j := 8) rfl rfl)
theorem dL_law_2761 : decode cL_law 2761 = .ok (.goto 85, 3) := fq3_167 (fl_43 (j := 9) rfl rfl) (fl_43 (j := 10) rfl rfl) (fl_43 (j := 11) rfl rfl) (by decide)
theorem dL_law_2764 : decode cL_law 2764 = .ok (.aload_n 1, 1) := fq1_43 (fl_43 (j := 12) rfl rfl)
theorem dL_law_2765 : decode cL_law 2765 = .ok (.aload_n 0, 1) := fq1_42 (fl_43 (j := 13) rfl rfl)
theorem dL_law_2766 : decode cL_law 2766 = .ok (.iload_n 3, 1) := fq1_29 (fl_43 (j := 14) rfl rfl)
theorem dL_law_2767 : decode cL_law 2767 = .ok (.iconst 1, 1) := fq1_4 (fl_43 (j := 15) rfl rfl)
theorem dL_law_2768 : decode cL_law 2768 = .ok (.iadd, 1) := fq1_96 (fl_43 (j := 16) rfl rfl)
theorem dL_law_2769 : decode cL_law 2769 = .ok (.iaload, 1) := fq1_46 (fl_43 (j := 17) rfl rfl)
theorem dL_law_2770 : decode cL_law 2770 = .ok (.invokevirtual 307, 3) := fq3_182 (fl_43 (j := 18) rfl rfl) (fl_43 (j := 19) rfl rfl) (fl_43 (j := 20) rfl rfl) (by decide)
theorem dL_law_2773 : decode cL_law 2773 = .ok (.pop, 1) := fq1_87 (fl_43 (j := 21) rfl rfl)
theorem dL_law_2774 : decode cL_law 2774 = .ok (.aload_n 2, 1) := fq1_44 (fl_43 (j := 22) rfl rfl)
theorem dL_law_2775 : decode cL_law 2775 = .ok (.aload_n 0, 1) := fq1_42 (fl_43 (j := 23) rfl rfl)
theorem dL_law_2776 : decode cL_law 2776 = .ok (.iload_n 3, 1) := fq1_29 (fl_43 (j := 24) rfl rfl)
theorem dL_law_2777 : decode cL_law 2777 = .ok (.iconst 1, 1) := fq1_4 (fl_43 (j := 25) rfl rfl)
theorem dL_law_2778 : decode cL_law 2778 = .ok (.iadd, 1) := fq1_96 (fl_43 (j := 26) rfl rfl)
theorem dL_law_2779 : decode cL_law 2779 = .ok (.iaload, 1) := fq1_46 (fl_43 (j := 27) rfl rfl)
theorem dL_law_2780 : decode cL_law 2780 = .ok (.invokevirtual 310, 3) := fq3_182 (fl_43 (j := 28) rfl rfl) (fl_43 (j := 29) rfl rfl) (fl_43 (j := 30) rfl rfl) (by decide)
theorem dL_law_2783 : decode cL_law 2783 = .ok (.pop, 1) := fq1_87 (fl_43 (j := 31) rfl rfl)
theorem dL_law_2784 : decode cL_law 2784 = .ok (.goto 62, 3) := fq3_167 (fl_43 (j := 32) rfl rfl) (fl_43 (j := 33) rfl rfl) (fl_43 (j := 34) rfl rfl) (by decide)
theorem dL_law_2787 : decode cL_law 2787 = .ok (.aload_n 1, 1) := fq1_43 (fl_43 (j := 35) rfl rfl)
theorem dL_law_2788 : decode cL_law 2788 = .ok (.aload_n 0, 1) := fq1_42 (fl_43 (j := 36) rfl rfl)
theorem dL_law_2789 : decode cL_law 2789 = .ok (.iload_n 3, 1) := fq1_29 (fl_43 (j := 37) rfl rfl)
theorem dL_law_2790 : decode cL_law 2790 = .ok (.iconst 1, 1) := fq1_4 (fl_43 (j := 38) rfl rfl)
theorem dL_law_2791 : decode cL_law 2791 = .ok (.iadd, 1) := fq1_96 (fl_43 (j := 39) rfl rfl)
theorem dL_law_2792 : decode cL_law 2792 = .ok (.iaload, 1) := fq1_46 (fl_43 (j := 40) rfl rfl)
theorem dL_law_2793 : decode cL_law 2793 = .ok (.aload_n 0, 1) := fq1_42 (fl_43 (j := 41) rfl rfl)
theorem dL_law_2794 : decode cL_law 2794 = .ok (.iload_n 3, 1) := fq1_29 (fl_43 (j := 42) rfl rfl)
theorem dL_law_2795 : decode cL_law 2795 = .ok (.iconst 2, 1) := fq1_5 (fl_43 (j := 43) rfl rfl)
theorem dL_law_2796 : decode cL_law 2796 = .ok (.iadd, 1) := fq1_96 (fl_43 (j := 44) rfl rfl)
theorem dL_law_2797 : decode cL_law 2797 = .ok (.iaload, 1) := fq1_46 (fl_43 (j := 45) rfl rfl)
theorem dL_law_2798 : decode cL_law 2798 = .ok (.invokevirtual 311, 3) := fq3_182 (fl_43 (j := 46) rfl rfl) (fl_43 (j := 47) rfl rfl) (fl_43 (j := 48) rfl rfl) (by decide)
theorem dL_law_2801 : decode cL_law 2801 = .ok (.pop, 1) := fq1_87 (fl_43 (j := 49) rfl rfl)
theorem dL_law_2802 : decode cL_law 2802 = .ok (.aload_n 2, 1) := fq1_44 (fl_43 (j := 50) rfl rfl)
theorem dL_law_2803 : decode cL_law 2803 = .ok (.aload_n 0, 1) := fq1_42 (fl_43 (j := 51) rfl rfl)
theorem dL_law_2804 : decode cL_law 2804 = .ok (.iload_n 3, 1) := fq1_29 (fl_43 (j := 52) rfl rfl)
theorem dL_law_2805 : decode cL_law 2805 = .ok (.iconst 1, 1) := fq1_4 (fl_43 (j := 53) rfl rfl)
theorem dL_law_2806 : decode cL_law 2806 = .ok (.iadd, 1) := fq1_96 (fl_43 (j := 54) rfl rfl)
theorem dL_law_2807 : decode cL_law 2807 = .ok (.iaload, 1) := fq1_46 (fl_43 (j := 55) rfl rfl)
theorem dL_law_2808 : decode cL_law 2808 = .ok (.aload_n 0, 1) := fq1_42 (fl_43 (j := 56) rfl rfl)
theorem dL_law_2809 : decode cL_law 2809 = .ok (.iload_n 3, 1) := fq1_29 (fl_43 (j := 57) rfl rfl)
theorem dL_law_2810 : decode cL_law 2810 = .ok (.iconst 2, 1) := fq1_5 (fl_43 (j := 58) rfl rfl)
theorem dL_law_2811 : decode cL_law 2811 = .ok (.iadd, 1) := fq1_96 (fl_43 (j := 59) rfl rfl)
theorem dL_law_2812 : decode cL_law 2812 = .ok (.iaload, 1) := fq1_46 (fl_43 (j := 60) rfl rfl)
theorem dL_law_2813 : decode cL_law 2813 = .ok (.invokevirtual 314, 3) := fq3_182 (fl_43 (j := 61) rfl rfl) (fl_43 (j := 62) rfl rfl) (fl_43 (j := 63) rfl rfl) (by decide)
theorem dL_law_2816 : decode cL_law 2816 = .ok (.pop, 1) := fq1_87 (fl_44 (j := 0) rfl rfl)
theorem dL_law_2817 : decode cL_law 2817 = .ok (.goto 29, 3) := fq3_167 (fl_44 (j := 1) rfl rfl) (fl_44 (j := 2) rfl rfl) (fl_44 (j := 3) rfl rfl) (by decide)
