section
theorem qc_X11_fashion : Cond.code yX11_fashion cX11_fashion 4 (some .int) ∈ gw := tbt (tb5 (List.mem_of_getElem? (i := 192) rfl)) rfl
theorem qi_yX11_fashion : Cond.instanceMethod yX11_fashion ∈ gw := tbt (tb5 (List.mem_of_getElem? (i := 190) rfl)) rfl
theorem qs_X11_fashion : Cond.selects (yX11_fashion).cls yX11_fashion yX11_fashion ∈ gw := tbt (tb5 (List.mem_of_getElem? (i := 191) rfl)) rfl
theorem ci_X11_fashion : CIv yX11_fashion cX11_fashion 4 (some .int) 2 := ⟨qc_X11_fashion, qi_yX11_fashion, qs_X11_fashion, qz_X11, by decide +kernel⟩
theorem qm_L_283 : Cond.methodLink RL 283 yX11_fashion ∈ gw := tbt (tb5 (List.mem_of_getElem? (i := 189) rfl)) rfl
theorem qc_X12_fashion : Cond.code yX12_fashion cX12_fashion 3 (some .int) ∈ gw := tbt (tb8 (List.mem_of_getElem? (i := 219) rfl)) rfl
theorem qi_yX12_fashion : Cond.instanceMethod yX12_fashion ∈ gw := tbt (tb8 (List.mem_of_getElem? (i := 217) rfl)) rfl
theorem qs_X12_fashion : Cond.selects (yX12_fashion).cls yX12_fashion yX12_fashion ∈ gw := tbt (tb8 (List.mem_of_getElem? (i := 218) rfl)) rfl
theorem ci_X12_fashion : CIv yX12_fashion cX12_fashion 3 (some .int) 2 := ⟨qc_X12_fashion, qi_yX12_fashion, qs_X12_fashion, qz_X12, by decide +kernel⟩
theorem qm_L_286 : Cond.methodLink RL 286 yX12_fashion ∈ gw := tbt (tb8 (List.mem_of_getElem? (i := 216) rfl)) rfl
theorem qc_X11_follows : Cond.code yX11_follows cX11_follows 3 (some .int) ∈ gw := tbt (tb5 (List.mem_of_getElem? (i := 196) rfl)) rfl
theorem qi_yX11_follows : Cond.instanceMethod yX11_follows ∈ gw := tbt (tb5 (List.mem_of_getElem? (i := 194) rfl)) rfl
theorem qs_X11_follows : Cond.selects (yX11_follows).cls yX11_follows yX11_follows ∈ gw := tbt (tb5 (List.mem_of_getElem? (i := 195) rfl)) rfl
theorem ci_X11_follows : CIv yX11_follows cX11_follows 3 (some .int) 2 := ⟨qc_X11_follows, qi_yX11_follows, qs_X11_follows, qz_X11, by decide +kernel⟩
theorem qm_L_287 : Cond.methodLink RL 287 yX11_follows ∈ gw := tbt (tb5 (List.mem_of_getElem? (i := 193) rfl)) rfl
theorem qc_X12_follows : Cond.code yX12_follows cX12_follows 3 (some .int) ∈ gw := tbt (tb8 (List.mem_of_getElem? (i := 223) rfl)) rfl
theorem qi_yX12_follows : Cond.instanceMethod yX12_follows ∈ gw := tbt (tb8 (List.mem_of_getElem? (i := 221) rfl)) rfl
theorem qs_X12_follows : Cond.selects (yX12_follows).cls yX12_follows yX12_follows ∈ gw := tbt (tb8 (List.mem_of_getElem? (i := 222) rfl)) rfl
theorem ci_X12_follows : CIv yX12_follows cX12_follows 3 (some .int) 2 := ⟨qc_X12_follows, qi_yX12_follows, qs_X12_follows, qz_X12, by decide +kernel⟩
theorem qm_L_290 : Cond.methodLink RL 290 yX12_follows ∈ gw := tbt (tb8 (List.mem_of_getElem? (i := 220) rfl)) rfl
theorem qc_X11_model : Cond.code yX11_model cX11_model 6 (some .int) ∈ gw := tbt (tb5 (List.mem_of_getElem? (i := 204) rfl)) rfl
theorem qi_yX11_model : Cond.instanceMethod yX11_model ∈ gw := tbt (tb5 (List.mem_of_getElem? (i := 202) rfl)) rfl
theorem qs_X11_model : Cond.selects (yX11_model).cls yX11_model yX11_model ∈ gw := tbt (tb5 (List.mem_of_getElem? (i := 203) rfl)) rfl
theorem ci_X11_model : CIv yX11_model cX11_model 6 (some .int) 1 := ⟨qc_X11_model, qi_yX11_model, qs_X11_model, qz_X11, by decide +kernel⟩
theorem qm_L_291 : Cond.methodLink RL 291 yX11_model ∈ gw := tbt (tb5 (List.mem_of_getElem? (i := 201) rfl)) rfl
theorem qc_X12_model : Cond.code yX12_model cX12_model 6 (some .int) ∈ gw := tbt (tb8 (List.mem_of_getElem? (i := 231) rfl)) rfl
theorem qi_yX12_model : Cond.instanceMethod yX12_model ∈ gw := tbt (tb8 (List.mem_of_getElem? (i := 229) rfl)) rfl
theorem qs_X12_model : Cond.selects (yX12_model).cls yX12_model yX12_model ∈ gw := tbt (tb8 (List.mem_of_getElem? (i := 230) rfl)) rfl
theorem ci_X12_model : CIv yX12_model cX12_model 6 (some .int) 1 := ⟨qc_X12_model, qi_yX12_model, qs_X12_model, qz_X12, by decide +kernel⟩
theorem qm_L_294 : Cond.methodLink RL 294 yX12_model ∈ gw := tbt (tb8 (List.mem_of_getElem? (i := 228) rfl)) rfl
theorem qc_X11_changes : Cond.code yX11_changes cX11_changes 5 (some .int) ∈ gw := tbt (tb5 (List.mem_of_getElem? (i := 208) rfl)) rfl
theorem qi_yX11_changes : Cond.instanceMethod yX11_changes ∈ gw := tbt (tb5 (List.mem_of_getElem? (i := 206) rfl)) rfl
theorem qs_X11_changes : Cond.selects (yX11_changes).cls yX11_changes yX11_changes ∈ gw := tbt (tb5 (List.mem_of_getElem? (i := 207) rfl)) rfl
theorem ci_X11_changes : CIv yX11_changes cX11_changes 5 (some .int) 1 := ⟨qc_X11_changes, qi_yX11_changes, qs_X11_changes, qz_X11, by decide +kernel⟩
theorem qm_L_295 : Cond.methodLink RL 295 yX11_changes ∈ gw := tbt (tb5 (List.mem_of_getElem? (i := 205) rfl)) rfl
theorem qc_X12_changes : Cond.code yX12_changes cX12_changes 4 (some .int) ∈ gw := tbt (tb8 (List.mem_of_getElem? (i := 239) rfl)) rfl
theorem qi_yX12_changes : Cond.instanceMethod yX12_changes ∈ gw := tbt (tb8 (List.mem_of_getElem? (i := 237) rfl)) rfl
theorem qs_X12_changes : Cond.selects (yX12_changes).cls yX12_changes yX12_changes ∈ gw := tbt (tb8 (List.mem_of_getElem? (i := 238) rfl)) rfl
theorem ci_X12_changes : CIv yX12_changes cX12_changes 4 (some .int) 1 := ⟨qc_X12_changes, qi_yX12_changes, qs_X12_changes, qz_X12, by decide +kernel⟩
theorem qm_L_298 : Cond.methodLink RL 298 yX12_changes ∈ gw := tbt (tb8 (List.mem_of_getElem? (i := 236) rfl)) rfl
theorem qc_X11_uniform : Cond.code yX11_uniform cX11_uniform 5 (some .int) ∈ gw := tbt (tb5 (List.mem_of_getElem? (i := 212) rfl)) rfl
theorem qi_yX11_uniform : Cond.instanceMethod yX11_uniform ∈ gw := tbt (tb5 (List.mem_of_getElem? (i := 210) rfl)) rfl
theorem qs_X11_uniform : Cond.selects (yX11_uniform).cls yX11_uniform yX11_uniform ∈ gw := tbt (tb5 (List.mem_of_getElem? (i := 211) rfl)) rfl
theorem ci_X11_uniform : CIv yX11_uniform cX11_uniform 5 (some .int) 0 := ⟨qc_X11_uniform, qi_yX11_uniform, qs_X11_uniform, qz_X11, by decide +kernel⟩
theorem qm_L_299 : Cond.methodLink RL 299 yX11_uniform ∈ gw := tbt (tb5 (List.mem_of_getElem? (i := 209) rfl)) rfl
theorem qc_X12_uniform : Cond.code yX12_uniform cX12_uniform 3 (some .int) ∈ gw := tbt (tb8 (List.mem_of_getElem? (i := 235) rfl)) rfl
theorem qi_yX12_uniform : Cond.instanceMethod yX12_uniform ∈ gw := tbt (tb8 (List.mem_of_getElem? (i := 233) rfl)) rfl
theorem qs_X12_uniform : Cond.selects (yX12_uniform).cls yX12_uniform yX12_uniform ∈ gw := tbt (tb8 (List.mem_of_getElem? (i := 234) rfl)) rfl
theorem ci_X12_uniform : CIv yX12_uniform cX12_uniform 3 (some .int) 0 := ⟨qc_X12_uniform, qi_yX12_uniform, qs_X12_uniform, qz_X12, by decide +kernel⟩
theorem qm_L_302 : Cond.methodLink RL 302 yX12_uniform ∈ gw := tbt (tb8 (List.mem_of_getElem? (i := 232) rfl)) rfl
theorem qc_X11_live : Cond.code yX11_live cX11_live 2 (some .int) ∈ gw := tbt (tb5 (List.mem_of_getElem? (i := 216) rfl)) rfl
theorem qi_yX11_live : Cond.instanceMethod yX11_live ∈ gw := tbt (tb5 (List.mem_of_getElem? (i := 214) rfl)) rfl
theorem qs_X11_live : Cond.selects (yX11_live).cls yX11_live yX11_live ∈ gw := tbt (tb5 (List.mem_of_getElem? (i := 215) rfl)) rfl
theorem ci_X11_live : CIv yX11_live cX11_live 2 (some .int) 1 := ⟨qc_X11_live, qi_yX11_live, qs_X11_live, qz_X11, by decide +kernel⟩
theorem qm_L_303 : Cond.methodLink RL 303 yX11_live ∈ gw := tbt (tb5 (List.mem_of_getElem? (i := 213) rfl)) rfl
theorem qc_X12_live : Cond.code yX12_live cX12_live 3 (some .int) ∈ gw := tbt (tb9 (List.mem_of_getElem? (i := 3) rfl)) rfl
theorem qi_yX12_live : Cond.instanceMethod yX12_live ∈ gw := tbt (tb9 (List.mem_of_getElem? (i := 1) rfl)) rfl
theorem qs_X12_live : Cond.selects (yX12_live).cls yX12_live yX12_live ∈ gw := tbt (tb9 (List.mem_of_getElem? (i := 2) rfl)) rfl
theorem ci_X12_live : CIv yX12_live cX12_live 3 (some .int) 1 := ⟨qc_X12_live, qi_yX12_live, qs_X12_live, qz_X12, by decide +kernel⟩
theorem qm_L_306 : Cond.methodLink RL 306 yX12_live ∈ gw := tbt (tb9 (List.mem_of_getElem? (i := 0) rfl)) rfl
theorem qc_X11_lived : Cond.code yX11_lived cX11_lived 2 (some .int) ∈ gw := tbt (tb6 (List.mem_of_getElem? (i := 10) rfl)) rfl
theorem qi_yX11_lived : Cond.instanceMethod yX11_lived ∈ gw := tbt (tb6 (List.mem_of_getElem? (i := 8) rfl)) rfl
theorem qs_X11_lived : Cond.selects (yX11_lived).cls yX11_lived yX11_lived ∈ gw := tbt (tb6 (List.mem_of_getElem? (i := 9) rfl)) rfl
theorem ci_X11_lived : CIv yX11_lived cX11_lived 2 (some .int) 1 := ⟨qc_X11_lived, qi_yX11_lived, qs_X11_lived, qz_X11, by decide +kernel⟩
theorem qm_L_307 : Cond.methodLink RL 307 yX11_lived ∈ gw := tbt (tb6 (List.mem_of_getElem? (i := 7) rfl)) rfl
theorem qc_X12_lived : Cond.code yX12_lived cX12_lived 2 (some .int) ∈ gw := tbt (tb9 (List.mem_of_getElem? (i := 29) rfl)) rfl
theorem qi_yX12_lived : Cond.instanceMethod yX12_lived ∈ gw := tbt (tb9 (List.mem_of_getElem? (i := 27) rfl)) rfl
theorem qs_X12_lived : Cond.selects (yX12_lived).cls yX12_lived yX12_lived ∈ gw := tbt (tb9 (List.mem_of_getElem? (i := 28) rfl)) rfl
theorem ci_X12_lived : CIv yX12_lived cX12_lived 2 (some .int) 1 := ⟨qc_X12_lived, qi_yX12_lived, qs_X12_lived, qz_X12, by decide +kernel⟩
theorem qm_L_310 : Cond.methodLink RL 310 yX12_lived ∈ gw := tbt (tb9 (List.mem_of_getElem? (i := 26) rfl)) rfl
theorem qc_X11_mean : Cond.code yX11_mean cX11_mean 5 (some .boolean) ∈ gw := tbt (tb6 (List.mem_of_getElem? (i := 14) rfl)) rfl
theorem qi_yX11_mean : Cond.instanceMethod yX11_mean ∈ gw := tbt (tb6 (List.mem_of_getElem? (i := 12) rfl)) rfl
theorem qs_X11_mean : Cond.selects (yX11_mean).cls yX11_mean yX11_mean ∈ gw := tbt (tb6 (List.mem_of_getElem? (i := 13) rfl)) rfl
theorem ci_X11_mean : CIv yX11_mean cX11_mean 5 (some .boolean) 2 := ⟨qc_X11_mean, qi_yX11_mean, qs_X11_mean, qz_X11, by decide +kernel⟩
theorem qm_L_311 : Cond.methodLink RL 311 yX11_mean ∈ gw := tbt (tb6 (List.mem_of_getElem? (i := 11) rfl)) rfl
theorem qc_X12_mean : Cond.code yX12_mean cX12_mean 7 (some .boolean) ∈ gw := tbt (tb9 (List.mem_of_getElem? (i := 33) rfl)) rfl
theorem qi_yX12_mean : Cond.instanceMethod yX12_mean ∈ gw := tbt (tb9 (List.mem_of_getElem? (i := 31) rfl)) rfl
theorem qs_X12_mean : Cond.selects (yX12_mean).cls yX12_mean yX12_mean ∈ gw := tbt (tb9 (List.mem_of_getElem? (i := 32) rfl)) rfl
theorem ci_X12_mean : CIv yX12_mean cX12_mean 7 (some .boolean) 2 := ⟨qc_X12_mean, qi_yX12_mean, qs_X12_mean, qz_X12, by decide +kernel⟩
theorem qm_L_314 : Cond.methodLink RL 314 yX12_mean ∈ gw := tbt (tb9 (List.mem_of_getElem? (i := 30) rfl)) rfl
theorem dL_law_2616 : decode cL_law 2616 = .ok (.aload_n 1, 1) := fq1_43 (fl_40 (j := 56) rfl rfl)
theorem dL_law_2617 : decode cL_law 2617 = .ok (.aload_n 0, 1) := fq1_42 (fl_40 (j := 57) rfl rfl)
theorem dL_law_2618 : decode cL_law 2618 = .ok (.iload_n 3, 1) := fq1_29 (fl_40 (j := 58) rfl rfl)
theorem dL_law_2619 : decode cL_law 2619 = .ok (.iconst 1, 1) := fq1_4 (fl_40 (j := 59) rfl rfl)
theorem dL_law_2620 : decode cL_law 2620 = .ok (.iadd, 1) := fq1_96 (fl_40 (j := 60) rfl rfl)
theorem dL_law_2621 : decode cL_law 2621 = .ok (.iaload, 1) := fq1_46 (fl_40 (j := 61) rfl rfl)
theorem dL_law_2622 : decode cL_law 2622 = .ok (.aload_n 0, 1) := fq1_42 (fl_40 (j := 62) rfl rfl)
theorem dL_law_2623 : decode cL_law 2623 = .ok (.iload_n 3, 1) := fq1_29 (fl_40 (j := 63) rfl rfl)
theorem dL_law_2624 : decode cL_law 2624 = .ok (.iconst 2, 1) := fq1_5 (fl_41 (j := 0) rfl rfl)
theorem dL_law_2625 : decode cL_law 2625 = .ok (.iadd, 1) := fq1_96 (fl_41 (j := 1) rfl rfl)
theorem dL_law_2626 : decode cL_law 2626 = .ok (.iaload, 1) := fq1_46 (fl_41 (j := 2) rfl rfl)
theorem dL_law_2627 : decode cL_law 2627 = .ok (.invokevirtual 283, 3) := fq3_182 (fl_41 (j := 3) rfl rfl) (fl_41 (j := 4) rfl rfl) (fl_41 (j := 5) rfl rfl) rfl
theorem dL_law_2630 : decode cL_law 2630 = .ok (.pop, 1) := fq1_87 (fl_41 (j := 6) rfl rfl)
theorem dL_law_2631 : decode cL_law 2631 = .ok (.aload_n 2, 1) := fq1_44 (fl_41 (j := 7) rfl rfl)
theorem dL_law_2632 : decode cL_law 2632 = .ok (.aload_n 0, 1) := fq1_42 (fl_41 (j := 8) rfl rfl)
theorem dL_law_2633 : decode cL_law 2633 = .ok (.iload_n 3, 1) := fq1_29 (fl_41 (j := 9) rfl rfl)
theorem dL_law_2634 : decode cL_law 2634 = .ok (.iconst 1, 1) := fq1_4 (fl_41 (j := 10) rfl rfl)
theorem dL_law_2635 : decode cL_law 2635 = .ok (.iadd, 1) := fq1_96 (fl_41 (j := 11) rfl rfl)
theorem dL_law_2636 : decode cL_law 2636 = .ok (.iaload, 1) := fq1_46 (fl_41 (j := 12) rfl rfl)
theorem dL_law_2637 : decode cL_law 2637 = .ok (.aload_n 0, 1) := fq1_42 (fl_41 (j := 13) rfl rfl)
theorem dL_law_2638 : decode cL_law 2638 = .ok (.iload_n 3, 1) := fq1_29 (fl_41 (j := 14) rfl rfl)
theorem dL_law_2639 : decode cL_law 2639 = .ok (.iconst 2, 1) := fq1_5 (fl_41 (j := 15) rfl rfl)
theorem dL_law_2640 : decode cL_law 2640 = .ok (.iadd, 1) := fq1_96 (fl_41 (j := 16) rfl rfl)
theorem dL_law_2641 : decode cL_law 2641 = .ok (.iaload, 1) := fq1_46 (fl_41 (j := 17) rfl rfl)
theorem dL_law_2642 : decode cL_law 2642 = .ok (.invokevirtual 286, 3) := fq3_182 (fl_41 (j := 18) rfl rfl) (fl_41 (j := 19) rfl rfl) (fl_41 (j := 20) rfl rfl) rfl
theorem dL_law_2645 : decode cL_law 2645 = .ok (.pop, 1) := fq1_87 (fl_41 (j := 21) rfl rfl)
theorem dL_law_2646 : decode cL_law 2646 = .ok (.goto 200, 3) := fq3_167 (fl_41 (j := 22) rfl rfl) (fl_41 (j := 23) rfl rfl) (fl_41 (j := 24) rfl rfl) (s2p rfl (bl rfl))
theorem dL_law_2649 : decode cL_law 2649 = .ok (.aload_n 1, 1) := fq1_43 (fl_41 (j := 25) rfl rfl)
theorem dL_law_2650 : decode cL_law 2650 = .ok (.aload_n 0, 1) := fq1_42 (fl_41 (j := 26) rfl rfl)
theorem dL_law_2651 : decode cL_law 2651 = .ok (.iload_n 3, 1) := fq1_29 (fl_41 (j := 27) rfl rfl)
theorem dL_law_2652 : decode cL_law 2652 = .ok (.iconst 1, 1) := fq1_4 (fl_41 (j := 28) rfl rfl)
theorem dL_law_2653 : decode cL_law 2653 = .ok (.iadd, 1) := fq1_96 (fl_41 (j := 29) rfl rfl)
theorem dL_law_2654 : decode cL_law 2654 = .ok (.iaload, 1) := fq1_46 (fl_41 (j := 30) rfl rfl)
theorem dL_law_2655 : decode cL_law 2655 = .ok (.aload_n 0, 1) := fq1_42 (fl_41 (j := 31) rfl rfl)
theorem dL_law_2656 : decode cL_law 2656 = .ok (.iload_n 3, 1) := fq1_29 (fl_41 (j := 32) rfl rfl)
theorem dL_law_2657 : decode cL_law 2657 = .ok (.iconst 2, 1) := fq1_5 (fl_41 (j := 33) rfl rfl)
theorem dL_law_2658 : decode cL_law 2658 = .ok (.iadd, 1) := fq1_96 (fl_41 (j := 34) rfl rfl)
theorem dL_law_2659 : decode cL_law 2659 = .ok (.iaload, 1) := fq1_46 (fl_41 (j := 35) rfl rfl)
theorem dL_law_2660 : decode cL_law 2660 = .ok (.invokevirtual 287, 3) := fq3_182 (fl_41 (j := 36) rfl rfl) (fl_41 (j := 37) rfl rfl) (fl_41 (j := 38) rfl rfl) rfl
theorem dL_law_2663 : decode cL_law 2663 = .ok (.pop, 1) := fq1_87 (fl_41 (j := 39) rfl rfl)
theorem dL_law_2664 : decode cL_law 2664 = .ok (.aload_n 2, 1) := fq1_44 (fl_41 (j := 40) rfl rfl)
theorem dL_law_2665 : decode cL_law 2665 = .ok (.aload_n 0, 1) := fq1_42 (fl_41 (j := 41) rfl rfl)
theorem dL_law_2666 : decode cL_law 2666 = .ok (.iload_n 3, 1) := fq1_29 (fl_41 (j := 42) rfl rfl)
theorem dL_law_2667 : decode cL_law 2667 = .ok (.iconst 1, 1) := fq1_4 (fl_41 (j := 43) rfl rfl)
theorem dL_law_2668 : decode cL_law 2668 = .ok (.iadd, 1) := fq1_96 (fl_41 (j := 44) rfl rfl)
theorem dL_law_2669 : decode cL_law 2669 = .ok (.iaload, 1) := fq1_46 (fl_41 (j := 45) rfl rfl)
theorem dL_law_2670 : decode cL_law 2670 = .ok (.aload_n 0, 1) := fq1_42 (fl_41 (j := 46) rfl rfl)
theorem dL_law_2671 : decode cL_law 2671 = .ok (.iload_n 3, 1) := fq1_29 (fl_41 (j := 47) rfl rfl)
theorem dL_law_2672 : decode cL_law 2672 = .ok (.iconst 2, 1) := fq1_5 (fl_41 (j := 48) rfl rfl)
theorem dL_law_2673 : decode cL_law 2673 = .ok (.iadd, 1) := fq1_96 (fl_41 (j := 49) rfl rfl)
theorem dL_law_2674 : decode cL_law 2674 = .ok (.iaload, 1) := fq1_46 (fl_41 (j := 50) rfl rfl)
theorem dL_law_2675 : decode cL_law 2675 = .ok (.invokevirtual 290, 3) := fq3_182 (fl_41 (j := 51) rfl rfl) (fl_41 (j := 52) rfl rfl) (fl_41 (j := 53) rfl rfl) rfl
theorem dL_law_2678 : decode cL_law 2678 = .ok (.pop, 1) := fq1_87 (fl_41 (j := 54) rfl rfl)
theorem dL_law_2679 : decode cL_law 2679 = .ok (.goto 167, 3) := fq3_167 (fl_41 (j := 55) rfl rfl) (fl_41 (j := 56) rfl rfl) (fl_41 (j := 57) rfl rfl) (s2p rfl (bl rfl))
theorem dL_law_2682 : decode cL_law 2682 = .ok (.aload_n 1, 1) := fq1_43 (fl_41 (j := 58) rfl rfl)
theorem dL_law_2683 : decode cL_law 2683 = .ok (.aload_n 0, 1) := fq1_42 (fl_41 (j := 59) rfl rfl)
theorem dL_law_2684 : decode cL_law 2684 = .ok (.iload_n 3, 1) := fq1_29 (fl_41 (j := 60) rfl rfl)
theorem dL_law_2685 : decode cL_law 2685 = .ok (.iconst 1, 1) := fq1_4 (fl_41 (j := 61) rfl rfl)
theorem dL_law_2686 : decode cL_law 2686 = .ok (.iadd, 1) := fq1_96 (fl_41 (j := 62) rfl rfl)
theorem dL_law_2687 : decode cL_law 2687 = .ok (.iaload, 1) := fq1_46 (fl_41 (j := 63) rfl rfl)
theorem dL_law_2688 : decode cL_law 2688 = .ok (.invokevirtual 291, 3) := fq3_182 (fl_42 (j := 0) rfl rfl) (fl_42 (j := 1) rfl rfl) (fl_42 (j := 2) rfl rfl) rfl
theorem dL_law_2691 : decode cL_law 2691 = .ok (.pop, 1) := fq1_87 (fl_42 (j := 3) rfl rfl)
theorem dL_law_2692 : decode cL_law 2692 = .ok (.aload_n 2, 1) := fq1_44 (fl_42 (j := 4) rfl rfl)
theorem dL_law_2693 : decode cL_law 2693 = .ok (.aload_n 0, 1) := fq1_42 (fl_42 (j := 5) rfl rfl)
theorem dL_law_2694 : decode cL_law 2694 = .ok (.iload_n 3, 1) := fq1_29 (fl_42 (j := 6) rfl rfl)
theorem dL_law_2695 : decode cL_law 2695 = .ok (.iconst 1, 1) := fq1_4 (fl_42 (j := 7) rfl rfl)
theorem dL_law_2696 : decode cL_law 2696 = .ok (.iadd, 1) := fq1_96 (fl_42 (j := 8) rfl rfl)
theorem dL_law_2697 : decode cL_law 2697 = .ok (.iaload, 1) := fq1_46 (fl_42 (j := 9) rfl rfl)
theorem dL_law_2698 : decode cL_law 2698 = .ok (.invokevirtual 294, 3) := fq3_182 (fl_42 (j := 10) rfl rfl) (fl_42 (j := 11) rfl rfl) (fl_42 (j := 12) rfl rfl) rfl
theorem dL_law_2701 : decode cL_law 2701 = .ok (.pop, 1) := fq1_87 (fl_42 (j := 13) rfl rfl)
theorem dL_law_2702 : decode cL_law 2702 = .ok (.goto 144, 3) := fq3_167 (fl_42 (j := 14) rfl rfl) (fl_42 (j := 15) rfl rfl) (fl_42 (j := 16) rfl rfl) (s2p rfl (bl rfl))
theorem dL_law_2705 : decode cL_law 2705 = .ok (.aload_n 1, 1) := fq1_43 (fl_42 (j := 17) rfl rfl)
theorem dL_law_2706 : decode cL_law 2706 = .ok (.aload_n 0, 1) := fq1_42 (fl_42 (j := 18) rfl rfl)
theorem dL_law_2707 : decode cL_law 2707 = .ok (.iload_n 3, 1) := fq1_29 (fl_42 (j := 19) rfl rfl)
theorem dL_law_2708 : decode cL_law 2708 = .ok (.iconst 1, 1) := fq1_4 (fl_42 (j := 20) rfl rfl)
theorem dL_law_2709 : decode cL_law 2709 = .ok (.iadd, 1) := fq1_96 (fl_42 (j := 21) rfl rfl)
theorem dL_law_2710 : decode cL_law 2710 = .ok (.iaload, 1) := fq1_46 (fl_42 (j := 22) rfl rfl)
theorem dL_law_2711 : decode cL_law 2711 = .ok (.invokevirtual 295, 3) := fq3_182 (fl_42 (j := 23) rfl rfl) (fl_42 (j := 24) rfl rfl) (fl_42 (j := 25) rfl rfl) rfl
theorem dL_law_2714 : decode cL_law 2714 = .ok (.pop, 1) := fq1_87 (fl_42 (j := 26) rfl rfl)
theorem dL_law_2715 : decode cL_law 2715 = .ok (.aload_n 2, 1) := fq1_44 (fl_42 (j := 27) rfl rfl)
theorem dL_law_2716 : decode cL_law 2716 = .ok (.aload_n 0, 1) := fq1_42 (fl_42 (j := 28) rfl rfl)
theorem dL_law_2717 : decode cL_law 2717 = .ok (.iload_n 3, 1) := fq1_29 (fl_42 (j := 29) rfl rfl)
theorem dL_law_2718 : decode cL_law 2718 = .ok (.iconst 1, 1) := fq1_4 (fl_42 (j := 30) rfl rfl)
theorem dL_law_2719 : decode cL_law 2719 = .ok (.iadd, 1) := fq1_96 (fl_42 (j := 31) rfl rfl)
theorem dL_law_2720 : decode cL_law 2720 = .ok (.iaload, 1) := fq1_46 (fl_42 (j := 32) rfl rfl)
theorem dL_law_2721 : decode cL_law 2721 = .ok (.invokevirtual 298, 3) := fq3_182 (fl_42 (j := 33) rfl rfl) (fl_42 (j := 34) rfl rfl) (fl_42 (j := 35) rfl rfl) rfl
theorem dL_law_2724 : decode cL_law 2724 = .ok (.pop, 1) := fq1_87 (fl_42 (j := 36) rfl rfl)
theorem dL_law_2725 : decode cL_law 2725 = .ok (.goto 121, 3) := fq3_167 (fl_42 (j := 37) rfl rfl) (fl_42 (j := 38) rfl rfl) (fl_42 (j := 39) rfl rfl) (s2p rfl (bl rfl))
theorem dL_law_2728 : decode cL_law 2728 = .ok (.aload_n 1, 1) := fq1_43 (fl_42 (j := 40) rfl rfl)
theorem dL_law_2729 : decode cL_law 2729 = .ok (.invokevirtual 299, 3) := fq3_182 (fl_42 (j := 41) rfl rfl) (fl_42 (j := 42) rfl rfl) (fl_42 (j := 43) rfl rfl) rfl
theorem dL_law_2732 : decode cL_law 2732 = .ok (.pop, 1) := fq1_87 (fl_42 (j := 44) rfl rfl)
theorem dL_law_2733 : decode cL_law 2733 = .ok (.aload_n 2, 1) := fq1_44 (fl_42 (j := 45) rfl rfl)
theorem dL_law_2734 : decode cL_law 2734 = .ok (.invokevirtual 302, 3) := fq3_182 (fl_42 (j := 46) rfl rfl) (fl_42 (j := 47) rfl rfl) (fl_42 (j := 48) rfl rfl) rfl
theorem dL_law_2737 : decode cL_law 2737 = .ok (.pop, 1) := fq1_87 (fl_42 (j := 49) rfl rfl)
theorem dL_law_2738 : decode cL_law 2738 = .ok (.goto 108, 3) := fq3_167 (fl_42 (j := 50) rfl rfl) (fl_42 (j := 51) rfl rfl) (fl_42 (j := 52) rfl rfl) (s2p rfl (bl rfl))
theorem dL_law_2741 : decode cL_law 2741 = .ok (.aload_n 1, 1) := fq1_43 (fl_42 (j := 53) rfl rfl)
theorem dL_law_2742 : decode cL_law 2742 = .ok (.aload_n 0, 1) := fq1_42 (fl_42 (j := 54) rfl rfl)
theorem dL_law_2743 : decode cL_law 2743 = .ok (.iload_n 3, 1) := fq1_29 (fl_42 (j := 55) rfl rfl)
theorem dL_law_2744 : decode cL_law 2744 = .ok (.iconst 1, 1) := fq1_4 (fl_42 (j := 56) rfl rfl)
theorem dL_law_2745 : decode cL_law 2745 = .ok (.iadd, 1) := fq1_96 (fl_42 (j := 57) rfl rfl)
theorem dL_law_2746 : decode cL_law 2746 = .ok (.iaload, 1) := fq1_46 (fl_42 (j := 58) rfl rfl)
theorem dL_law_2747 : decode cL_law 2747 = .ok (.invokevirtual 303, 3) := fq3_182 (fl_42 (j := 59) rfl rfl) (fl_42 (j := 60) rfl rfl) (fl_42 (j := 61) rfl rfl) rfl
theorem dL_law_2750 : decode cL_law 2750 = .ok (.pop, 1) := fq1_87 (fl_42 (j := 62) rfl rfl)
theorem dL_law_2751 : decode cL_law 2751 = .ok (.aload_n 2, 1) := fq1_44 (fl_42 (j := 63) rfl rfl)
theorem dL_law_2752 : decode cL_law 2752 = .ok (.aload_n 0, 1) := fq1_42 (fl_43 (j := 0) rfl rfl)
theorem dL_law_2753 : decode cL_law 2753 = .ok (.iload_n 3, 1) := fq1_29 (fl_43 (j := 1) rfl rfl)
theorem dL_law_2754 : decode cL_law 2754 = .ok (.iconst 1, 1) := fq1_4 (fl_43 (j := 2) rfl rfl)
theorem dL_law_2755 : decode cL_law 2755 = .ok (.iadd, 1) := fq1_96 (fl_43 (j := 3) rfl rfl)
theorem dL_law_2756 : decode cL_law 2756 = .ok (.iaload, 1) := fq1_46 (fl_43 (j := 4) rfl rfl)
theorem dL_law_2757 : decode cL_law 2757 = .ok (.invokevirtual 306, 3) := fq3_182 (fl_43 (j := 5) rfl rfl) (fl_43 (j := 6) rfl rfl) (fl_43 (j := 7) rfl rfl) rfl
theorem dL_law_2760 : decode cL_law 2760 = .ok (.pop, 1) := fq1_87 (fl_43 (j := 8) rfl rfl)
theorem dL_law_2761 : decode cL_law 2761 = .ok (.goto 85, 3) := fq3_167 (fl_43 (j := 9) rfl rfl) (fl_43 (j := 10) rfl rfl) (fl_43 (j := 11) rfl rfl) (s2p rfl (bl rfl))
theorem dL_law_2764 : decode cL_law 2764 = .ok (.aload_n 1, 1) := fq1_43 (fl_43 (j := 12) rfl rfl)
theorem dL_law_2765 : decode cL_law 2765 = .ok (.aload_n 0, 1) := fq1_42 (fl_43 (j := 13) rfl rfl)
theorem dL_law_2766 : decode cL_law 2766 = .ok (.iload_n 3, 1) := fq1_29 (fl_43 (j := 14) rfl rfl)
theorem dL_law_2767 : decode cL_law 2767 = .ok (.iconst 1, 1) := fq1_4 (fl_43 (j := 15) rfl rfl)
theorem dL_law_2768 : decode cL_law 2768 = .ok (.iadd, 1) := fq1_96 (fl_43 (j := 16) rfl rfl)
theorem dL_law_2769 : decode cL_law 2769 = .ok (.iaload, 1) := fq1_46 (fl_43 (j := 17) rfl rfl)
theorem dL_law_2770 : decode cL_law 2770 = .ok (.invokevirtual 307, 3) := fq3_182 (fl_43 (j := 18) rfl rfl) (fl_43 (j := 19) rfl rfl) (fl_43 (j := 20) rfl rfl) rfl
theorem dL_law_2773 : decode cL_law 2773 = .ok (.pop, 1) := fq1_87 (fl_43 (j := 21) rfl rfl)
theorem dL_law_2774 : decode cL_law 2774 = .ok (.aload_n 2, 1) := fq1_44 (fl_43 (j := 22) rfl rfl)
theorem dL_law_2775 : decode cL_law 2775 = .ok (.aload_n 0, 1) := fq1_42 (fl_43 (j := 23) rfl rfl)
theorem dL_law_2776 : decode cL_law 2776 = .ok (.iload_n 3, 1) := fq1_29 (fl_43 (j := 24) rfl rfl)
theorem dL_law_2777 : decode cL_law 2777 = .ok (.iconst 1, 1) := fq1_4 (fl_43 (j := 25) rfl rfl)
theorem dL_law_2778 : decode cL_law 2778 = .ok (.iadd, 1) := fq1_96 (fl_43 (j := 26) rfl rfl)
theorem dL_law_2779 : decode cL_law 2779 = .ok (.iaload, 1) := fq1_46 (fl_43 (j := 27) rfl rfl)
theorem dL_law_2780 : decode cL_law 2780 = .ok (.invokevirtual 310, 3) := fq3_182 (fl_43 (j := 28) rfl rfl) (fl_43 (j := 29) rfl rfl) (fl_43 (j := 30) rfl rfl) rfl
theorem dL_law_2783 : decode cL_law 2783 = .ok (.pop, 1) := fq1_87 (fl_43 (j := 31) rfl rfl)
theorem dL_law_2784 : decode cL_law 2784 = .ok (.goto 62, 3) := fq3_167 (fl_43 (j := 32) rfl rfl) (fl_43 (j := 33) rfl rfl) (fl_43 (j := 34) rfl rfl) (s2p rfl (bl rfl))
theorem dL_law_2787 : decode cL_law 2787 = .ok (.aload_n 1, 1) := fq1_43 (fl_43 (j := 35) rfl rfl)
theorem dL_law_2788 : decode cL_law 2788 = .ok (.aload_n 0, 1) := fq1_42 (fl_43 (j := 36) rfl rfl)
theorem dL_law_2789 : decode cL_law 2789 = .ok (.iload_n 3, 1) := fq1_29 (fl_43 (j := 37) rfl rfl)
theorem dL_law_2790 : decode cL_law 2790 = .ok (.iconst 1, 1) := fq1_4 (fl_43 (j := 38) rfl rfl)
theorem dL_law_2791 : decode cL_law 2791 = .ok (.iadd, 1) := fq1_96 (fl_43 (j := 39) rfl rfl)
theorem dL_law_2792 : decode cL_law 2792 = .ok (.iaload, 1) := fq1_46 (fl_43 (j := 40) rfl rfl)
theorem dL_law_2793 : decode cL_law 2793 = .ok (.aload_n 0, 1) := fq1_42 (fl_43 (j := 41) rfl rfl)
theorem dL_law_2794 : decode cL_law 2794 = .ok (.iload_n 3, 1) := fq1_29 (fl_43 (j := 42) rfl rfl)
theorem dL_law_2795 : decode cL_law 2795 = .ok (.iconst 2, 1) := fq1_5 (fl_43 (j := 43) rfl rfl)
theorem dL_law_2796 : decode cL_law 2796 = .ok (.iadd, 1) := fq1_96 (fl_43 (j := 44) rfl rfl)
theorem dL_law_2797 : decode cL_law 2797 = .ok (.iaload, 1) := fq1_46 (fl_43 (j := 45) rfl rfl)
theorem dL_law_2798 : decode cL_law 2798 = .ok (.invokevirtual 311, 3) := fq3_182 (fl_43 (j := 46) rfl rfl) (fl_43 (j := 47) rfl rfl) (fl_43 (j := 48) rfl rfl) rfl
theorem dL_law_2801 : decode cL_law 2801 = .ok (.pop, 1) := fq1_87 (fl_43 (j := 49) rfl rfl)
theorem dL_law_2802 : decode cL_law 2802 = .ok (.aload_n 2, 1) := fq1_44 (fl_43 (j := 50) rfl rfl)
theorem dL_law_2803 : decode cL_law 2803 = .ok (.aload_n 0, 1) := fq1_42 (fl_43 (j := 51) rfl rfl)
theorem dL_law_2804 : decode cL_law 2804 = .ok (.iload_n 3, 1) := fq1_29 (fl_43 (j := 52) rfl rfl)
theorem dL_law_2805 : decode cL_law 2805 = .ok (.iconst 1, 1) := fq1_4 (fl_43 (j := 53) rfl rfl)
theorem dL_law_2806 : decode cL_law 2806 = .ok (.iadd, 1) := fq1_96 (fl_43 (j := 54) rfl rfl)
theorem dL_law_2807 : decode cL_law 2807 = .ok (.iaload, 1) := fq1_46 (fl_43 (j := 55) rfl rfl)
theorem dL_law_2808 : decode cL_law 2808 = .ok (.aload_n 0, 1) := fq1_42 (fl_43 (j := 56) rfl rfl)
theorem dL_law_2809 : decode cL_law 2809 = .ok (.iload_n 3, 1) := fq1_29 (fl_43 (j := 57) rfl rfl)
theorem dL_law_2810 : decode cL_law 2810 = .ok (.iconst 2, 1) := fq1_5 (fl_43 (j := 58) rfl rfl)
theorem dL_law_2811 : decode cL_law 2811 = .ok (.iadd, 1) := fq1_96 (fl_43 (j := 59) rfl rfl)
theorem dL_law_2812 : decode cL_law 2812 = .ok (.iaload, 1) := fq1_46 (fl_43 (j := 60) rfl rfl)
theorem dL_law_2813 : decode cL_law 2813 = .ok (.invokevirtual 314, 3) := fq3_182 (fl_43 (j := 61) rfl rfl) (fl_43 (j := 62) rfl rfl) (fl_43 (j := 63) rfl rfl) rfl
theorem dL_law_2816 : decode cL_law 2816 = .ok (.pop, 1) := fq1_87 (fl_44 (j := 0) rfl rfl)
theorem dL_law_2817 : decode cL_law 2817 = .ok (.goto 29, 3) := fq3_167 (fl_44 (j := 1) rfl rfl) (fl_44 (j := 2) rfl rfl) (fl_44 (j := 3) rfl rfl) (s2p rfl (bl rfl))
end

section
set_option maxHeartbeats 40000000 in
set_option maxRecDepth 100000 in
theorem law_c64 {p : Program} {e : Env} {s : State} {m : MethodId} {below : List Frame} {meth : Method} {c : Code} (l : Launch) {b L : Nat} {xs : Nat → Int32} {A : Nat → Prop} {D : va_G} {k : Nat → ClassId} {sa sv : Nat} {i : Int} (C : LFX p s m meth c b L xs A D k sa sv) (hi : 0 ≤ i ∧ i + 6 ≤ (L : Int)) (hk : LAT p l e s m below meth c b A D k 2846 i) : LAT p l e s m below meth c b A D k 2616 i := by
  obtain ⟨hx, hb, hr, hml, hown, hts, hKK, hX, hbl, hbA, hA, hAf, hlocks, hSY, hRR, hL⟩ := id C
  intro a IA LA FA QA VA IB LB FB QB VB IC LC FC QC VC ID LD FD QD VD IR LR FR QR VR r H locs ls hI hRT hP hD hS hl
  have hK := hKK.1
  obtain ⟨hP, hD⟩ : PD D A ((GA k a IA LA FA QA VA r) ++ ((GB k a IB LB FB QB VB r) ++ ((GC k a IC LC FC QC VC r) ++ ((GD k a ID LD FD QD VD r) ++ ((GR k a IR LR FR QR VR r) ++ (r.tl)))))) H := ⟨hP, hD⟩
  obtain ⟨hWI, hWI_0, hWI_1, hWI_2, hrd, htr0, htr1, htr2, htr3, hrgk, hrgt, hdrc, hev, hmk, hM, hMK, hTI, hFS, htd, hlt, rgH, rgS, rgY, hdr, hit, hmmk, heq, htq, hrel, hbf, htb, hkw, hSK, hSK0, hSK1, hSK2, hNE, hNE0, hNE1, hNE2, hLE, hYE, hQE, hLE0, hLE1, hLE2, hYE0, hYE1, hYE2⟩ := id hI
  obtain ⟨gw1, gw2, gw3, gw4, gw5, gw6, gw7, gw8, gw9, gw10, gw11⟩ := id hWI
  have hx0 := gw9
  have hYI := gw11
  have hpf : rgI (FR 3) (-128) 127 900 := fun e h1 h2 => by rw [← htb e h1 h2]; exact hbf e h1 h2
  obtain ⟨z1, hz1, hz1a, hz1b⟩ := i32_z (xs (iZ (i + 1)).toNatClampNeg)
  obtain ⟨z2, hz2, hz2a, hz2b⟩ := i32_z (xs (iZ (i + 2)).toNatClampNeg)
  obtain ⟨z3, hz3, hz3a, hz3b⟩ := i32_z (xs (iZ (i + 3)).toNatClampNeg)
  obtain ⟨z4, hz4, hz4a, hz4b⟩ := i32_z (xs (iZ (i + 4)).toNatClampNeg)
  obtain ⟨z5, hz5, hz5a, hz5b⟩ := i32_z (xs (iZ (i + 5)).toNatClampNeg)
  have hl : lv_has ls 4 [(3, .int (iZ i)), (2, .ref (a 106)), (1, .ref (a 0)), (0, .ref b)] := hl
  have hls := hQE.1
  replace hls : _ := hls
  refine lv_aload_n hx hb dL_law_2616 rfl (lv_at hl 2 rfl) ?_
  refine lv_aload_n hx hb dL_law_2617 rfl (lv_at hl 3 rfl) ?_
  refine lv_iload_n hx hb dL_law_2618 rfl (lv_at hl 0 rfl) ?_
  refine lv_iconst (v := iZ 1) hx hb dL_law_2619 rfl ?_
  refine lv_iadd hx hb dL_law_2620 ?_
  refine lv_topi (fun x_1 ex_1 => ?_)
  obtain rfl : x_1 = iZ (i + 1) := ex_1.trans (iZ_add i 1)
  refine va_sld hx hb hX hbl hbA hS (zi1 hi hL) dL_law_2621 ?_
  refine lv_topi (fun x_2 ex_2 => ?_)
  obtain rfl : x_2 = iZ z1 := ex_2.trans hz1
  refine lv_aload_n hx hb dL_law_2622 rfl (lv_at hl 3 rfl) ?_
  refine lv_iload_n hx hb dL_law_2623 rfl (lv_at hl 0 rfl) ?_
  refine lv_iconst (v := iZ 2) hx hb dL_law_2624 rfl ?_
  refine lv_iadd hx hb dL_law_2625 ?_
  refine lv_topi (fun x_3 ex_3 => ?_)
  obtain rfl : x_3 = iZ (i + 2) := ex_3.trans (iZ_add i 2)
  refine va_sld hx hb hX hbl hbA hS (zi2 hi hL) dL_law_2626 ?_
  refine lv_topi (fun x_4 ex_4 => ?_)
  obtain rfl : x_4 = iZ z2 := ex_4.trans hz2
  obtain ⟨hP, hD⟩ := PD.mid4 ⟨hP, hD⟩
  refine CXM (mid := (GB k a IB LB FB QB VB r) ++ ((GC k a IC LC FC QC VC r) ++ ((GD k a ID LD FD QD VD r) ++ ((GR k a IR LR FR QR VR r))))) (c0 := 123) (s0 := 16705) (r := r) (As := [.int (iZ z1), .int (iZ z2)]) (rest := []) hx hb hml hown hts hKK hP hD hS hA (p_fashion l D k (a 0) (a 1) (a 2) (a 3) (a 4) (a 5) (a 6) (a 7) (a 8) (a 9) (a 10) (a 11) (IA 0) (IA 1) (IA 2) (LA 0) (LA 1) ([.ref (a 26), .ref (a 27), .ref (a 28), .int (iZ (IA 3)), .int (iZ (IA 4)), .int (iZ (IA 5)), .int (iZ (IA 6))]) (a 23) (a 27) (a 28) (a 24) (a 25) (IA 3) (IA 4) (IA 5) (FA 0) (FA 1) (a 29) (a 30) (a 31) (a 32) (IA 7) (IA 8) (FA 2) (FA 3) (FA 4) (FA 5) z1 z2 r hRT rfl rfl rfl rfl rfl (by first | with_reducible assumption | omega) hx0 (by first | with_reducible assumption | omega) (by first | with_reducible assumption | omega) (by first | with_reducible assumption | omega) (by first | with_reducible assumption | omega) (by first | with_reducible assumption | omega) gw10 ⟨hz1a, hz1b⟩ ⟨hz2a, hz2b⟩) ci_X11_fashion qm_L_283 ⟨Nat.le_of_ble_eq_true rfl, Nat.le_of_ble_eq_true rfl⟩ ⟨Nat.le_of_ble_eq_true rfl, Nat.le_of_ble_eq_true rfl⟩ [0, 1, 3, 8, 9, 10, 11, 17, 2, 6, 7] [4, 5, 12, 13, 14, 15, 16, 18, 19, 20, 21, 22, 23, 24, 25] rfl rfl rfl (by decide +kernel) (by decide +kernel) (by decide +kernel) 0 rfl rfl rfl hl.1 rfl (Nat.le_of_ble_eq_true rfl) dL_law_2627 (fun u_5 H locs hφ hP hD hS => ?_)
  obtain ⟨r_6, v_7⟩ := u_5
  have rtr_6 : (RT k) (RX (FA 0) (FA 1) (IA 3) (IA 4)) r_6 := hφ
  obtain ⟨hP, hD⟩ := PD.dim4 ⟨hP, hD⟩
  obtain ⟨hP, hD⟩ := PD.by3 (is := [15, 16, 23, 17, 0, 1, 24, 25, 18, 19, 20, 21, 2, 3, 4, 5, 6, 22, 7, 8, 9, 10, 11, 12, 13, 14]) (y := (GA k a (u9 IA 2 v_7.1.2) LA FA QA VA r_6)) ⟨hP, hD⟩ (by decide +kernel) rfl rfl
  refine W.ceq (cells' := 123 + cz true r_6.b) (slots' := 16705 + sz true r_6.b) rfl rfl ?_
  refine W.eq (g2 := F0 m 2630 ls [.int (iZ v_7.1.1)]) rfl ?_
  refine lv_pop hx hb dL_law_2630 rfl ?_
  refine lv_aload_n hx hb dL_law_2631 rfl (lv_at hl 1 rfl) ?_
  refine lv_aload_n hx hb dL_law_2632 rfl (lv_at hl 3 rfl) ?_
  refine lv_iload_n hx hb dL_law_2633 rfl (lv_at hl 0 rfl) ?_
  refine lv_iconst (v := iZ 1) hx hb dL_law_2634 rfl ?_
  refine lv_iadd hx hb dL_law_2635 ?_
  refine lv_topi (fun x_8 ex_8 => ?_)
  obtain rfl : x_8 = iZ (i + 1) := ex_8.trans (iZ_add i 1)
  refine va_sld hx hb hX hbl hbA hS (zi1 hi hL) dL_law_2636 ?_
  refine lv_topi (fun x_9 ex_9 => ?_)
  obtain rfl : x_9 = iZ z1 := ex_9.trans hz1
  refine lv_aload_n hx hb dL_law_2637 rfl (lv_at hl 3 rfl) ?_
  refine lv_iload_n hx hb dL_law_2638 rfl (lv_at hl 0 rfl) ?_
  refine lv_iconst (v := iZ 2) hx hb dL_law_2639 rfl ?_
  refine lv_iadd hx hb dL_law_2640 ?_
  refine lv_topi (fun x_10 ex_10 => ?_)
  obtain rfl : x_10 = iZ (i + 2) := ex_10.trans (iZ_add i 2)
  refine va_sld hx hb hX hbl hbA hS (zi2 hi hL) dL_law_2641 ?_
  refine lv_topi (fun x_11 ex_11 => ?_)
  obtain rfl : x_11 = iZ z2 := ex_11.trans hz2
  obtain ⟨hP, hD⟩ := PD.fr5 ⟨hP, hD⟩
  refine CKV2 (As := [.int (iZ z1), .int (iZ z2)]) (rest := []) (tl := (GA k a (u9 IA 2 v_7.1.2) LA FA QA VA r_6) ++ ((GB k a IB LB FB QB VB r) ++ ((GC k a IC LC FC QC VC r) ++ ((GD k a ID LD FD QD VD r) ++ (r_6.tl))))) hx hb hml hown hts hKK hP hD hS hA (q_fashion l D k (a 106) (a 107) (a 108) (a 109) (a 110) (a 111) (a 112) (a 113) (a 114) (a 115) (a 116) (a 117) (a 118) (a 119) (a 120) (a 121) (a 122) (IR 0) (IR 1) (IR 2) (IR 3) (IR 4) (IR 5) (IR 6) (IR 7) (IR 8) (IR 9) (IR 10) (IR 11) (IR 12) (IR 13) (IR 14) (IR 15) (IR 16) (IR 17) (LR 0) (LR 1) (FR 0) z1 z2 hM ⟨hz1a, hz1b⟩ ⟨hz2a, hz2b⟩) ci_X12_fashion qm_L_286 ⟨Nat.le_of_ble_eq_true rfl, Nat.le_of_ble_eq_true rfl⟩ (lroom _) [0, 1] [2, 3, 4, 5, 6, 7, 8, 9, 10, 11, 12, 13, 14, 15, 16] rfl rfl rfl (by decide +kernel) (by decide +kernel) (by decide +kernel) 0 rfl rfl rfl hl.1 rfl (Nat.le_of_ble_eq_true rfl) dL_law_2642 (fun u_12 H locs hφ hP hD hS => ?_)
  obtain ⟨hP, hD⟩ := PD.by3 (is := [15, 16, 0, 1, 2, 3, 4, 5, 6, 7, 8, 9, 10, 11, 12, 13, 14]) (y := (GR k a (u9 IR 0 u_12.1.2) LR FR QR VR r_6)) ⟨hP, hD⟩ (by decide +kernel) rfl rfl
  refine W.eq (g2 := F0 m 2645 ls [.int (iZ u_12.1.1)]) rfl ?_
  refine lv_pop hx hb dL_law_2645 rfl ?_
  refine lv_goto (tgt := 2846) hx hb dL_law_2646 rfl ?_
  obtain ⟨hP, hD⟩ := PD.fr5 ⟨hP, hD⟩
  obtain ⟨hP, hD⟩ := PD.fr5 ⟨hP, hD⟩
  obtain ⟨hP, hD⟩ := PD.fr5 ⟨hP, hD⟩
  obtain ⟨hP, hD⟩ := PD.fr5 ⟨hP, hD⟩
  exact hk a (u9 IA 2 v_7.1.2) LA FA QA VA IB LB FB QB VB IC LC FC QC VC ID LD FD QD VD (u9 IR 0 u_12.1.2) LR FR QR VR r_6 H locs ls (show INV _ _ _ _ _ _ _ _ _ _ _ _ _ _ _ from ⟨hWI, hWI_0, hWI_1, hWI_2, hrd, htr0, htr1, htr2, htr3, hrgk, hrgt, hdrc, hev, hmk, hM, hMK, hTI, hFS, htd, hlt, rgH, rgS, rgY, hdr, hit, hmmk, heq, htq, hrel, hbf, htb, hkw, hSK, hSK0, hSK1, hSK2, hNE, hNE0, hNE1, hNE2, hLE, hYE, hQE, hLE0, hLE1, hLE2, hYE0, hYE1, hYE2⟩) rtr_6 hP hD hS (lv_sub hl [0, 1, 2, 3] rfl)
set_option maxHeartbeats 40000000 in
set_option maxRecDepth 100000 in
theorem law_c65 {p : Program} {e : Env} {s : State} {m : MethodId} {below : List Frame} {meth : Method} {c : Code} (l : Launch) {b L : Nat} {xs : Nat → Int32} {A : Nat → Prop} {D : va_G} {k : Nat → ClassId} {sa sv : Nat} {i : Int} (C : LFX p s m meth c b L xs A D k sa sv) (hi : 0 ≤ i ∧ i + 6 ≤ (L : Int)) (hk : LAT p l e s m below meth c b A D k 2846 i) : LAT p l e s m below meth c b A D k 2649 i := by
  obtain ⟨hx, hb, hr, hml, hown, hts, hKK, hX, hbl, hbA, hA, hAf, hlocks, hSY, hRR, hL⟩ := id C
  intro a IA LA FA QA VA IB LB FB QB VB IC LC FC QC VC ID LD FD QD VD IR LR FR QR VR r H locs ls hI hRT hP hD hS hl
  have hK := hKK.1
  obtain ⟨hP, hD⟩ : PD D A ((GA k a IA LA FA QA VA r) ++ ((GB k a IB LB FB QB VB r) ++ ((GC k a IC LC FC QC VC r) ++ ((GD k a ID LD FD QD VD r) ++ ((GR k a IR LR FR QR VR r) ++ (r.tl)))))) H := ⟨hP, hD⟩
  obtain ⟨hWI, hWI_0, hWI_1, hWI_2, hrd, htr0, htr1, htr2, htr3, hrgk, hrgt, hdrc, hev, hmk, hM, hMK, hTI, hFS, htd, hlt, rgH, rgS, rgY, hdr, hit, hmmk, heq, htq, hrel, hbf, htb, hkw, hSK, hSK0, hSK1, hSK2, hNE, hNE0, hNE1, hNE2, hLE, hYE, hQE, hLE0, hLE1, hLE2, hYE0, hYE1, hYE2⟩ := id hI
  obtain ⟨gw1, gw2, gw3, gw4, gw5, gw6, gw7, gw8, gw9, gw10, gw11⟩ := id hWI
  have hx0 := gw9
  have hYI := gw11
  have hpf : rgI (FR 3) (-128) 127 900 := fun e h1 h2 => by rw [← htb e h1 h2]; exact hbf e h1 h2
  obtain ⟨z1, hz1, hz1a, hz1b⟩ := i32_z (xs (iZ (i + 1)).toNatClampNeg)
  obtain ⟨z2, hz2, hz2a, hz2b⟩ := i32_z (xs (iZ (i + 2)).toNatClampNeg)
  obtain ⟨z3, hz3, hz3a, hz3b⟩ := i32_z (xs (iZ (i + 3)).toNatClampNeg)
  obtain ⟨z4, hz4, hz4a, hz4b⟩ := i32_z (xs (iZ (i + 4)).toNatClampNeg)
  obtain ⟨z5, hz5, hz5a, hz5b⟩ := i32_z (xs (iZ (i + 5)).toNatClampNeg)
  have hl : lv_has ls 4 [(3, .int (iZ i)), (2, .ref (a 106)), (1, .ref (a 0)), (0, .ref b)] := hl
  have hls := hQE.1
  replace hls : _ := hls
  refine lv_aload_n hx hb dL_law_2649 rfl (lv_at hl 2 rfl) ?_
  refine lv_aload_n hx hb dL_law_2650 rfl (lv_at hl 3 rfl) ?_
  refine lv_iload_n hx hb dL_law_2651 rfl (lv_at hl 0 rfl) ?_
  refine lv_iconst (v := iZ 1) hx hb dL_law_2652 rfl ?_
  refine lv_iadd hx hb dL_law_2653 ?_
  refine lv_topi (fun x_1 ex_1 => ?_)
  obtain rfl : x_1 = iZ (i + 1) := ex_1.trans (iZ_add i 1)
  refine va_sld hx hb hX hbl hbA hS (zi1 hi hL) dL_law_2654 ?_
  refine lv_topi (fun x_2 ex_2 => ?_)
  obtain rfl : x_2 = iZ z1 := ex_2.trans hz1
  refine lv_aload_n hx hb dL_law_2655 rfl (lv_at hl 3 rfl) ?_
  refine lv_iload_n hx hb dL_law_2656 rfl (lv_at hl 0 rfl) ?_
  refine lv_iconst (v := iZ 2) hx hb dL_law_2657 rfl ?_
  refine lv_iadd hx hb dL_law_2658 ?_
  refine lv_topi (fun x_3 ex_3 => ?_)
  obtain rfl : x_3 = iZ (i + 2) := ex_3.trans (iZ_add i 2)
  refine va_sld hx hb hX hbl hbA hS (zi2 hi hL) dL_law_2659 ?_
  refine lv_topi (fun x_4 ex_4 => ?_)
  obtain rfl : x_4 = iZ z2 := ex_4.trans hz2
  obtain ⟨hP, hD⟩ := PD.mid4 ⟨hP, hD⟩
  refine CXM (mid := (GB k a IB LB FB QB VB r) ++ ((GC k a IC LC FC QC VC r) ++ ((GD k a ID LD FD QD VD r) ++ ((GR k a IR LR FR QR VR r))))) (c0 := 123) (s0 := 16705) (r := r) (As := [.int (iZ z1), .int (iZ z2)]) (rest := []) hx hb hml hown hts hKK hP hD hS hA (p_follows l D k (a 0) (a 1) (a 2) (a 3) (a 4) (a 5) (a 6) (a 7) (a 8) (a 9) (a 10) (a 11) (IA 0) (IA 1) (IA 2) (LA 0) (LA 1) ([.ref (a 26), .ref (a 27), .ref (a 28), .int (iZ (IA 3)), .int (iZ (IA 4)), .int (iZ (IA 5)), .int (iZ (IA 6))]) (a 23) (a 27) (a 28) (a 24) (a 25) (IA 3) (IA 4) (IA 5) (FA 0) (FA 1) (a 29) (a 30) (a 31) (a 32) (IA 7) (IA 8) (FA 2) (FA 3) (FA 4) (FA 5) z1 z2 r hRT rfl rfl rfl rfl rfl (by first | with_reducible assumption | omega) hx0 (by first | with_reducible assumption | omega) (by first | with_reducible assumption | omega) (by first | with_reducible assumption | omega) (by first | with_reducible assumption | omega) (by first | with_reducible assumption | omega) gw10 ⟨hz1a, hz1b⟩ ⟨hz2a, hz2b⟩) ci_X11_follows qm_L_287 ⟨Nat.le_of_ble_eq_true rfl, Nat.le_of_ble_eq_true rfl⟩ ⟨Nat.le_of_ble_eq_true rfl, Nat.le_of_ble_eq_true rfl⟩ [0, 1, 3, 8, 9, 10, 11, 17, 2, 6, 7] [4, 5, 12, 13, 14, 15, 16, 18, 19, 20, 21, 22, 23, 24, 25] rfl rfl rfl (by decide +kernel) (by decide +kernel) (by decide +kernel) 0 rfl rfl rfl hl.1 rfl (Nat.le_of_ble_eq_true rfl) dL_law_2660 (fun u_5 H locs hφ hP hD hS => ?_)
  obtain ⟨r_6, v_7⟩ := u_5
  have rtr_6 : (RT k) (RX (FA 0) (FA 1) (IA 3) (IA 4)) r_6 := hφ
  obtain ⟨hP, hD⟩ := PD.dim4 ⟨hP, hD⟩
  obtain ⟨hP, hD⟩ := PD.by3 (is := [15, 16, 23, 17, 0, 1, 24, 25, 18, 19, 20, 21, 2, 3, 4, 5, 6, 22, 7, 8, 9, 10, 11, 12, 13, 14]) (y := (GA k a (u9 IA 2 v_7.1.2) LA FA QA VA r_6)) ⟨hP, hD⟩ (by decide +kernel) rfl rfl
  refine W.ceq (cells' := 123 + cz true r_6.b) (slots' := 16705 + sz true r_6.b) rfl rfl ?_
  refine W.eq (g2 := F0 m 2663 ls [.int (iZ v_7.1.1)]) rfl ?_
  refine lv_pop hx hb dL_law_2663 rfl ?_
  refine lv_aload_n hx hb dL_law_2664 rfl (lv_at hl 1 rfl) ?_
  refine lv_aload_n hx hb dL_law_2665 rfl (lv_at hl 3 rfl) ?_
  refine lv_iload_n hx hb dL_law_2666 rfl (lv_at hl 0 rfl) ?_
  refine lv_iconst (v := iZ 1) hx hb dL_law_2667 rfl ?_
  refine lv_iadd hx hb dL_law_2668 ?_
  refine lv_topi (fun x_8 ex_8 => ?_)
  obtain rfl : x_8 = iZ (i + 1) := ex_8.trans (iZ_add i 1)
  refine va_sld hx hb hX hbl hbA hS (zi1 hi hL) dL_law_2669 ?_
  refine lv_topi (fun x_9 ex_9 => ?_)
  obtain rfl : x_9 = iZ z1 := ex_9.trans hz1
  refine lv_aload_n hx hb dL_law_2670 rfl (lv_at hl 3 rfl) ?_
  refine lv_iload_n hx hb dL_law_2671 rfl (lv_at hl 0 rfl) ?_
  refine lv_iconst (v := iZ 2) hx hb dL_law_2672 rfl ?_
  refine lv_iadd hx hb dL_law_2673 ?_
  refine lv_topi (fun x_10 ex_10 => ?_)
  obtain rfl : x_10 = iZ (i + 2) := ex_10.trans (iZ_add i 2)
  refine va_sld hx hb hX hbl hbA hS (zi2 hi hL) dL_law_2674 ?_
  refine lv_topi (fun x_11 ex_11 => ?_)
  obtain rfl : x_11 = iZ z2 := ex_11.trans hz2
  obtain ⟨hP, hD⟩ := PD.fr5 ⟨hP, hD⟩
  refine CKV2 (As := [.int (iZ z1), .int (iZ z2)]) (rest := []) (tl := (GA k a (u9 IA 2 v_7.1.2) LA FA QA VA r_6) ++ ((GB k a IB LB FB QB VB r) ++ ((GC k a IC LC FC QC VC r) ++ ((GD k a ID LD FD QD VD r) ++ (r_6.tl))))) hx hb hml hown hts hKK hP hD hS hA (q_follows l D k (a 106) (a 107) (a 108) (a 109) (a 110) (a 111) (a 112) (a 113) (a 114) (a 115) (a 116) (a 117) (a 118) (a 119) (a 120) (a 121) (a 122) (IR 0) (IR 1) (IR 2) (IR 3) (IR 4) (IR 5) (IR 6) (IR 7) (IR 8) (IR 9) (IR 10) (IR 11) (IR 12) (IR 13) (IR 14) (IR 15) (IR 16) (IR 17) (LR 0) (LR 1) (FR 0) z1 z2 hM ⟨hz1a, hz1b⟩ ⟨hz2a, hz2b⟩) ci_X12_follows qm_L_290 ⟨Nat.le_of_ble_eq_true rfl, Nat.le_of_ble_eq_true rfl⟩ (lroom _) [0, 1] [2, 3, 4, 5, 6, 7, 8, 9, 10, 11, 12, 13, 14, 15, 16] rfl rfl rfl (by decide +kernel) (by decide +kernel) (by decide +kernel) 0 rfl rfl rfl hl.1 rfl (Nat.le_of_ble_eq_true rfl) dL_law_2675 (fun u_12 H locs hφ hP hD hS => ?_)
  obtain ⟨hP, hD⟩ := PD.by3 (is := [15, 16, 0, 1, 2, 3, 4, 5, 6, 7, 8, 9, 10, 11, 12, 13, 14]) (y := (GR k a (u9 IR 0 u_12.1.2) LR FR QR VR r_6)) ⟨hP, hD⟩ (by decide +kernel) rfl rfl
  refine W.eq (g2 := F0 m 2678 ls [.int (iZ u_12.1.1)]) rfl ?_
  refine lv_pop hx hb dL_law_2678 rfl ?_
  refine lv_goto (tgt := 2846) hx hb dL_law_2679 rfl ?_
  obtain ⟨hP, hD⟩ := PD.fr5 ⟨hP, hD⟩
  obtain ⟨hP, hD⟩ := PD.fr5 ⟨hP, hD⟩
  obtain ⟨hP, hD⟩ := PD.fr5 ⟨hP, hD⟩
  obtain ⟨hP, hD⟩ := PD.fr5 ⟨hP, hD⟩
  exact hk a (u9 IA 2 v_7.1.2) LA FA QA VA IB LB FB QB VB IC LC FC QC VC ID LD FD QD VD (u9 IR 0 u_12.1.2) LR FR QR VR r_6 H locs ls (show INV _ _ _ _ _ _ _ _ _ _ _ _ _ _ _ from ⟨hWI, hWI_0, hWI_1, hWI_2, hrd, htr0, htr1, htr2, htr3, hrgk, hrgt, hdrc, hev, hmk, hM, hMK, hTI, hFS, htd, hlt, rgH, rgS, rgY, hdr, hit, hmmk, heq, htq, hrel, hbf, htb, hkw, hSK, hSK0, hSK1, hSK2, hNE, hNE0, hNE1, hNE2, hLE, hYE, hQE, hLE0, hLE1, hLE2, hYE0, hYE1, hYE2⟩) rtr_6 hP hD hS (lv_sub hl [0, 1, 2, 3] rfl)
set_option maxHeartbeats 40000000 in
set_option maxRecDepth 100000 in
theorem law_c66 {p : Program} {e : Env} {s : State} {m : MethodId} {below : List Frame} {meth : Method} {c : Code} (l : Launch) {b L : Nat} {xs : Nat → Int32} {A : Nat → Prop} {D : va_G} {k : Nat → ClassId} {sa sv : Nat} {i : Int} (C : LFX p s m meth c b L xs A D k sa sv) (hi : 0 ≤ i ∧ i + 6 ≤ (L : Int)) (hk : LAT p l e s m below meth c b A D k 2846 i) : LAT p l e s m below meth c b A D k 2682 i := by
  obtain ⟨hx, hb, hr, hml, hown, hts, hKK, hX, hbl, hbA, hA, hAf, hlocks, hSY, hRR, hL⟩ := id C
  intro a IA LA FA QA VA IB LB FB QB VB IC LC FC QC VC ID LD FD QD VD IR LR FR QR VR r H locs ls hI hRT hP hD hS hl
  have hK := hKK.1
  obtain ⟨hP, hD⟩ : PD D A ((GA k a IA LA FA QA VA r) ++ ((GB k a IB LB FB QB VB r) ++ ((GC k a IC LC FC QC VC r) ++ ((GD k a ID LD FD QD VD r) ++ ((GR k a IR LR FR QR VR r) ++ (r.tl)))))) H := ⟨hP, hD⟩
  obtain ⟨hWI, hWI_0, hWI_1, hWI_2, hrd, htr0, htr1, htr2, htr3, hrgk, hrgt, hdrc, hev, hmk, hM, hMK, hTI, hFS, htd, hlt, rgH, rgS, rgY, hdr, hit, hmmk, heq, htq, hrel, hbf, htb, hkw, hSK, hSK0, hSK1, hSK2, hNE, hNE0, hNE1, hNE2, hLE, hYE, hQE, hLE0, hLE1, hLE2, hYE0, hYE1, hYE2⟩ := id hI
  obtain ⟨gw1, gw2, gw3, gw4, gw5, gw6, gw7, gw8, gw9, gw10, gw11⟩ := id hWI
  have hx0 := gw9
  have hYI := gw11
  have hpf : rgI (FR 3) (-128) 127 900 := fun e h1 h2 => by rw [← htb e h1 h2]; exact hbf e h1 h2
  obtain ⟨z1, hz1, hz1a, hz1b⟩ := i32_z (xs (iZ (i + 1)).toNatClampNeg)
  obtain ⟨z2, hz2, hz2a, hz2b⟩ := i32_z (xs (iZ (i + 2)).toNatClampNeg)
  obtain ⟨z3, hz3, hz3a, hz3b⟩ := i32_z (xs (iZ (i + 3)).toNatClampNeg)
  obtain ⟨z4, hz4, hz4a, hz4b⟩ := i32_z (xs (iZ (i + 4)).toNatClampNeg)
  obtain ⟨z5, hz5, hz5a, hz5b⟩ := i32_z (xs (iZ (i + 5)).toNatClampNeg)
  have hl : lv_has ls 4 [(3, .int (iZ i)), (2, .ref (a 106)), (1, .ref (a 0)), (0, .ref b)] := hl
  have hls := hQE.1
  replace hls : _ := hls
  refine lv_aload_n hx hb dL_law_2682 rfl (lv_at hl 2 rfl) ?_
  refine lv_aload_n hx hb dL_law_2683 rfl (lv_at hl 3 rfl) ?_
  refine lv_iload_n hx hb dL_law_2684 rfl (lv_at hl 0 rfl) ?_
  refine lv_iconst (v := iZ 1) hx hb dL_law_2685 rfl ?_
  refine lv_iadd hx hb dL_law_2686 ?_
  refine lv_topi (fun x_1 ex_1 => ?_)
  obtain rfl : x_1 = iZ (i + 1) := ex_1.trans (iZ_add i 1)
  refine va_sld hx hb hX hbl hbA hS (zi1 hi hL) dL_law_2687 ?_
  refine lv_topi (fun x_2 ex_2 => ?_)
  obtain rfl : x_2 = iZ z1 := ex_2.trans hz1
  obtain ⟨hP, hD⟩ := PD.mid4 ⟨hP, hD⟩
  refine CXM (mid := (GB k a IB LB FB QB VB r) ++ ((GC k a IC LC FC QC VC r) ++ ((GD k a ID LD FD QD VD r) ++ ((GR k a IR LR FR QR VR r))))) (c0 := 123) (s0 := 16705) (r := r) (As := [.int (iZ z1)]) (rest := []) hx hb hml hown hts hKK hP hD hS hA (p_model l D k (a 0) (a 1) (a 2) (a 3) (a 4) (a 5) (a 6) (a 7) (a 8) (a 9) (a 10) (a 11) (IA 0) (IA 1) (IA 2) (LA 0) (LA 1) ([.ref (a 26), .ref (a 27), .ref (a 28), .int (iZ (IA 3)), .int (iZ (IA 4)), .int (iZ (IA 5)), .int (iZ (IA 6))]) (a 23) (a 27) (a 28) (a 24) (a 25) (IA 3) (IA 4) (IA 5) (FA 0) (FA 1) (a 29) (a 30) (a 31) (a 32) (IA 7) (IA 8) (FA 2) (FA 3) (FA 4) (FA 5) z1 r hRT rfl rfl rfl rfl rfl (by first | with_reducible assumption | omega) hx0 (by first | with_reducible assumption | omega) (by first | with_reducible assumption | omega) (by first | with_reducible assumption | omega) (by first | with_reducible assumption | omega) (by first | with_reducible assumption | omega) gw10 ⟨hz1a, hz1b⟩) ci_X11_model qm_L_291 ⟨Nat.le_of_ble_eq_true rfl, Nat.le_of_ble_eq_true rfl⟩ ⟨Nat.le_of_ble_eq_true rfl, Nat.le_of_ble_eq_true rfl⟩ [0, 1, 3, 8, 9, 10, 11, 17, 2, 6, 7] [4, 5, 12, 13, 14, 15, 16, 18, 19, 20, 21, 22, 23, 24, 25] rfl rfl rfl (by decide +kernel) (by decide +kernel) (by decide +kernel) 0 rfl rfl rfl hl.1 rfl (Nat.le_of_ble_eq_true rfl) dL_law_2688 (fun u_3 H locs hφ hP hD hS => ?_)
  obtain ⟨r_4, v_5⟩ := u_3
  have rtr_4 : (RT k) (RX (FA 0) (FA 1) (IA 3) (IA 4)) r_4 := hφ
  obtain ⟨hP, hD⟩ := PD.dim4 ⟨hP, hD⟩
  obtain ⟨hP, hD⟩ := PD.by3 (is := [15, 16, 23, 17, 0, 1, 24, 25, 18, 19, 20, 21, 2, 3, 4, 5, 6, 22, 7, 8, 9, 10, 11, 12, 13, 14]) (y := (GA k a (u9 IA 2 v_5.1.2) LA FA QA VA r_4)) ⟨hP, hD⟩ (by decide +kernel) rfl rfl
  refine W.ceq (cells' := 123 + cz true r_4.b) (slots' := 16705 + sz true r_4.b) rfl rfl ?_
  refine W.eq (g2 := F0 m 2691 ls [.int (iZ v_5.1.1)]) rfl ?_
  refine lv_pop hx hb dL_law_2691 rfl ?_
  refine lv_aload_n hx hb dL_law_2692 rfl (lv_at hl 1 rfl) ?_
  refine lv_aload_n hx hb dL_law_2693 rfl (lv_at hl 3 rfl) ?_
  refine lv_iload_n hx hb dL_law_2694 rfl (lv_at hl 0 rfl) ?_
  refine lv_iconst (v := iZ 1) hx hb dL_law_2695 rfl ?_
  refine lv_iadd hx hb dL_law_2696 ?_
  refine lv_topi (fun x_6 ex_6 => ?_)
  obtain rfl : x_6 = iZ (i + 1) := ex_6.trans (iZ_add i 1)
  refine va_sld hx hb hX hbl hbA hS (zi1 hi hL) dL_law_2697 ?_
  refine lv_topi (fun x_7 ex_7 => ?_)
  obtain rfl : x_7 = iZ z1 := ex_7.trans hz1
  obtain ⟨hP, hD⟩ := PD.fr5 ⟨hP, hD⟩
  refine CKV2 (As := [.int (iZ z1)]) (rest := []) (tl := (GA k a (u9 IA 2 v_5.1.2) LA FA QA VA r_4) ++ ((GB k a IB LB FB QB VB r) ++ ((GC k a IC LC FC QC VC r) ++ ((GD k a ID LD FD QD VD r) ++ (r_4.tl))))) hx hb hml hown hts hKK hP hD hS hA (q_model l D k (a 106) (a 107) (a 108) (a 109) (a 110) (a 111) (a 112) (a 113) (a 114) (a 115) (a 116) (a 117) (a 118) (a 119) (a 120) (a 121) (a 122) (IR 0) (IR 1) (IR 2) (IR 3) (IR 4) (IR 5) (IR 6) (IR 7) (IR 8) (IR 9) (IR 10) (IR 11) (IR 12) (IR 13) (IR 14) (IR 15) (IR 16) (IR 17) (LR 0) (LR 1) (FR 0) z1 hM ⟨hz1a, hz1b⟩) ci_X12_model qm_L_294 ⟨Nat.le_of_ble_eq_true rfl, Nat.le_of_ble_eq_true rfl⟩ (lroom _) [0, 1] [2, 3, 4, 5, 6, 7, 8, 9, 10, 11, 12, 13, 14, 15, 16] rfl rfl rfl (by decide +kernel) (by decide +kernel) (by decide +kernel) 0 rfl rfl rfl hl.1 rfl (Nat.le_of_ble_eq_true rfl) dL_law_2698 (fun u_8 H locs hφ hP hD hS => ?_)
  obtain ⟨hP, hD⟩ := PD.by3 (is := [15, 16, 0, 1, 2, 3, 4, 5, 6, 7, 8, 9, 10, 11, 12, 13, 14]) (y := (GR k a (u9 IR 0 u_8.1.2) LR FR QR VR r_4)) ⟨hP, hD⟩ (by decide +kernel) rfl rfl
  refine W.eq (g2 := F0 m 2701 ls [.int (iZ u_8.1.1)]) rfl ?_
  refine lv_pop hx hb dL_law_2701 rfl ?_
  refine lv_goto (tgt := 2846) hx hb dL_law_2702 rfl ?_
  obtain ⟨hP, hD⟩ := PD.fr5 ⟨hP, hD⟩
  obtain ⟨hP, hD⟩ := PD.fr5 ⟨hP, hD⟩
  obtain ⟨hP, hD⟩ := PD.fr5 ⟨hP, hD⟩
  obtain ⟨hP, hD⟩ := PD.fr5 ⟨hP, hD⟩
  exact hk a (u9 IA 2 v_5.1.2) LA FA QA VA IB LB FB QB VB IC LC FC QC VC ID LD FD QD VD (u9 IR 0 u_8.1.2) LR FR QR VR r_4 H locs ls (show INV _ _ _ _ _ _ _ _ _ _ _ _ _ _ _ from ⟨hWI, hWI_0, hWI_1, hWI_2, hrd, htr0, htr1, htr2, htr3, hrgk, hrgt, hdrc, hev, hmk, hM, hMK, hTI, hFS, htd, hlt, rgH, rgS, rgY, hdr, hit, hmmk, heq, htq, hrel, hbf, htb, hkw, hSK, hSK0, hSK1, hSK2, hNE, hNE0, hNE1, hNE2, hLE, hYE, hQE, hLE0, hLE1, hLE2, hYE0, hYE1, hYE2⟩) rtr_4 hP hD hS (lv_sub hl [0, 1, 2, 3] rfl)
set_option maxHeartbeats 40000000 in
set_option maxRecDepth 100000 in
theorem law_c67 {p : Program} {e : Env} {s : State} {m : MethodId} {below : List Frame} {meth : Method} {c : Code} (l : Launch) {b L : Nat} {xs : Nat → Int32} {A : Nat → Prop} {D : va_G} {k : Nat → ClassId} {sa sv : Nat} {i : Int} (C : LFX p s m meth c b L xs A D k sa sv) (hi : 0 ≤ i ∧ i + 6 ≤ (L : Int)) (hk : LAT p l e s m below meth c b A D k 2846 i) : LAT p l e s m below meth c b A D k 2705 i := by
  obtain ⟨hx, hb, hr, hml, hown, hts, hKK, hX, hbl, hbA, hA, hAf, hlocks, hSY, hRR, hL⟩ := id C
  intro a IA LA FA QA VA IB LB FB QB VB IC LC FC QC VC ID LD FD QD VD IR LR FR QR VR r H locs ls hI hRT hP hD hS hl
  have hK := hKK.1
  obtain ⟨hP, hD⟩ : PD D A ((GA k a IA LA FA QA VA r) ++ ((GB k a IB LB FB QB VB r) ++ ((GC k a IC LC FC QC VC r) ++ ((GD k a ID LD FD QD VD r) ++ ((GR k a IR LR FR QR VR r) ++ (r.tl)))))) H := ⟨hP, hD⟩
  obtain ⟨hWI, hWI_0, hWI_1, hWI_2, hrd, htr0, htr1, htr2, htr3, hrgk, hrgt, hdrc, hev, hmk, hM, hMK, hTI, hFS, htd, hlt, rgH, rgS, rgY, hdr, hit, hmmk, heq, htq, hrel, hbf, htb, hkw, hSK, hSK0, hSK1, hSK2, hNE, hNE0, hNE1, hNE2, hLE, hYE, hQE, hLE0, hLE1, hLE2, hYE0, hYE1, hYE2⟩ := id hI
  obtain ⟨gw1, gw2, gw3, gw4, gw5, gw6, gw7, gw8, gw9, gw10, gw11⟩ := id hWI
  have hx0 := gw9
  have hYI := gw11
  have hpf : rgI (FR 3) (-128) 127 900 := fun e h1 h2 => by rw [← htb e h1 h2]; exact hbf e h1 h2
  obtain ⟨z1, hz1, hz1a, hz1b⟩ := i32_z (xs (iZ (i + 1)).toNatClampNeg)
  obtain ⟨z2, hz2, hz2a, hz2b⟩ := i32_z (xs (iZ (i + 2)).toNatClampNeg)
  obtain ⟨z3, hz3, hz3a, hz3b⟩ := i32_z (xs (iZ (i + 3)).toNatClampNeg)
  obtain ⟨z4, hz4, hz4a, hz4b⟩ := i32_z (xs (iZ (i + 4)).toNatClampNeg)
  obtain ⟨z5, hz5, hz5a, hz5b⟩ := i32_z (xs (iZ (i + 5)).toNatClampNeg)
  have hl : lv_has ls 4 [(3, .int (iZ i)), (2, .ref (a 106)), (1, .ref (a 0)), (0, .ref b)] := hl
  have hls := hQE.1
  replace hls : _ := hls
  refine lv_aload_n hx hb dL_law_2705 rfl (lv_at hl 2 rfl) ?_
  refine lv_aload_n hx hb dL_law_2706 rfl (lv_at hl 3 rfl) ?_
  refine lv_iload_n hx hb dL_law_2707 rfl (lv_at hl 0 rfl) ?_
  refine lv_iconst (v := iZ 1) hx hb dL_law_2708 rfl ?_
  refine lv_iadd hx hb dL_law_2709 ?_
  refine lv_topi (fun x_1 ex_1 => ?_)
  obtain rfl : x_1 = iZ (i + 1) := ex_1.trans (iZ_add i 1)
  refine va_sld hx hb hX hbl hbA hS (zi1 hi hL) dL_law_2710 ?_
  refine lv_topi (fun x_2 ex_2 => ?_)
  obtain rfl : x_2 = iZ z1 := ex_2.trans hz1
  refine CKV2 (As := [.int (iZ z1)]) (rest := []) (tl := (GB k a IB LB FB QB VB r) ++ ((GC k a IC LC FC QC VC r) ++ ((GD k a ID LD FD QD VD r) ++ ((GR k a IR LR FR QR VR r) ++ (r.tl))))) hx hb hml hown hts hKK hP hD hS hA (p_changes l D k (a 0) (a 1) (a 2) (a 3) (a 4) (a 5) (a 6) (a 7) (a 8) (a 9) (a 10) (a 11) (IA 0) (IA 1) (IA 2) (LA 0) (LA 1) ([.ref (a 26), .ref (a 27), .ref (a 28), .int (iZ (IA 3)), .int (iZ (IA 4)), .int (iZ (IA 5)), .int (iZ (IA 6))]) (a 23) (a 27) (a 28) (a 24) (a 25) (IA 3) (IA 4) (IA 5) (FA 0) (FA 1) (a 29) (a 30) (a 31) (a 32) (IA 7) (IA 8) (FA 2) (FA 3) (FA 4) (FA 5) z1 rfl rfl rfl rfl rfl (by first | with_reducible assumption | omega) hx0 (by first | with_reducible assumption | omega) (by first | with_reducible assumption | omega) (by first | with_reducible assumption | omega) (by first | with_reducible assumption | omega) (by first | with_reducible assumption | omega) gw10 ⟨hz1a, hz1b⟩) ci_X11_changes qm_L_295 ⟨Nat.le_of_ble_eq_true rfl, Nat.le_of_ble_eq_true rfl⟩ (lroom _) [0, 1, 3, 8, 9, 10, 11, 2, 6, 7] [4, 5, 12, 13, 14, 15, 16, 17, 18, 19, 20, 21, 22, 23, 24, 25] rfl rfl rfl (by decide +kernel) (by decide +kernel) (by decide +kernel) 0 rfl rfl rfl hl.1 rfl (Nat.le_of_ble_eq_true rfl) dL_law_2711 (fun u_3 H locs hφ hP hD hS => ?_)
  obtain ⟨hP, hD⟩ := PD.by3 (is := [16, 17, 23, 18, 0, 1, 24, 25, 19, 20, 21, 22, 2, 3, 4, 5, 6, 7, 8, 9, 10, 11, 12, 13, 14, 15]) (y := (GA k a (u9 IA 2 u_3.1.2) LA FA QA VA r)) ⟨hP, hD⟩ (by decide +kernel) rfl rfl
  refine W.eq (g2 := F0 m 2714 ls [.int (iZ u_3.1.1)]) rfl ?_
  refine lv_pop hx hb dL_law_2714 rfl ?_
  refine lv_aload_n hx hb dL_law_2715 rfl (lv_at hl 1 rfl) ?_
  refine lv_aload_n hx hb dL_law_2716 rfl (lv_at hl 3 rfl) ?_
  refine lv_iload_n hx hb dL_law_2717 rfl (lv_at hl 0 rfl) ?_
  refine lv_iconst (v := iZ 1) hx hb dL_law_2718 rfl ?_
  refine lv_iadd hx hb dL_law_2719 ?_
  refine lv_topi (fun x_4 ex_4 => ?_)
  obtain rfl : x_4 = iZ (i + 1) := ex_4.trans (iZ_add i 1)
  refine va_sld hx hb hX hbl hbA hS (zi1 hi hL) dL_law_2720 ?_
  refine lv_topi (fun x_5 ex_5 => ?_)
  obtain rfl : x_5 = iZ z1 := ex_5.trans hz1
  obtain ⟨hP, hD⟩ := PD.fr5 ⟨hP, hD⟩
  refine CKV2 (As := [.int (iZ z1)]) (rest := []) (tl := (GA k a (u9 IA 2 u_3.1.2) LA FA QA VA r) ++ ((GB k a IB LB FB QB VB r) ++ ((GC k a IC LC FC QC VC r) ++ ((GD k a ID LD FD QD VD r) ++ (r.tl))))) hx hb hml hown hts hKK hP hD hS hA (q_changes l D k (a 106) (a 107) (a 108) (a 109) (a 110) (a 111) (a 112) (a 113) (a 114) (a 115) (a 116) (a 117) (a 118) (a 119) (a 120) (a 121) (a 122) (IR 0) (IR 1) (IR 2) (IR 3) (IR 4) (IR 5) (IR 6) (IR 7) (IR 8) (IR 9) (IR 10) (IR 11) (IR 12) (IR 13) (IR 14) (IR 15) (IR 16) (IR 17) (LR 0) (LR 1) (FR 0) z1 hM ⟨hz1a, hz1b⟩) ci_X12_changes qm_L_298 ⟨Nat.le_of_ble_eq_true rfl, Nat.le_of_ble_eq_true rfl⟩ (lroom _) [0, 1] [2, 3, 4, 5, 6, 7, 8, 9, 10, 11, 12, 13, 14, 15, 16] rfl rfl rfl (by decide +kernel) (by decide +kernel) (by decide +kernel) 0 rfl rfl rfl hl.1 rfl (Nat.le_of_ble_eq_true rfl) dL_law_2721 (fun u_6 H locs hφ hP hD hS => ?_)
  obtain ⟨hP, hD⟩ := PD.by3 (is := [15, 16, 0, 1, 2, 3, 4, 5, 6, 7, 8, 9, 10, 11, 12, 13, 14]) (y := (GR k a (u9 IR 0 u_6.1.2) LR FR QR VR r)) ⟨hP, hD⟩ (by decide +kernel) rfl rfl
  refine W.eq (g2 := F0 m 2724 ls [.int (iZ u_6.1.1)]) rfl ?_
  refine lv_pop hx hb dL_law_2724 rfl ?_
  refine lv_goto (tgt := 2846) hx hb dL_law_2725 rfl ?_
  obtain ⟨hP, hD⟩ := PD.fr5 ⟨hP, hD⟩
  obtain ⟨hP, hD⟩ := PD.fr5 ⟨hP, hD⟩
  obtain ⟨hP, hD⟩ := PD.fr5 ⟨hP, hD⟩
  obtain ⟨hP, hD⟩ := PD.fr5 ⟨hP, hD⟩
  exact hk a (u9 IA 2 u_3.1.2) LA FA QA VA IB LB FB QB VB IC LC FC QC VC ID LD FD QD VD (u9 IR 0 u_6.1.2) LR FR QR VR r H locs ls (show INV _ _ _ _ _ _ _ _ _ _ _ _ _ _ _ from ⟨hWI, hWI_0, hWI_1, hWI_2, hrd, htr0, htr1, htr2, htr3, hrgk, hrgt, hdrc, hev, hmk, hM, hMK, hTI, hFS, htd, hlt, rgH, rgS, rgY, hdr, hit, hmmk, heq, htq, hrel, hbf, htb, hkw, hSK, hSK0, hSK1, hSK2, hNE, hNE0, hNE1, hNE2, hLE, hYE, hQE, hLE0, hLE1, hLE2, hYE0, hYE1, hYE2⟩) hRT hP hD hS (lv_sub hl [0, 1, 2, 3] rfl)
set_option maxHeartbeats 40000000 in
set_option maxRecDepth 100000 in
theorem law_c68 {p : Program} {e : Env} {s : State} {m : MethodId} {below : List Frame} {meth : Method} {c : Code} (l : Launch) {b L : Nat} {xs : Nat → Int32} {A : Nat → Prop} {D : va_G} {k : Nat → ClassId} {sa sv : Nat} {i : Int} (C : LFX p s m meth c b L xs A D k sa sv) (hi : 0 ≤ i ∧ i + 6 ≤ (L : Int)) (hk : LAT p l e s m below meth c b A D k 2846 i) : LAT p l e s m below meth c b A D k 2728 i := by
  obtain ⟨hx, hb, hr, hml, hown, hts, hKK, hX, hbl, hbA, hA, hAf, hlocks, hSY, hRR, hL⟩ := id C
  intro a IA LA FA QA VA IB LB FB QB VB IC LC FC QC VC ID LD FD QD VD IR LR FR QR VR r H locs ls hI hRT hP hD hS hl
  have hK := hKK.1
  obtain ⟨hP, hD⟩ : PD D A ((GA k a IA LA FA QA VA r) ++ ((GB k a IB LB FB QB VB r) ++ ((GC k a IC LC FC QC VC r) ++ ((GD k a ID LD FD QD VD r) ++ ((GR k a IR LR FR QR VR r) ++ (r.tl)))))) H := ⟨hP, hD⟩
  obtain ⟨hWI, hWI_0, hWI_1, hWI_2, hrd, htr0, htr1, htr2, htr3, hrgk, hrgt, hdrc, hev, hmk, hM, hMK, hTI, hFS, htd, hlt, rgH, rgS, rgY, hdr, hit, hmmk, heq, htq, hrel, hbf, htb, hkw, hSK, hSK0, hSK1, hSK2, hNE, hNE0, hNE1, hNE2, hLE, hYE, hQE, hLE0, hLE1, hLE2, hYE0, hYE1, hYE2⟩ := id hI
  obtain ⟨gw1, gw2, gw3, gw4, gw5, gw6, gw7, gw8, gw9, gw10, gw11⟩ := id hWI
  have hx0 := gw9
  have hYI := gw11
  have hpf : rgI (FR 3) (-128) 127 900 := fun e h1 h2 => by rw [← htb e h1 h2]; exact hbf e h1 h2
  obtain ⟨z1, hz1, hz1a, hz1b⟩ := i32_z (xs (iZ (i + 1)).toNatClampNeg)
  obtain ⟨z2, hz2, hz2a, hz2b⟩ := i32_z (xs (iZ (i + 2)).toNatClampNeg)
  obtain ⟨z3, hz3, hz3a, hz3b⟩ := i32_z (xs (iZ (i + 3)).toNatClampNeg)
  obtain ⟨z4, hz4, hz4a, hz4b⟩ := i32_z (xs (iZ (i + 4)).toNatClampNeg)
  obtain ⟨z5, hz5, hz5a, hz5b⟩ := i32_z (xs (iZ (i + 5)).toNatClampNeg)
  have hl : lv_has ls 4 [(3, .int (iZ i)), (2, .ref (a 106)), (1, .ref (a 0)), (0, .ref b)] := hl
  have hls := hQE.1
  replace hls : _ := hls
  refine lv_aload_n hx hb dL_law_2728 rfl (lv_at hl 2 rfl) ?_
  refine CKV2 (As := []) (rest := []) (tl := (GB k a IB LB FB QB VB r) ++ ((GC k a IC LC FC QC VC r) ++ ((GD k a ID LD FD QD VD r) ++ ((GR k a IR LR FR QR VR r) ++ (r.tl))))) hx hb hml hown hts hKK hP hD hS hA (p_uniform l D k (a 0) (a 1) (a 2) (a 3) (a 4) (a 5) (a 6) (a 7) (a 8) (a 9) (a 10) (a 11) (IA 0) (IA 1) (IA 2) (LA 0) (LA 1) ([.ref (a 26), .ref (a 27), .ref (a 28), .int (iZ (IA 3)), .int (iZ (IA 4)), .int (iZ (IA 5)), .int (iZ (IA 6))]) (a 23) (a 27) (a 28) (a 24) (a 25) (IA 3) (IA 4) (IA 5) (FA 0) (FA 1) (a 29) (a 30) (a 31) (a 32) (IA 7) (IA 8) (FA 2) (FA 3) (FA 4) (FA 5) rfl rfl rfl rfl rfl (by first | with_reducible assumption | omega) hx0 (by first | with_reducible assumption | omega) (by first | with_reducible assumption | omega) (by first | with_reducible assumption | omega) (by first | with_reducible assumption | omega) (by first | with_reducible assumption | omega) gw10) ci_X11_uniform qm_L_299 ⟨Nat.le_of_ble_eq_true rfl, Nat.le_of_ble_eq_true rfl⟩ (lroom _) [0, 1, 3, 8, 9, 10, 11, 2, 6, 7] [4, 5, 12, 13, 14, 15, 16, 17, 18, 19, 20, 21, 22, 23, 24, 25] rfl rfl rfl (by decide +kernel) (by decide +kernel) (by decide +kernel) 0 rfl rfl rfl hl.1 rfl (Nat.le_of_ble_eq_true rfl) dL_law_2729 (fun u_1 H locs hφ hP hD hS => ?_)
  obtain ⟨hP, hD⟩ := PD.by3 (is := [16, 17, 23, 18, 0, 1, 24, 25, 19, 20, 21, 22, 2, 3, 4, 5, 6, 7, 8, 9, 10, 11, 12, 13, 14, 15]) (y := (GA k a (u9 IA 2 u_1.1.2) LA FA QA VA r)) ⟨hP, hD⟩ (by decide +kernel) rfl rfl
  refine W.eq (g2 := F0 m 2732 ls [.int (iZ u_1.1.1)]) rfl ?_
  refine lv_pop hx hb dL_law_2732 rfl ?_
  refine lv_aload_n hx hb dL_law_2733 rfl (lv_at hl 1 rfl) ?_
  obtain ⟨hP, hD⟩ := PD.fr5 ⟨hP, hD⟩
  refine CKV2 (As := []) (rest := []) (tl := (GA k a (u9 IA 2 u_1.1.2) LA FA QA VA r) ++ ((GB k a IB LB FB QB VB r) ++ ((GC k a IC LC FC QC VC r) ++ ((GD k a ID LD FD QD VD r) ++ (r.tl))))) hx hb hml hown hts hKK hP hD hS hA (q_uniform l D k (a 106) (a 107) (a 108) (a 109) (a 110) (a 111) (a 112) (a 113) (a 114) (a 115) (a 116) (a 117) (a 118) (a 119) (a 120) (a 121) (a 122) (IR 0) (IR 1) (IR 2) (IR 3) (IR 4) (IR 5) (IR 6) (IR 7) (IR 8) (IR 9) (IR 10) (IR 11) (IR 12) (IR 13) (IR 14) (IR 15) (IR 16) (IR 17) (LR 0) (LR 1) (FR 0) hM) ci_X12_uniform qm_L_302 ⟨Nat.le_of_ble_eq_true rfl, Nat.le_of_ble_eq_true rfl⟩ (lroom _) [0, 1] [2, 3, 4, 5, 6, 7, 8, 9, 10, 11, 12, 13, 14, 15, 16] rfl rfl rfl (by decide +kernel) (by decide +kernel) (by decide +kernel) 0 rfl rfl rfl hl.1 rfl (Nat.le_of_ble_eq_true rfl) dL_law_2734 (fun u_2 H locs hφ hP hD hS => ?_)
  obtain ⟨hP, hD⟩ := PD.by3 (is := [15, 16, 0, 1, 2, 3, 4, 5, 6, 7, 8, 9, 10, 11, 12, 13, 14]) (y := (GR k a (u9 IR 0 u_2.1.2) LR FR QR VR r)) ⟨hP, hD⟩ (by decide +kernel) rfl rfl
  refine W.eq (g2 := F0 m 2737 ls [.int (iZ u_2.1.1)]) rfl ?_
  refine lv_pop hx hb dL_law_2737 rfl ?_
  refine lv_goto (tgt := 2846) hx hb dL_law_2738 rfl ?_
  obtain ⟨hP, hD⟩ := PD.fr5 ⟨hP, hD⟩
  obtain ⟨hP, hD⟩ := PD.fr5 ⟨hP, hD⟩
  obtain ⟨hP, hD⟩ := PD.fr5 ⟨hP, hD⟩
  obtain ⟨hP, hD⟩ := PD.fr5 ⟨hP, hD⟩
  exact hk a (u9 IA 2 u_1.1.2) LA FA QA VA IB LB FB QB VB IC LC FC QC VC ID LD FD QD VD (u9 IR 0 u_2.1.2) LR FR QR VR r H locs ls (show INV _ _ _ _ _ _ _ _ _ _ _ _ _ _ _ from ⟨hWI, hWI_0, hWI_1, hWI_2, hrd, htr0, htr1, htr2, htr3, hrgk, hrgt, hdrc, hev, hmk, hM, hMK, hTI, hFS, htd, hlt, rgH, rgS, rgY, hdr, hit, hmmk, heq, htq, hrel, hbf, htb, hkw, hSK, hSK0, hSK1, hSK2, hNE, hNE0, hNE1, hNE2, hLE, hYE, hQE, hLE0, hLE1, hLE2, hYE0, hYE1, hYE2⟩) hRT hP hD hS (lv_sub hl [0, 1, 2, 3] rfl)
set_option maxHeartbeats 40000000 in
set_option maxRecDepth 100000 in
theorem law_c69 {p : Program} {e : Env} {s : State} {m : MethodId} {below : List Frame} {meth : Method} {c : Code} (l : Launch) {b L : Nat} {xs : Nat → Int32} {A : Nat → Prop} {D : va_G} {k : Nat → ClassId} {sa sv : Nat} {i : Int} (C : LFX p s m meth c b L xs A D k sa sv) (hi : 0 ≤ i ∧ i + 6 ≤ (L : Int)) (hk : LAT p l e s m below meth c b A D k 2846 i) : LAT p l e s m below meth c b A D k 2741 i := by
  obtain ⟨hx, hb, hr, hml, hown, hts, hKK, hX, hbl, hbA, hA, hAf, hlocks, hSY, hRR, hL⟩ := id C
  intro a IA LA FA QA VA IB LB FB QB VB IC LC FC QC VC ID LD FD QD VD IR LR FR QR VR r H locs ls hI hRT hP hD hS hl
  have hK := hKK.1
  obtain ⟨hP, hD⟩ : PD D A ((GA k a IA LA FA QA VA r) ++ ((GB k a IB LB FB QB VB r) ++ ((GC k a IC LC FC QC VC r) ++ ((GD k a ID LD FD QD VD r) ++ ((GR k a IR LR FR QR VR r) ++ (r.tl)))))) H := ⟨hP, hD⟩
  obtain ⟨hWI, hWI_0, hWI_1, hWI_2, hrd, htr0, htr1, htr2, htr3, hrgk, hrgt, hdrc, hev, hmk, hM, hMK, hTI, hFS, htd, hlt, rgH, rgS, rgY, hdr, hit, hmmk, heq, htq, hrel, hbf, htb, hkw, hSK, hSK0, hSK1, hSK2, hNE, hNE0, hNE1, hNE2, hLE, hYE, hQE, hLE0, hLE1, hLE2, hYE0, hYE1, hYE2⟩ := id hI
  obtain ⟨gw1, gw2, gw3, gw4, gw5, gw6, gw7, gw8, gw9, gw10, gw11⟩ := id hWI
  have hx0 := gw9
  have hYI := gw11
  have hpf : rgI (FR 3) (-128) 127 900 := fun e h1 h2 => by rw [← htb e h1 h2]; exact hbf e h1 h2
  obtain ⟨z1, hz1, hz1a, hz1b⟩ := i32_z (xs (iZ (i + 1)).toNatClampNeg)
  obtain ⟨z2, hz2, hz2a, hz2b⟩ := i32_z (xs (iZ (i + 2)).toNatClampNeg)
  obtain ⟨z3, hz3, hz3a, hz3b⟩ := i32_z (xs (iZ (i + 3)).toNatClampNeg)
  obtain ⟨z4, hz4, hz4a, hz4b⟩ := i32_z (xs (iZ (i + 4)).toNatClampNeg)
  obtain ⟨z5, hz5, hz5a, hz5b⟩ := i32_z (xs (iZ (i + 5)).toNatClampNeg)
  have hl : lv_has ls 4 [(3, .int (iZ i)), (2, .ref (a 106)), (1, .ref (a 0)), (0, .ref b)] := hl
  have hls := hQE.1
  replace hls : _ := hls
  obtain ⟨PG, hPG⟩ : ∃ PG : PR_, ((IA 9) = 0 ∧ gz (FR 0) (0 + 5) = -1) ∨ ((IA 9) = 1 ∧ okR (IA 3) PG ∧ nsP PG ∧ yRM (FR 0) 0 PG ∧ yCM (FA 6) (FA 7) (FA 8) (FA 9) (FA 10) (IA 11) PG) := by rcases hYE with ⟨p9, q9⟩ | ⟨p9, P9, q9⟩; exact ⟨(0, fun _ => 0, fun _ => 0, fun _ => 0, fun _ => 0, fun _ => 0), Or.inl ⟨p9, q9⟩⟩; exact ⟨P9, Or.inr ⟨p9, q9⟩⟩
  have hth9 : (IA 9) = 1 ↔ ¬ gz (FR 0) 5 = -1 := by rcases hPG with ⟨p1, p2⟩ | ⟨p1, p2, -, p3, -⟩; have p2 : gz (FR 0) 5 = -1 := p2; constructor <;> omega; have p4 : gz (FR 0) 5 = PG.1 := p3.1; have p5 := p2.1.1; constructor <;> omega
  refine lv_aload_n hx hb dL_law_2741 rfl (lv_at hl 2 rfl) ?_
  refine lv_aload_n hx hb dL_law_2742 rfl (lv_at hl 3 rfl) ?_
  refine lv_iload_n hx hb dL_law_2743 rfl (lv_at hl 0 rfl) ?_
  refine lv_iconst (v := iZ 1) hx hb dL_law_2744 rfl ?_
  refine lv_iadd hx hb dL_law_2745 ?_
  refine lv_topi (fun x_1 ex_1 => ?_)
  obtain rfl : x_1 = iZ (i + 1) := ex_1.trans (iZ_add i 1)
  refine va_sld hx hb hX hbl hbA hS (zi1 hi hL) dL_law_2746 ?_
  refine lv_topi (fun x_2 ex_2 => ?_)
  obtain rfl : x_2 = iZ z1 := ex_2.trans hz1
  obtain ⟨hP, hD⟩ := PD.mid4 ⟨hP, hD⟩
  refine CXM (mid := (GB k a IB LB FB QB VB r) ++ ((GC k a IC LC FC QC VC r) ++ ((GD k a ID LD FD QD VD r) ++ ((GR k a IR LR FR QR VR r))))) (c0 := 123) (s0 := 16705) (r := r) (As := [.int (iZ z1)]) (rest := []) hx hb hml hown hts hKK hP hD hS hA (x_live l D k (a 0) (a 1) (a 2) (a 3) (a 4) (a 5) (a 6) (a 7) (a 8) (a 9) (a 10) (a 11) (IA 0) (IA 1) (IA 2) (LA 0) (LA 1) ([.ref (a 26), .ref (a 27), .ref (a 28), .int (iZ (IA 3)), .int (iZ (IA 4)), .int (iZ (IA 5)), .int (iZ (IA 6))]) (a 23) (a 27) (a 28) (a 24) (a 25) (IA 3) (IA 4) (IA 5) (FA 0) (FA 1) (a 105) (a 29) (a 30) (a 31) (a 32) (a 101) (a 102) (a 103) (a 104) (a 33) (a 34) (a 35) (a 36) (a 37) (IA 12) (IA 13) (IA 14) (IA 15) (IA 16) (IA 17) (IA 18) (IA 9) (IA 10) (IA 11) (IA 7) (IA 8) (FA 11) (FA 12) (FA 13) (FA 2) (FA 3) (FA 4) (FA 5) (FA 15) (FA 14) (FA 6) (FA 7) (FA 8) (FA 9) (FA 10) (FA 16) PG z1 r hRT rfl rfl rfl rfl rfl (by first | with_reducible assumption | omega) hx0 (by first | with_reducible assumption | omega) (by first | with_reducible assumption | omega) (by first | with_reducible assumption | omega) (by first | with_reducible assumption | omega) hrgk hrgt (by first | with_reducible assumption | omega) (by first | with_reducible assumption | omega) gw10 (by first | with_reducible assumption | omega) hYI (by first | with_reducible assumption | omega) (by first | with_reducible assumption | omega) hLE.2 (fun h9 => by rcases hPG with ⟨p9, -⟩ | ⟨-, p1, p2, p3, p4⟩; omega; exact ⟨p4, p1, p2⟩) hls ⟨hz1a, hz1b⟩) ci_X11_live qm_L_303 ⟨Nat.le_of_ble_eq_true rfl, Nat.le_of_ble_eq_true rfl⟩ ⟨Nat.le_of_ble_eq_true rfl, Nat.le_of_ble_eq_true rfl⟩ [0, 23, 1, 3, 8, 9, 10, 11, 17, 18, 19, 20, 21, 22, 24, 2, 6, 7, 4, 12, 13, 14, 15, 16, 25] [5] rfl rfl rfl (by decide +kernel) (by decide +kernel) (by decide +kernel) 0 rfl rfl rfl hl.1 rfl (Nat.le_of_ble_eq_true rfl) dL_law_2747 (fun u_3 H locs hφ hP hD hS => ?_)
  obtain ⟨r_4, v_5⟩ := u_3
  obtain ⟨p_6, p_7, p_8, p_9, p_10, p_11, p_12, p_13, p_14, p_15, rtr_4⟩ : (0 ≤ v_5.1.2.2.2.1 ∧ v_5.1.2.2.2.1 ≤ 400) ∧ (0 ≤ v_5.1.2.2.2.2.1 ∧ v_5.1.2.2.2.2.1 ≤ 20) ∧ (0 ≤ v_5.1.2.2.2.2.2.1 ∧ v_5.1.2.2.2.2.2.1 ≤ 65535) ∧ (rgI v_5.2.2.1.2.1 (-1) 420 6) ∧ (rgI v_5.2.2.1.2.2.1 (-1) 5 6) ∧ (rgI v_5.2.2.1.2.2.2.2.2.1 0 ((IA 3) - 1) v_5.1.2.2.2.2.1) ∧ (KNC (FA 0) (FA 1) (IA 3) (IA 4) v_5.1.2.2.2.2.1 v_5.2.2.1.2.2.2.2.2.1 v_5.2.2.1.2.2.2.2.2.2.1 v_5.2.2.1.2.2.2.2.2.2.2.1) ∧ (v_5.1.2.2.1 = 0 ∨ v_5.1.2.2.1 = 1) ∧ (∀ o : Int, 0 ≤ o → o < 60 → 0 ≤ gz v_5.2.2.1.2.2.2.2.2.2.2.2.1 o ∧ gz v_5.2.2.1.2.2.2.2.2.2.2.2.1 o ≤ 99) ∧ ((((0 ≤ z1 ∧ z1 ≤ 9999) ∧ (IA 9) = 1) ∧ v_5.1.1 = v_5.1.2.2.2.2.2.2.1 ∧ v_5.1.2.2.1 = 1 ∧ (gz v_5.2.2.1.1 0 = (iZ v_5.1.2.2.2.2.2.2.2.1).toInt ∧ gz v_5.2.2.1.1 1 = (iZ v_5.1.2.2.2.2.2.2.2.2.1).toInt ∧ gz v_5.2.2.1.1 2 = (iZ v_5.1.2.2.2.2.2.2.2.2.2.1).toInt ∧ gz v_5.2.2.1.1 3 = (iZ v_5.1.2.2.2.2.2.2.2.2.2.2.1).toInt ∧ gz v_5.2.2.1.1 4 = (iZ v_5.1.2.2.2.2.2.2.2.2.2.2.2).toInt) ∧ ∃ r9 : Int, isRn_ (yS (eC (FA 0) (FA 1) (IA 3) (IA 4) (IA 5)) PG) (0, (cL (IA 7) (IA 8) (FA 2) (FA 3) (FA 4)), cQ (FA 15), z1, 0, 0, 0, 0, 0, 0) (r9, (cL v_5.1.2.2.2.1 v_5.1.2.2.2.2.1 v_5.2.2.1.2.2.2.2.1 v_5.2.2.1.2.2.2.2.2.1 v_5.2.2.1.2.2.2.2.2.2.1), cQ v_5.2.2.1.2.2.2.2.2.2.2.2.1, v_5.1.2.2.2.2.2.1, v_5.1.2.2.2.2.2.2.1, v_5.1.2.2.2.2.2.2.2.1, v_5.1.2.2.2.2.2.2.2.2.1, v_5.1.2.2.2.2.2.2.2.2.2.1, v_5.1.2.2.2.2.2.2.2.2.2.2.1, v_5.1.2.2.2.2.2.2.2.2.2.2.2)) ∨ (¬ ((0 ≤ z1 ∧ z1 ≤ 9999) ∧ (IA 9) = 1) ∧ (v_5.1.1 : Int) = -1 ∧ v_5.1.2.2.1 = (IA 0) ∧ v_5.2.2.1.1 = (FA 16) ∧ (cL v_5.1.2.2.2.1 v_5.1.2.2.2.2.1 v_5.2.2.1.2.2.2.2.1 v_5.2.2.1.2.2.2.2.2.1 v_5.2.2.1.2.2.2.2.2.2.1) = (cL (IA 7) (IA 8) (FA 2) (FA 3) (FA 4)) ∧ v_5.2.2.1.2.2.2.2.2.2.2.2.1 = (FA 15))) ∧ ((RT k) (RX (FA 0) (FA 1) (IA 3) (IA 4)) r_4) := hφ
  obtain ⟨hP, hD⟩ := PD.dim4 ⟨hP, hD⟩
  obtain ⟨hP, hD⟩ := PD.by3 (is := [1, 3, 16, 4, 19, 0, 17, 18, 5, 6, 7, 8, 20, 21, 22, 23, 24, 9, 10, 11, 12, 13, 14, 2, 15, 25]) (y := (GA k a (fun i => [v_5.1.2.2.1, (IA 1), v_5.1.2.1, (IA 3), (IA 4), (IA 5), (IA 6), v_5.1.2.2.2.1, v_5.1.2.2.2.2.1, (IA 9), (IA 10), (IA 11), v_5.1.2.2.2.2.2.1, v_5.1.2.2.2.2.2.2.1, v_5.1.2.2.2.2.2.2.2.1, v_5.1.2.2.2.2.2.2.2.2.1, v_5.1.2.2.2.2.2.2.2.2.2.1, v_5.1.2.2.2.2.2.2.2.2.2.2.1, v_5.1.2.2.2.2.2.2.2.2.2.2.2].getD i 0) LA (fun i => [(FA 0), (FA 1), v_5.2.2.1.2.2.2.2.1, v_5.2.2.1.2.2.2.2.2.1, v_5.2.2.1.2.2.2.2.2.2.1, v_5.2.2.1.2.2.2.2.2.2.2.1, (FA 6), (FA 7), (FA 8), (FA 9), (FA 10), v_5.2.2.1.2.1, v_5.2.2.1.2.2.1, v_5.2.2.1.2.2.2.1, v_5.2.2.1.2.2.2.2.2.2.2.2.2, v_5.2.2.1.2.2.2.2.2.2.2.2.1, v_5.2.2.1.1].getD i (fun _ => 0)) QA VA r_4)) ⟨hP, hD⟩ (by decide +kernel) rfl rfl
  refine W.ceq (cells' := 123 + cz true r_4.b) (slots' := 16705 + sz true r_4.b) rfl rfl ?_
  refine W.eq (g2 := F0 m 2750 ls [.int (iZ v_5.1.1)]) rfl ?_
  refine lv_pop hx hb dL_law_2750 rfl ?_
  refine lv_aload_n hx hb dL_law_2751 rfl (lv_at hl 1 rfl) ?_
  refine lv_aload_n hx hb dL_law_2752 rfl (lv_at hl 3 rfl) ?_
  refine lv_iload_n hx hb dL_law_2753 rfl (lv_at hl 0 rfl) ?_
  refine lv_iconst (v := iZ 1) hx hb dL_law_2754 rfl ?_
  refine lv_iadd hx hb dL_law_2755 ?_
  refine lv_topi (fun x_16 ex_16 => ?_)
  obtain rfl : x_16 = iZ (i + 1) := ex_16.trans (iZ_add i 1)
  refine va_sld hx hb hX hbl hbA hS (zi1 hi hL) dL_law_2756 ?_
  refine lv_topi (fun x_17 ex_17 => ?_)
  obtain rfl : x_17 = iZ z1 := ex_17.trans hz1
  obtain ⟨hP, hD⟩ := PD.fr5 ⟨hP, hD⟩
  refine CKV2 (As := [.int (iZ z1)]) (rest := []) (tl := (GA k a (fun i => [v_5.1.2.2.1, (IA 1), v_5.1.2.1, (IA 3), (IA 4), (IA 5), (IA 6), v_5.1.2.2.2.1, v_5.1.2.2.2.2.1, (IA 9), (IA 10), (IA 11), v_5.1.2.2.2.2.2.1, v_5.1.2.2.2.2.2.2.1, v_5.1.2.2.2.2.2.2.2.1, v_5.1.2.2.2.2.2.2.2.2.1, v_5.1.2.2.2.2.2.2.2.2.2.1, v_5.1.2.2.2.2.2.2.2.2.2.2.1, v_5.1.2.2.2.2.2.2.2.2.2.2.2].getD i 0) LA (fun i => [(FA 0), (FA 1), v_5.2.2.1.2.2.2.2.1, v_5.2.2.1.2.2.2.2.2.1, v_5.2.2.1.2.2.2.2.2.2.1, v_5.2.2.1.2.2.2.2.2.2.2.1, (FA 6), (FA 7), (FA 8), (FA 9), (FA 10), v_5.2.2.1.2.1, v_5.2.2.1.2.2.1, v_5.2.2.1.2.2.2.1, v_5.2.2.1.2.2.2.2.2.2.2.2.2, v_5.2.2.1.2.2.2.2.2.2.2.2.1, v_5.2.2.1.1].getD i (fun _ => 0)) QA VA r_4) ++ ((GB k a IB LB FB QB VB r) ++ ((GC k a IC LC FC QC VC r) ++ ((GD k a ID LD FD QD VD r) ++ (r_4.tl))))) hx hb hml hown hts hKK hP hD hS hA (r_live l D k (a 106) (a 107) (a 108) (a 109) (a 110) (a 111) (a 112) (a 113) (a 114) (a 115) (a 116) (a 117) (a 118) (a 119) (a 120) (a 121) (a 122) (IR 0) (IR 1) (IR 2) (IR 3) (IR 4) (IR 5) (IR 6) (IR 7) (IR 8) (IR 9) (IR 10) (IR 11) (IR 12) (IR 13) (IR 14) (IR 15) (IR 16) (IR 17) (LR 0) (LR 1) (FR 0) (FR 6) (FR 7) (FR 8) (FR 9) (FR 11) (FR 12) (FR 13) PG z1 hM rgH (by first | with_reducible assumption | omega) (by first | with_reducible assumption | omega) (by rcases hPG with ⟨-, p1⟩ | ⟨-, p1, -, p3, -⟩; exact Or.inl p1; exact Or.inr ⟨p3, by rw [(SKE.z hSK).1]; exact p1⟩) hQE.2.1 ⟨hz1a, hz1b⟩) ci_X12_live qm_L_306 ⟨Nat.le_of_ble_eq_true rfl, Nat.le_of_ble_eq_true rfl⟩ (lroom _) [0, 1, 9, 10, 11, 12, 14, 15, 16] [2, 3, 4, 5, 6, 7, 8, 13] rfl rfl rfl (by decide +kernel) (by decide +kernel) (by decide +kernel) 0 rfl rfl rfl hl.1 rfl (Nat.le_of_ble_eq_true rfl) dL_law_2757 (fun u_18 H locs hφ hP hD hS => ?_)
  obtain ⟨p_19, p_20, p_21, p_22, p_23, p_24, p_25⟩ : (M0 u_18.2.2.1.2.1) ∧ (CSlowWorldsLaw_law_r4331_294b62.FR u_18.2.2.1.2.1 (FR 0)) ∧ (0 ≤ u_18.1.2.2.2.1 ∧ u_18.1.2.2.2.1 ≤ 65535) ∧ (rgI u_18.2.2.1.2.2.2.2.2.1 0 1000000 120) ∧ (u_18.1.2.2.1 = 0 ∨ u_18.1.2.2.1 = 1) ∧ (okZ u_18.2.2.1.2.2.2.2.2.2.1) ∧ ((((0 ≤ z1 ∧ z1 ≤ 9999) ∧ ¬ gz (FR 0) 5 = -1) ∧ u_18.1.1 = u_18.1.2.2.2.2 ∧ u_18.1.2.2.1 = 1 ∧ (∀ j : Int, 0 ≤ j → j < 5 → gz u_18.2.2.1.1 j = gz u_18.2.2.1.2.2.2.2.2.2.2 j) ∧ (∀ j : Int, 0 ≤ j → j < 5 → 0 ≤ gz u_18.2.2.1.2.2.2.2.2.2.2 j ∧ gz u_18.2.2.1.2.2.2.2.2.2.2 j ≤ 30000) ∧ ∃ r9 : Int, isRn_ (yS (eR (FR 0)) PG) (0, rL (FR 0), rQ (FR 11), z1, 0, 0, 0, 0, 0, 0) (r9, rL u_18.2.2.1.2.1, rQ u_18.2.2.1.2.2.2.2.2.2.1, u_18.1.2.2.2.1, u_18.1.2.2.2.2, gz u_18.2.2.1.2.2.2.2.2.2.2 0, gz u_18.2.2.1.2.2.2.2.2.2.2 1, gz u_18.2.2.1.2.2.2.2.2.2.2 2, gz u_18.2.2.1.2.2.2.2.2.2.2 3, gz u_18.2.2.1.2.2.2.2.2.2.2 4)) ∨ (¬ ((0 ≤ z1 ∧ z1 ≤ 9999) ∧ ¬ gz (FR 0) 5 = -1) ∧ (u_18.1.1 : Int) = -1 ∧ u_18.1.2.2.1 = (IR 16) ∧ u_18.2.2.1.1 = (FR 13) ∧ u_18.2.2.1.2.1 = (FR 0) ∧ u_18.2.2.1.2.2.2.2.2.2.1 = (FR 11))) := hφ
  obtain ⟨hP, hD⟩ := PD.by3 (is := [8, 9, 0, 1, 2, 3, 4, 5, 6, 10, 11, 12, 13, 7, 14, 15, 16]) (y := (GR k a (u9 (u9 (u9 (u9 IR 0 u_18.1.2.1) 14 u_18.1.2.2.2.1) 15 u_18.1.2.2.2.2) 16 u_18.1.2.2.1) LR (fun i => [u_18.2.2.1.2.1, (FR 1), (FR 2), (FR 3), (FR 4), (FR 5), u_18.2.2.1.2.2.1, u_18.2.2.1.2.2.2.1, u_18.2.2.1.2.2.2.2.1, u_18.2.2.1.2.2.2.2.2.1, (FR 10), u_18.2.2.1.2.2.2.2.2.2.1, u_18.2.2.1.2.2.2.2.2.2.2, u_18.2.2.1.1].getD i (fun _ => 0)) QR VR r_4)) ⟨hP, hD⟩ (by decide +kernel) rfl rfl
  refine W.eq (g2 := F0 m 2760 ls [.int (iZ u_18.1.1)]) rfl ?_
  refine lv_pop hx hb dL_law_2760 rfl ?_
  refine lv_goto (tgt := 2846) hx hb dL_law_2761 rfl ?_
  obtain ⟨hP, hD⟩ := PD.fr5 ⟨hP, hD⟩
  obtain ⟨hP, hD⟩ := PD.fr5 ⟨hP, hD⟩
  obtain ⟨hP, hD⟩ := PD.fr5 ⟨hP, hD⟩
  obtain ⟨hP, hD⟩ := PD.fr5 ⟨hP, hD⟩
  exact hk a (fun i => [v_5.1.2.2.1, (IA 1), v_5.1.2.1, (IA 3), (IA 4), (IA 5), (IA 6), v_5.1.2.2.2.1, v_5.1.2.2.2.2.1, (IA 9), (IA 10), (IA 11), v_5.1.2.2.2.2.2.1, v_5.1.2.2.2.2.2.2.1, v_5.1.2.2.2.2.2.2.2.1, v_5.1.2.2.2.2.2.2.2.2.1, v_5.1.2.2.2.2.2.2.2.2.2.1, v_5.1.2.2.2.2.2.2.2.2.2.2.1, v_5.1.2.2.2.2.2.2.2.2.2.2.2].getD i 0) LA (fun i => [(FA 0), (FA 1), v_5.2.2.1.2.2.2.2.1, v_5.2.2.1.2.2.2.2.2.1, v_5.2.2.1.2.2.2.2.2.2.1, v_5.2.2.1.2.2.2.2.2.2.2.1, (FA 6), (FA 7), (FA 8), (FA 9), (FA 10), v_5.2.2.1.2.1, v_5.2.2.1.2.2.1, v_5.2.2.1.2.2.2.1, v_5.2.2.1.2.2.2.2.2.2.2.2.2, v_5.2.2.1.2.2.2.2.2.2.2.2.1, v_5.2.2.1.1].getD i (fun _ => 0)) QA VA IB LB FB QB VB IC LC FC QC VC ID LD FD QD VD (u9 (u9 (u9 (u9 IR 0 u_18.1.2.1) 14 u_18.1.2.2.2.1) 15 u_18.1.2.2.2.2) 16 u_18.1.2.2.1) LR (fun i => [u_18.2.2.1.2.1, (FR 1), (FR 2), (FR 3), (FR 4), (FR 5), u_18.2.2.1.2.2.1, u_18.2.2.1.2.2.2.1, u_18.2.2.1.2.2.2.2.1, u_18.2.2.1.2.2.2.2.2.1, (FR 10), u_18.2.2.1.2.2.2.2.2.2.1, u_18.2.2.1.2.2.2.2.2.2.2, u_18.2.2.1.1].getD i (fun _ => 0)) QR VR r_4 H locs ls (show INV _ _ _ _ _ _ _ _ _ _ _ _ _ _ _ from ⟨(show WI (IA 3) (IA 4) (IA 5) v_5.1.2.2.2.1 v_5.1.2.2.2.2.1 (IA 9) (IA 10) (IA 11) (FA 0) v_5.2.2.1.2.2.2.2.2.1 (FA 6) (FA 7) (FA 9) (FA 10) from (by first | with_reducible assumption | exact ⟨by omega, by omega, by omega, by omega, by omega, by omega, by omega, by omega, by first | exact gw9 | assumption, by first | exact gw10 | assumption, by first | exact gw11 | assumption⟩)), hWI_0, hWI_1, hWI_2, hrd, htr0, htr1, htr2, htr3, (show rgI v_5.2.2.1.2.1 (-1) 420 6 from (by assumption)), (show rgI v_5.2.2.1.2.2.1 (-1) 5 6 from (by assumption)), (show 0 ≤ v_5.1.2.2.2.2.2.1 ∧ v_5.1.2.2.2.2.2.1 ≤ 65535 from (by first | with_reducible assumption | omega)), (show v_5.1.2.2.1 = 0 ∨ v_5.1.2.2.1 = 1 from (by first | with_reducible assumption | omega)), hmk, (show M0 u_18.2.2.1.2.1 from (by assumption)), (show MK u_18.2.2.1.2.1 (IR 17) from MK.keep (by omega) hMK (fun e h1 h2 => p_20.1 e (Or.inl (by omega)))), hTI, hFS, htd, hlt, (show rgI u_18.2.2.1.2.2.2.2.2.1 0 1000000 120 from (by assumption)), rgS, rgY, (show 0 ≤ u_18.1.2.2.2.1 ∧ u_18.1.2.2.2.1 ≤ 65535 from (by first | with_reducible assumption | omega)), (show u_18.1.2.2.1 = 0 ∨ u_18.1.2.2.1 = 1 from (by first | with_reducible assumption | omega)), hmmk, heq, htq, hrel, hbf, htb, hkw, (show SKE (IA 3) (IA 4) (IA 5) (FA 0) (FA 1) u_18.2.2.1.2.1 0 from SKE.fr hSK p_20 gw2.2), (show SKI 0 (IA 1) (ID 0) (ID 1) (ID 2) (FD 0) (FD 1) u_18.2.2.1.2.1 890 from fun h => SKE.keep (hSK0 h) (fun e p q => p_20.1 e (Or.inl (by omega))) hWI_0.2.1.2), (show SKI 1 (IA 1) (ID 9) (ID 10) (ID 11) (FD 11) (FD 12) u_18.2.2.1.2.1 1780 from fun h => SKE.keep (hSK1 h) (fun e p q => p_20.1 e (Or.inl (by omega))) hWI_1.2.1.2), (show SKI 2 (IA 1) (ID 18) (ID 19) (ID 20) (FD 22) (FD 23) u_18.2.2.1.2.1 2670 from fun h => SKE.keep (hSK2 h) (fun e p q => p_20.1 e (Or.inl (by omega))) hWI_2.2.1.2), hNE, hNE0, hNE1, hNE2, (show LFE (IA 3) (IA 4) v_5.1.2.2.2.1 v_5.1.2.2.2.2.1 (FA 0) (FA 1) v_5.2.2.1.2.2.2.2.1 v_5.2.2.1.2.2.2.2.2.1 v_5.2.2.1.2.2.2.2.2.2.1 v_5.2.2.1.2.2.2.2.2.2.2.1 u_18.2.2.1.2.1 0 from ⟨(live_two hLE.1 hQE.2.2 (eR_ske hSK gw1.2) hth9 p_15 p_25).1.1, p_12⟩), (show YFE (IA 3) (IA 9) (IA 11) (FA 6) (FA 7) (FA 8) (FA 9) (FA 10) u_18.2.2.1.2.1 0 from (YFE.fr hYE p_20)), (show (∀ o9 : Int, 0 ≤ o9 → o9 < 60 → 0 ≤ gz v_5.2.2.1.2.2.2.2.2.2.2.2.1 o9 ∧ gz v_5.2.2.1.2.2.2.2.2.2.2.2.1 o9 ≤ 99) ∧ okZ u_18.2.2.1.2.2.2.2.2.2.1 ∧ cQ v_5.2.2.1.2.2.2.2.2.2.2.2.1 = rQ u_18.2.2.1.2.2.2.2.2.2.1 from ⟨p_14, p_24, (live_two hLE.1 hQE.2.2 (eR_ske hSK gw1.2) hth9 p_15 p_25).1.2.1⟩), (show LFI 0 (IA 1) (ID 0) (ID 1) (ID 4) (ID 5) (FD 0) (FD 1) (FD 2) (FD 3) (FD 4) (FD 5) u_18.2.2.1.2.1 890 from (fun h => (hLE0 h).keep (by omega) hWI_0.2.2.2.1 hWI_0.2.2.2.2.1 (fun e p r => p_20.1 _ (Or.inl (by omega))))), (show LFI 1 (IA 1) (ID 9) (ID 10) (ID 13) (ID 14) (FD 11) (FD 12) (FD 13) (FD 14) (FD 15) (FD 16) u_18.2.2.1.2.1 1780 from (fun h => (hLE1 h).keep (by omega) hWI_1.2.2.2.1 hWI_1.2.2.2.2.1 (fun e p r => p_20.1 _ (Or.inl (by omega))))), (show LFI 2 (IA 1) (ID 18) (ID 19) (ID 22) (ID 23) (FD 22) (FD 23) (FD 24) (FD 25) (FD 26) (FD 27) u_18.2.2.1.2.1 2670 from (fun h => (hLE2 h).keep (by omega) hWI_2.2.2.2.1 hWI_2.2.2.2.2.1 (fun e p r => p_20.1 _ (Or.inl (by omega))))), (show YFI 0 (IA 1) (ID 0) (ID 6) (ID 8) (FD 6) (FD 7) (FD 8) (FD 9) (FD 10) u_18.2.2.1.2.1 890 from (fun h => (hYE0 h).keep (fun e p r => p_20.1 _ (Or.inl (by omega))))), (show YFI 1 (IA 1) (ID 9) (ID 15) (ID 17) (FD 17) (FD 18) (FD 19) (FD 20) (FD 21) u_18.2.2.1.2.1 1780 from (fun h => (hYE1 h).keep (fun e p r => p_20.1 _ (Or.inl (by omega))))), (show YFI 2 (IA 1) (ID 18) (ID 24) (ID 26) (FD 28) (FD 29) (FD 30) (FD 31) (FD 32) u_18.2.2.1.2.1 2670 from (fun h => (hYE2 h).keep (fun e p r => p_20.1 _ (Or.inl (by omega)))))⟩) rtr_4 hP hD hS (lv_sub hl [0, 1, 2, 3] rfl)
set_option maxHeartbeats 40000000 in
set_option maxRecDepth 100000 in
theorem law_c70 {p : Program} {e : Env} {s : State} {m : MethodId} {below : List Frame} {meth : Method} {c : Code} (l : Launch) {b L : Nat} {xs : Nat → Int32} {A : Nat → Prop} {D : va_G} {k : Nat → ClassId} {sa sv : Nat} {i : Int} (C : LFX p s m meth c b L xs A D k sa sv) (hi : 0 ≤ i ∧ i + 6 ≤ (L : Int)) (hk : LAT p l e s m below meth c b A D k 2846 i) : LAT p l e s m below meth c b A D k 2764 i := by
  obtain ⟨hx, hb, hr, hml, hown, hts, hKK, hX, hbl, hbA, hA, hAf, hlocks, hSY, hRR, hL⟩ := id C
  intro a IA LA FA QA VA IB LB FB QB VB IC LC FC QC VC ID LD FD QD VD IR LR FR QR VR r H locs ls hI hRT hP hD hS hl
  have hK := hKK.1
  obtain ⟨hP, hD⟩ : PD D A ((GA k a IA LA FA QA VA r) ++ ((GB k a IB LB FB QB VB r) ++ ((GC k a IC LC FC QC VC r) ++ ((GD k a ID LD FD QD VD r) ++ ((GR k a IR LR FR QR VR r) ++ (r.tl)))))) H := ⟨hP, hD⟩
  obtain ⟨hWI, hWI_0, hWI_1, hWI_2, hrd, htr0, htr1, htr2, htr3, hrgk, hrgt, hdrc, hev, hmk, hM, hMK, hTI, hFS, htd, hlt, rgH, rgS, rgY, hdr, hit, hmmk, heq, htq, hrel, hbf, htb, hkw, hSK, hSK0, hSK1, hSK2, hNE, hNE0, hNE1, hNE2, hLE, hYE, hQE, hLE0, hLE1, hLE2, hYE0, hYE1, hYE2⟩ := id hI
  obtain ⟨gw1, gw2, gw3, gw4, gw5, gw6, gw7, gw8, gw9, gw10, gw11⟩ := id hWI
  have hx0 := gw9
  have hYI := gw11
  have hpf : rgI (FR 3) (-128) 127 900 := fun e h1 h2 => by rw [← htb e h1 h2]; exact hbf e h1 h2
  obtain ⟨z1, hz1, hz1a, hz1b⟩ := i32_z (xs (iZ (i + 1)).toNatClampNeg)
  obtain ⟨z2, hz2, hz2a, hz2b⟩ := i32_z (xs (iZ (i + 2)).toNatClampNeg)
  obtain ⟨z3, hz3, hz3a, hz3b⟩ := i32_z (xs (iZ (i + 3)).toNatClampNeg)
  obtain ⟨z4, hz4, hz4a, hz4b⟩ := i32_z (xs (iZ (i + 4)).toNatClampNeg)
  obtain ⟨z5, hz5, hz5a, hz5b⟩ := i32_z (xs (iZ (i + 5)).toNatClampNeg)
  have hl : lv_has ls 4 [(3, .int (iZ i)), (2, .ref (a 106)), (1, .ref (a 0)), (0, .ref b)] := hl
  have hls := hQE.1
  replace hls : _ := hls
  refine lv_aload_n hx hb dL_law_2764 rfl (lv_at hl 2 rfl) ?_
  refine lv_aload_n hx hb dL_law_2765 rfl (lv_at hl 3 rfl) ?_
  refine lv_iload_n hx hb dL_law_2766 rfl (lv_at hl 0 rfl) ?_
  refine lv_iconst (v := iZ 1) hx hb dL_law_2767 rfl ?_
  refine lv_iadd hx hb dL_law_2768 ?_
  refine lv_topi (fun x_1 ex_1 => ?_)
  obtain rfl : x_1 = iZ (i + 1) := ex_1.trans (iZ_add i 1)
  refine va_sld hx hb hX hbl hbA hS (zi1 hi hL) dL_law_2769 ?_
  refine lv_topi (fun x_2 ex_2 => ?_)
  obtain rfl : x_2 = iZ z1 := ex_2.trans hz1
  refine CKV2 (As := [.int (iZ z1)]) (rest := []) (tl := (GB k a IB LB FB QB VB r) ++ ((GC k a IC LC FC QC VC r) ++ ((GD k a ID LD FD QD VD r) ++ ((GR k a IR LR FR QR VR r) ++ (r.tl))))) hx hb hml hown hts hKK hP hD hS hA (p_lived l D k (a 0) (a 1) (a 2) (a 3) (a 4) (a 5) (a 6) (a 7) (a 8) (a 9) (a 10) (a 11) (IA 0) (IA 1) (IA 2) (LA 0) (LA 1) (FA 16) z1 (by first | with_reducible assumption | omega) ⟨hz1a, hz1b⟩) ci_X11_lived qm_L_307 ⟨Nat.le_of_ble_eq_true rfl, Nat.le_of_ble_eq_true rfl⟩ (lroom _) [0, 25] [1, 2, 3, 4, 5, 6, 7, 8, 9, 10, 11, 12, 13, 14, 15, 16, 17, 18, 19, 20, 21, 22, 23, 24] rfl rfl rfl (by decide +kernel) (by decide +kernel) (by decide +kernel) 0 rfl rfl rfl hl.1 rfl (Nat.le_of_ble_eq_true rfl) dL_law_2770 (fun u_3 H locs hφ hP hD hS => ?_)
  obtain ⟨hP, hD⟩ := PD.by3 (is := [24, 0, 1, 2, 3, 4, 5, 6, 7, 8, 9, 10, 11, 12, 13, 14, 15, 16, 17, 18, 19, 20, 21, 22, 23, 25]) (y := (GA k a (u9 IA 2 u_3.1.2) LA FA QA VA r)) ⟨hP, hD⟩ (by decide +kernel) rfl rfl
  refine W.eq (g2 := F0 m 2773 ls [.int (iZ u_3.1.1)]) rfl ?_
  refine lv_pop hx hb dL_law_2773 rfl ?_
  refine lv_aload_n hx hb dL_law_2774 rfl (lv_at hl 1 rfl) ?_
  refine lv_aload_n hx hb dL_law_2775 rfl (lv_at hl 3 rfl) ?_
  refine lv_iload_n hx hb dL_law_2776 rfl (lv_at hl 0 rfl) ?_
  refine lv_iconst (v := iZ 1) hx hb dL_law_2777 rfl ?_
  refine lv_iadd hx hb dL_law_2778 ?_
  refine lv_topi (fun x_4 ex_4 => ?_)
  obtain rfl : x_4 = iZ (i + 1) := ex_4.trans (iZ_add i 1)
  refine va_sld hx hb hX hbl hbA hS (zi1 hi hL) dL_law_2779 ?_
  refine lv_topi (fun x_5 ex_5 => ?_)
  obtain rfl : x_5 = iZ z1 := ex_5.trans hz1
  obtain ⟨hP, hD⟩ := PD.fr5 ⟨hP, hD⟩
  refine CKV2 (As := [.int (iZ z1)]) (rest := []) (tl := (GA k a (u9 IA 2 u_3.1.2) LA FA QA VA r) ++ ((GB k a IB LB FB QB VB r) ++ ((GC k a IC LC FC QC VC r) ++ ((GD k a ID LD FD QD VD r) ++ (r.tl))))) hx hb hml hown hts hKK hP hD hS hA (q_lived l D k (a 106) (a 107) (a 108) (a 109) (a 110) (a 111) (a 112) (a 113) (a 114) (a 115) (a 116) (a 117) (a 118) (a 119) (a 120) (a 121) (a 122) (IR 0) (IR 1) (IR 2) (IR 3) (IR 4) (IR 5) (IR 6) (IR 7) (IR 8) (IR 9) (IR 10) (IR 11) (IR 12) (IR 13) (IR 14) (IR 15) (IR 16) (IR 17) (LR 0) (LR 1) (FR 0) (FR 13) z1 hM (by first | with_reducible assumption | omega) ⟨hz1a, hz1b⟩) ci_X12_lived qm_L_310 ⟨Nat.le_of_ble_eq_true rfl, Nat.le_of_ble_eq_true rfl⟩ (lroom _) [0, 1, 16] [2, 3, 4, 5, 6, 7, 8, 9, 10, 11, 12, 13, 14, 15] rfl rfl rfl (by decide +kernel) (by decide +kernel) (by decide +kernel) 0 rfl rfl rfl hl.1 rfl (Nat.le_of_ble_eq_true rfl) dL_law_2780 (fun u_6 H locs hφ hP hD hS => ?_)
  obtain ⟨hP, hD⟩ := PD.by3 (is := [14, 15, 0, 1, 2, 3, 4, 5, 6, 7, 8, 9, 10, 11, 12, 13, 16]) (y := (GR k a (u9 IR 0 u_6.1.2) LR FR QR VR r)) ⟨hP, hD⟩ (by decide +kernel) rfl rfl
  refine W.eq (g2 := F0 m 2783 ls [.int (iZ u_6.1.1)]) rfl ?_
  refine lv_pop hx hb dL_law_2783 rfl ?_
  refine lv_goto (tgt := 2846) hx hb dL_law_2784 rfl ?_
  obtain ⟨hP, hD⟩ := PD.fr5 ⟨hP, hD⟩
  obtain ⟨hP, hD⟩ := PD.fr5 ⟨hP, hD⟩
  obtain ⟨hP, hD⟩ := PD.fr5 ⟨hP, hD⟩
  obtain ⟨hP, hD⟩ := PD.fr5 ⟨hP, hD⟩
  exact hk a (u9 IA 2 u_3.1.2) LA FA QA VA IB LB FB QB VB IC LC FC QC VC ID LD FD QD VD (u9 IR 0 u_6.1.2) LR FR QR VR r H locs ls (show INV _ _ _ _ _ _ _ _ _ _ _ _ _ _ _ from ⟨hWI, hWI_0, hWI_1, hWI_2, hrd, htr0, htr1, htr2, htr3, hrgk, hrgt, hdrc, hev, hmk, hM, hMK, hTI, hFS, htd, hlt, rgH, rgS, rgY, hdr, hit, hmmk, heq, htq, hrel, hbf, htb, hkw, hSK, hSK0, hSK1, hSK2, hNE, hNE0, hNE1, hNE2, hLE, hYE, hQE, hLE0, hLE1, hLE2, hYE0, hYE1, hYE2⟩) hRT hP hD hS (lv_sub hl [0, 1, 2, 3] rfl)
set_option maxHeartbeats 40000000 in
set_option maxRecDepth 100000 in
theorem law_c71 {p : Program} {e : Env} {s : State} {m : MethodId} {below : List Frame} {meth : Method} {c : Code} (l : Launch) {b L : Nat} {xs : Nat → Int32} {A : Nat → Prop} {D : va_G} {k : Nat → ClassId} {sa sv : Nat} {i : Int} (C : LFX p s m meth c b L xs A D k sa sv) (hi : 0 ≤ i ∧ i + 6 ≤ (L : Int)) (hk : LAT p l e s m below meth c b A D k 2846 i) : LAT p l e s m below meth c b A D k 2787 i := by
  obtain ⟨hx, hb, hr, hml, hown, hts, hKK, hX, hbl, hbA, hA, hAf, hlocks, hSY, hRR, hL⟩ := id C
  intro a IA LA FA QA VA IB LB FB QB VB IC LC FC QC VC ID LD FD QD VD IR LR FR QR VR r H locs ls hI hRT hP hD hS hl
  have hK := hKK.1
  obtain ⟨hP, hD⟩ : PD D A ((GA k a IA LA FA QA VA r) ++ ((GB k a IB LB FB QB VB r) ++ ((GC k a IC LC FC QC VC r) ++ ((GD k a ID LD FD QD VD r) ++ ((GR k a IR LR FR QR VR r) ++ (r.tl)))))) H := ⟨hP, hD⟩
  obtain ⟨hWI, hWI_0, hWI_1, hWI_2, hrd, htr0, htr1, htr2, htr3, hrgk, hrgt, hdrc, hev, hmk, hM, hMK, hTI, hFS, htd, hlt, rgH, rgS, rgY, hdr, hit, hmmk, heq, htq, hrel, hbf, htb, hkw, hSK, hSK0, hSK1, hSK2, hNE, hNE0, hNE1, hNE2, hLE, hYE, hQE, hLE0, hLE1, hLE2, hYE0, hYE1, hYE2⟩ := id hI
  obtain ⟨gw1, gw2, gw3, gw4, gw5, gw6, gw7, gw8, gw9, gw10, gw11⟩ := id hWI
  have hx0 := gw9
  have hYI := gw11
  have hpf : rgI (FR 3) (-128) 127 900 := fun e h1 h2 => by rw [← htb e h1 h2]; exact hbf e h1 h2
  obtain ⟨z1, hz1, hz1a, hz1b⟩ := i32_z (xs (iZ (i + 1)).toNatClampNeg)
  obtain ⟨z2, hz2, hz2a, hz2b⟩ := i32_z (xs (iZ (i + 2)).toNatClampNeg)
  obtain ⟨z3, hz3, hz3a, hz3b⟩ := i32_z (xs (iZ (i + 3)).toNatClampNeg)
  obtain ⟨z4, hz4, hz4a, hz4b⟩ := i32_z (xs (iZ (i + 4)).toNatClampNeg)
  obtain ⟨z5, hz5, hz5a, hz5b⟩ := i32_z (xs (iZ (i + 5)).toNatClampNeg)
  have hl : lv_has ls 4 [(3, .int (iZ i)), (2, .ref (a 106)), (1, .ref (a 0)), (0, .ref b)] := hl
  have hls := hQE.1
  replace hls : _ := hls
  obtain ⟨PG, hPG⟩ : ∃ PG : PR_, ((IA 9) = 0 ∧ gz (FR 0) (0 + 5) = -1) ∨ ((IA 9) = 1 ∧ okR (IA 3) PG ∧ nsP PG ∧ yRM (FR 0) 0 PG ∧ yCM (FA 6) (FA 7) (FA 8) (FA 9) (FA 10) (IA 11) PG) := by rcases hYE with ⟨p9, q9⟩ | ⟨p9, P9, q9⟩; exact ⟨(0, fun _ => 0, fun _ => 0, fun _ => 0, fun _ => 0, fun _ => 0), Or.inl ⟨p9, q9⟩⟩; exact ⟨P9, Or.inr ⟨p9, q9⟩⟩
  have hth9 : (IA 9) = 1 ↔ ¬ gz (FR 0) 5 = -1 := by rcases hPG with ⟨p1, p2⟩ | ⟨p1, p2, -, p3, -⟩; have p2 : gz (FR 0) 5 = -1 := p2; constructor <;> omega; have p4 : gz (FR 0) 5 = PG.1 := p3.1; have p5 := p2.1.1; constructor <;> omega
  refine lv_aload_n hx hb dL_law_2787 rfl (lv_at hl 2 rfl) ?_
  refine lv_aload_n hx hb dL_law_2788 rfl (lv_at hl 3 rfl) ?_
  refine lv_iload_n hx hb dL_law_2789 rfl (lv_at hl 0 rfl) ?_
  refine lv_iconst (v := iZ 1) hx hb dL_law_2790 rfl ?_
  refine lv_iadd hx hb dL_law_2791 ?_
  refine lv_topi (fun x_1 ex_1 => ?_)
  obtain rfl : x_1 = iZ (i + 1) := ex_1.trans (iZ_add i 1)
  refine va_sld hx hb hX hbl hbA hS (zi1 hi hL) dL_law_2792 ?_
  refine lv_topi (fun x_2 ex_2 => ?_)
  obtain rfl : x_2 = iZ z1 := ex_2.trans hz1
  refine lv_aload_n hx hb dL_law_2793 rfl (lv_at hl 3 rfl) ?_
  refine lv_iload_n hx hb dL_law_2794 rfl (lv_at hl 0 rfl) ?_
  refine lv_iconst (v := iZ 2) hx hb dL_law_2795 rfl ?_
  refine lv_iadd hx hb dL_law_2796 ?_
  refine lv_topi (fun x_3 ex_3 => ?_)
  obtain rfl : x_3 = iZ (i + 2) := ex_3.trans (iZ_add i 2)
  refine va_sld hx hb hX hbl hbA hS (zi2 hi hL) dL_law_2797 ?_
  refine lv_topi (fun x_4 ex_4 => ?_)
  obtain rfl : x_4 = iZ z2 := ex_4.trans hz2
  obtain ⟨hP, hD⟩ := PD.fr3 ⟨hP, hD⟩
  obtain ⟨hP, hD⟩ := PD.swap ⟨hP, hD⟩
  obtain ⟨hP, hD⟩ := PD.sa2 ⟨hP, hD⟩
  obtain ⟨hP, hD⟩ := PD.mid3 ⟨hP, hD⟩
  refine CXM (mid := (GB k a IB LB FB QB VB r) ++ ((GD k a ID LD FD QD VD r) ++ ((GR k a IR LR FR QR VR r)))) (c0 := 123) (s0 := 16705) (r := r) (As := [.int (iZ z1), .int (iZ z2)]) (rest := []) hx hb hml hown hts hKK hP hD hS hA (x_mean l D k (a 0) (a 1) (a 2) (a 3) (a 4) (a 5) (a 6) (a 7) (a 8) (a 9) (a 10) (a 11) (IA 0) (IA 1) (IA 2) (LA 0) (LA 1) ([.ref (a 26), .ref (a 27), .ref (a 28), .int (iZ (IA 3)), .int (iZ (IA 4)), .int (iZ (IA 5)), .int (iZ (IA 6))]) (a 23) (a 27) (a 28) (a 24) (a 25) (IA 3) (IA 4) (IA 5) (FA 0) (FA 1) (a 105) (a 29) (a 30) (a 31) (a 32) (a 101) (a 102) (a 103) (a 104) (a 33) (a 34) (a 35) (a 36) (a 37) (IA 12) (IA 13) (IA 14) (IA 15) (IA 16) (IA 17) (IA 18) (IA 9) (IA 10) (IA 11) (IA 7) (IA 8) (FA 11) (FA 12) (FA 13) (FA 2) (FA 3) (FA 4) (FA 5) (FA 15) (FA 14) (FA 6) (FA 7) (FA 8) (FA 9) (FA 10) (a 38) (a 39) (a 40) (a 44) (a 45) (a 46) (a 47) (IC 15) (IC 16) (FC 4) (FC 5) (FC 6) (FC 7) PG z1 z2 r hRT rfl rfl rfl rfl rfl (by first | with_reducible assumption | omega) hx0 (by first | with_reducible assumption | omega) (by first | with_reducible assumption | omega) (by first | with_reducible assumption | omega) (by first | with_reducible assumption | omega) hrgk hrgt (by first | with_reducible assumption | omega) (by first | with_reducible assumption | omega) gw10 (by first | with_reducible assumption | omega) hYI (by first | with_reducible assumption | omega) hLE.2 (fun h9 => by rcases hPG with ⟨p9, -⟩ | ⟨-, p1, p2, p3, p4⟩; omega; exact ⟨p4, p1, p2⟩) hls ⟨hz1a, hz1b⟩ ⟨hz2a, hz2b⟩) ci_X11_mean qm_L_311 ⟨Nat.le_of_ble_eq_true rfl, Nat.le_of_ble_eq_true rfl⟩ ⟨Nat.le_of_ble_eq_true rfl, Nat.le_of_ble_eq_true rfl⟩ [0, 23, 1, 3, 8, 9, 10, 11, 17, 18, 19, 20, 21, 22, 24, 2, 6, 7, 4, 12, 13, 14, 15, 16, 32, 34, 39, 40, 41, 42] [5, 25, 26, 27, 28, 29, 30, 31, 33, 35, 36, 37, 38, 43, 44, 45, 46, 47] rfl rfl rfl (by decide +kernel) (by decide +kernel) (by decide +kernel) 0 rfl rfl rfl hl.1 rfl (Nat.le_of_ble_eq_true rfl) dL_law_2798 (fun u_5 H locs hφ hP hD hS => ?_)
  obtain ⟨r_6, v_7⟩ := u_5
  obtain ⟨p_8, p_9, p_10, p_11, p_12, p_13, p_14, p_15, p_16, rtr_6⟩ : (0 ≤ v_7.1.2.2.2.2.1 ∧ v_7.1.2.2.2.2.1 ≤ 400) ∧ (0 ≤ v_7.1.2.2.2.2.2.1 ∧ v_7.1.2.2.2.2.2.1 ≤ 20) ∧ (0 ≤ v_7.1.2.2.2.2.2.2.1 ∧ v_7.1.2.2.2.2.2.2.1 ≤ 65535) ∧ (rgI v_7.2.2.1.2.2.2.2.1 (-1) 420 6) ∧ (rgI v_7.2.2.1.2.2.2.2.2.1 (-1) 5 6) ∧ (rgI v_7.2.2.1.2.2.2.2.2.2.2.2.1 0 ((IA 3) - 1) v_7.1.2.2.2.2.2.1) ∧ (KNC (FA 0) (FA 1) (IA 3) (IA 4) v_7.1.2.2.2.2.2.1 v_7.2.2.1.2.2.2.2.2.2.2.2.1 v_7.2.2.1.2.2.2.2.2.2.2.2.2.1 v_7.2.2.1.2.2.2.2.2.2.2.2.2.2.1) ∧ (∀ o : Int, 0 ≤ o → o < 60 → 0 ≤ gz v_7.2.2.1.2.2.2.2.2.2.2.2.2.2.2.1 o ∧ gz v_7.2.2.1.2.2.2.2.2.2.2.2.2.2.2.1 o ≤ 99) ∧ (((((0 ≤ z1 ∧ z1 ≤ 9999) ∧ (1 ≤ z2 ∧ z2 ≤ 10) ∧ z1 + z2 - 1 ≤ 9999) ∧ (IA 9) = 1) ∧ (v_7.1.1 : Int) = 1 ∧ (cL v_7.1.2.2.2.2.1 v_7.1.2.2.2.2.2.1 v_7.2.2.1.2.2.2.2.2.2.2.1 v_7.2.2.1.2.2.2.2.2.2.2.2.1 v_7.2.2.1.2.2.2.2.2.2.2.2.2.1) = (cL (IA 7) (IA 8) (FA 2) (FA 3) (FA 4)) ∧ ∃ S9 : Int, mnR (eC (FA 0) (FA 1) (IA 3) (IA 4) (IA 5)) PG (cL (IA 7) (IA 8) (FA 2) (FA 3) (FA 4)) z1 (Int.toNat (z2)) (cQ (FA 15)) 0 (cQ v_7.2.2.1.2.2.2.2.2.2.2.2.2.2.2.1) S9) ∨ (¬ (((0 ≤ z1 ∧ z1 ≤ 9999) ∧ (1 ≤ z2 ∧ z2 ≤ 10) ∧ z1 + z2 - 1 ≤ 9999) ∧ (IA 9) = 1) ∧ (v_7.1.1 : Int) = 0 ∧ (cL v_7.1.2.2.2.2.1 v_7.1.2.2.2.2.2.1 v_7.2.2.1.2.2.2.2.2.2.2.1 v_7.2.2.1.2.2.2.2.2.2.2.2.1 v_7.2.2.1.2.2.2.2.2.2.2.2.2.1) = (cL (IA 7) (IA 8) (FA 2) (FA 3) (FA 4)) ∧ v_7.2.2.1.2.2.2.2.2.2.2.2.2.2.2.1 = (FA 15))) ∧ ((RT k) (RX (FA 0) (FA 1) (IA 3) (IA 4)) r_6) := hφ
  obtain ⟨hP, hD⟩ := PD.dim3 ⟨hP, hD⟩
  obtain ⟨hP, hD⟩ := PD.by3 (is := [18, 20, 33, 21, 36, 0, 34, 35, 22, 23, 24, 25, 37, 38, 39, 40, 41, 26, 27, 28, 29, 30, 31, 19, 32, 1, 2, 3, 4, 5, 6, 7, 42, 8, 43, 9, 10, 11, 12, 44, 45, 46, 47, 13, 14, 15, 16, 17]) (y := (GA k a (fun i => [(IA 0), (IA 1), v_7.1.2.1, (IA 3), (IA 4), (IA 5), (IA 6), v_7.1.2.2.2.2.1, v_7.1.2.2.2.2.2.1, (IA 9), (IA 10), (IA 11), v_7.1.2.2.2.2.2.2.1, v_7.1.2.2.2.2.2.2.2.1, v_7.1.2.2.2.2.2.2.2.2.1, v_7.1.2.2.2.2.2.2.2.2.2.1, v_7.1.2.2.2.2.2.2.2.2.2.2.1, v_7.1.2.2.2.2.2.2.2.2.2.2.2.1, v_7.1.2.2.2.2.2.2.2.2.2.2.2.2].getD i 0) (u9 (u9 LA 0 v_7.2.1.2.1) 1 v_7.2.1.2.2) (fun i => [(FA 0), (FA 1), v_7.2.2.1.2.2.2.2.2.2.2.1, v_7.2.2.1.2.2.2.2.2.2.2.2.1, v_7.2.2.1.2.2.2.2.2.2.2.2.2.1, v_7.2.2.1.2.2.2.2.2.2.2.2.2.2.1, (FA 6), (FA 7), (FA 8), (FA 9), (FA 10), v_7.2.2.1.2.2.2.2.1, v_7.2.2.1.2.2.2.2.2.1, v_7.2.2.1.2.2.2.2.2.2.1, v_7.2.2.1.2.2.2.2.2.2.2.2.2.2.2.2, v_7.2.2.1.2.2.2.2.2.2.2.2.2.2.2.1, (FA 16)].getD i (fun _ => 0)) QA VA r_6) ++ ((GC k a (u9 (u9 IC 15 v_7.1.2.2.1) 16 v_7.1.2.2.2.1) LC (u9 (u9 (u9 (u9 FC 4 v_7.2.2.1.1) 5 v_7.2.2.1.2.1) 6 v_7.2.2.1.2.2.1) 7 v_7.2.2.1.2.2.2.1) QC VC r_6))) ⟨hP, hD⟩ (by decide +kernel) rfl rfl
  obtain ⟨hP, hD⟩ := PD.as2 ⟨hP, hD⟩
  refine W.ceq (cells' := 123 + cz true r_6.b) (slots' := 16705 + sz true r_6.b) rfl rfl ?_
  refine W.eq (g2 := F0 m 2801 ls [.int (iZ v_7.1.1)]) rfl ?_
  refine lv_pop hx hb dL_law_2801 rfl ?_
  refine lv_aload_n hx hb dL_law_2802 rfl (lv_at hl 1 rfl) ?_
  refine lv_aload_n hx hb dL_law_2803 rfl (lv_at hl 3 rfl) ?_
  refine lv_iload_n hx hb dL_law_2804 rfl (lv_at hl 0 rfl) ?_
  refine lv_iconst (v := iZ 1) hx hb dL_law_2805 rfl ?_
  refine lv_iadd hx hb dL_law_2806 ?_
  refine lv_topi (fun x_17 ex_17 => ?_)
  obtain rfl : x_17 = iZ (i + 1) := ex_17.trans (iZ_add i 1)
  refine va_sld hx hb hX hbl hbA hS (zi1 hi hL) dL_law_2807 ?_
  refine lv_topi (fun x_18 ex_18 => ?_)
  obtain rfl : x_18 = iZ z1 := ex_18.trans hz1
  refine lv_aload_n hx hb dL_law_2808 rfl (lv_at hl 3 rfl) ?_
  refine lv_iload_n hx hb dL_law_2809 rfl (lv_at hl 0 rfl) ?_
  refine lv_iconst (v := iZ 2) hx hb dL_law_2810 rfl ?_
  refine lv_iadd hx hb dL_law_2811 ?_
  refine lv_topi (fun x_19 ex_19 => ?_)
  obtain rfl : x_19 = iZ (i + 2) := ex_19.trans (iZ_add i 2)
  refine va_sld hx hb hX hbl hbA hS (zi2 hi hL) dL_law_2812 ?_
  refine lv_topi (fun x_20 ex_20 => ?_)
  obtain rfl : x_20 = iZ z2 := ex_20.trans hz2
  obtain ⟨hP, hD⟩ := PD.fr5 ⟨hP, hD⟩
  refine CKV2 (As := [.int (iZ z1), .int (iZ z2)]) (rest := []) (tl := (GA k a (fun i => [(IA 0), (IA 1), v_7.1.2.1, (IA 3), (IA 4), (IA 5), (IA 6), v_7.1.2.2.2.2.1, v_7.1.2.2.2.2.2.1, (IA 9), (IA 10), (IA 11), v_7.1.2.2.2.2.2.2.1, v_7.1.2.2.2.2.2.2.2.1, v_7.1.2.2.2.2.2.2.2.2.1, v_7.1.2.2.2.2.2.2.2.2.2.1, v_7.1.2.2.2.2.2.2.2.2.2.2.1, v_7.1.2.2.2.2.2.2.2.2.2.2.2.1, v_7.1.2.2.2.2.2.2.2.2.2.2.2.2].getD i 0) (u9 (u9 LA 0 v_7.2.1.2.1) 1 v_7.2.1.2.2) (fun i => [(FA 0), (FA 1), v_7.2.2.1.2.2.2.2.2.2.2.1, v_7.2.2.1.2.2.2.2.2.2.2.2.1, v_7.2.2.1.2.2.2.2.2.2.2.2.2.1, v_7.2.2.1.2.2.2.2.2.2.2.2.2.2.1, (FA 6), (FA 7), (FA 8), (FA 9), (FA 10), v_7.2.2.1.2.2.2.2.1, v_7.2.2.1.2.2.2.2.2.1, v_7.2.2.1.2.2.2.2.2.2.1, v_7.2.2.1.2.2.2.2.2.2.2.2.2.2.2.2, v_7.2.2.1.2.2.2.2.2.2.2.2.2.2.2.1, (FA 16)].getD i (fun _ => 0)) QA VA r_6) ++ ((GC k a (u9 (u9 IC 15 v_7.1.2.2.1) 16 v_7.1.2.2.2.1) LC (u9 (u9 (u9 (u9 FC 4 v_7.2.2.1.1) 5 v_7.2.2.1.2.1) 6 v_7.2.2.1.2.2.1) 7 v_7.2.2.1.2.2.2.1) QC VC r_6) ++ ((GB k a IB LB FB QB VB r) ++ ((GD k a ID LD FD QD VD r) ++ (r_6.tl))))) hx hb hml hown hts hKK hP hD hS hA (r_mean l D k (a 106) (a 107) (a 108) (a 109) (a 110) (a 111) (a 112) (a 113) (a 114) (a 115) (a 116) (a 117) (a 118) (a 119) (a 120) (a 121) (a 122) (IR 0) (IR 1) (IR 2) (IR 3) (IR 4) (IR 5) (IR 6) (IR 7) (IR 8) (IR 9) (IR 10) (IR 11) (IR 12) (IR 13) (IR 14) (IR 15) (IR 16) (IR 17) (LR 0) (LR 1) (FR 0) (FR 6) (FR 7) (FR 8) (FR 9) (FR 11) (FR 12) PG z1 z2 hM rgH (by first | with_reducible assumption | omega) (by rcases hPG with ⟨-, p1⟩ | ⟨-, p1, -, p3, -⟩; exact Or.inl p1; exact Or.inr ⟨p3, by rw [(SKE.z hSK).1]; exact p1⟩) hQE.2.1 ⟨hz1a, hz1b⟩ ⟨hz2a, hz2b⟩) ci_X12_mean qm_L_314 ⟨Nat.le_of_ble_eq_true rfl, Nat.le_of_ble_eq_true rfl⟩ (lroom _) [0, 1, 9, 10, 11, 12, 14, 15] [2, 3, 4, 5, 6, 7, 8, 13, 16] rfl rfl rfl (by decide +kernel) (by decide +kernel) (by decide +kernel) 0 rfl rfl rfl hl.1 rfl (Nat.le_of_ble_eq_true rfl) dL_law_2813 (fun u_21 H locs hφ hP hD hS => ?_)
  obtain ⟨p_22, p_23, p_24, p_25, p_26, p_27, p_28⟩ : (M0 u_21.2.2.1.1) ∧ (∀ e : Int, 520 ≤ e → e < 4450 → gz u_21.2.2.1.1 e = gz (FR 0) e) ∧ (0 ≤ u_21.1.2.2.1 ∧ u_21.1.2.2.1 ≤ 65535) ∧ (rgI u_21.2.2.1.2.2.2.2.1 0 1000000 120) ∧ (∀ e : Int, 0 ≤ e → e < 520 → gz u_21.2.2.1.1 e = gz (FR 0) e) ∧ (okZ u_21.2.2.1.2.2.2.2.2.1) ∧ (((((0 ≤ z1 ∧ z1 ≤ 9999) ∧ (1 ≤ z2 ∧ z2 ≤ 10) ∧ z1 + z2 - 1 ≤ 9999) ∧ ¬ gz (FR 0) 5 = -1) ∧ (u_21.1.1 : Int) = 1 ∧ ∃ S9 : Int, mnR (eR (FR 0)) PG (rL (FR 0)) z1 (Int.toNat (z2)) (rQ (FR 11)) 0 (rQ u_21.2.2.1.2.2.2.2.2.1) S9) ∨ (¬ (((0 ≤ z1 ∧ z1 ≤ 9999) ∧ (1 ≤ z2 ∧ z2 ≤ 10) ∧ z1 + z2 - 1 ≤ 9999) ∧ ¬ gz (FR 0) 5 = -1) ∧ (u_21.1.1 : Int) = 0 ∧ u_21.2.2.1.2.2.2.2.2.1 = (FR 11))) := hφ
  obtain ⟨hP, hD⟩ := PD.by3 (is := [9, 10, 0, 1, 2, 3, 4, 5, 6, 11, 12, 13, 14, 7, 15, 16, 8]) (y := (GR k a (u9 (u9 (u9 IR 0 u_21.1.2.1) 14 u_21.1.2.2.1) 15 u_21.1.2.2.2) (u9 (u9 LR 0 u_21.2.1.2.1) 1 u_21.2.1.2.2) (fun i => [u_21.2.2.1.1, (FR 1), (FR 2), (FR 3), (FR 4), (FR 5), u_21.2.2.1.2.1, u_21.2.2.1.2.2.1, u_21.2.2.1.2.2.2.1, u_21.2.2.1.2.2.2.2.1, (FR 10), u_21.2.2.1.2.2.2.2.2.1, u_21.2.2.1.2.2.2.2.2.2, (FR 13)].getD i (fun _ => 0)) QR VR r_6)) ⟨hP, hD⟩ (by decide +kernel) rfl rfl
  refine W.eq (g2 := F0 m 2816 ls [.int (iZ u_21.1.1)]) rfl ?_
  refine lv_pop hx hb dL_law_2816 rfl ?_
  refine lv_goto (tgt := 2846) hx hb dL_law_2817 rfl ?_
  obtain ⟨hP, hD⟩ := PD.fr5 ⟨hP, hD⟩
  obtain ⟨hP, hD⟩ := PD.fr4 ⟨hP, hD⟩
  obtain ⟨hP, hD⟩ := PD.fr5 ⟨hP, hD⟩
  obtain ⟨hP, hD⟩ := PD.fr5 ⟨hP, hD⟩
  exact hk a (fun i => [(IA 0), (IA 1), v_7.1.2.1, (IA 3), (IA 4), (IA 5), (IA 6), v_7.1.2.2.2.2.1, v_7.1.2.2.2.2.2.1, (IA 9), (IA 10), (IA 11), v_7.1.2.2.2.2.2.2.1, v_7.1.2.2.2.2.2.2.2.1, v_7.1.2.2.2.2.2.2.2.2.1, v_7.1.2.2.2.2.2.2.2.2.2.1, v_7.1.2.2.2.2.2.2.2.2.2.2.1, v_7.1.2.2.2.2.2.2.2.2.2.2.2.1, v_7.1.2.2.2.2.2.2.2.2.2.2.2.2].getD i 0) (u9 (u9 LA 0 v_7.2.1.2.1) 1 v_7.2.1.2.2) (fun i => [(FA 0), (FA 1), v_7.2.2.1.2.2.2.2.2.2.2.1, v_7.2.2.1.2.2.2.2.2.2.2.2.1, v_7.2.2.1.2.2.2.2.2.2.2.2.2.1, v_7.2.2.1.2.2.2.2.2.2.2.2.2.2.1, (FA 6), (FA 7), (FA 8), (FA 9), (FA 10), v_7.2.2.1.2.2.2.2.1, v_7.2.2.1.2.2.2.2.2.1, v_7.2.2.1.2.2.2.2.2.2.1, v_7.2.2.1.2.2.2.2.2.2.2.2.2.2.2.2, v_7.2.2.1.2.2.2.2.2.2.2.2.2.2.2.1, (FA 16)].getD i (fun _ => 0)) QA VA IB LB FB QB VB (u9 (u9 IC 15 v_7.1.2.2.1) 16 v_7.1.2.2.2.1) LC (u9 (u9 (u9 (u9 FC 4 v_7.2.2.1.1) 5 v_7.2.2.1.2.1) 6 v_7.2.2.1.2.2.1) 7 v_7.2.2.1.2.2.2.1) QC VC ID LD FD QD VD (u9 (u9 (u9 IR 0 u_21.1.2.1) 14 u_21.1.2.2.1) 15 u_21.1.2.2.2) (u9 (u9 LR 0 u_21.2.1.2.1) 1 u_21.2.1.2.2) (fun i => [u_21.2.2.1.1, (FR 1), (FR 2), (FR 3), (FR 4), (FR 5), u_21.2.2.1.2.1, u_21.2.2.1.2.2.1, u_21.2.2.1.2.2.2.1, u_21.2.2.1.2.2.2.2.1, (FR 10), u_21.2.2.1.2.2.2.2.2.1, u_21.2.2.1.2.2.2.2.2.2, (FR 13)].getD i (fun _ => 0)) QR VR r_6 H locs ls (show INV _ _ _ _ _ _ _ _ _ _ _ _ _ _ _ from ⟨(show WI (IA 3) (IA 4) (IA 5) v_7.1.2.2.2.2.1 v_7.1.2.2.2.2.2.1 (IA 9) (IA 10) (IA 11) (FA 0) v_7.2.2.1.2.2.2.2.2.2.2.2.1 (FA 6) (FA 7) (FA 9) (FA 10) from (by first | with_reducible assumption | exact ⟨by omega, by omega, by omega, by omega, by omega, by omega, by omega, by omega, by first | exact gw9 | assumption, by first | exact gw10 | assumption, by first | exact gw11 | assumption⟩)), hWI_0, hWI_1, hWI_2, hrd, htr0, htr1, htr2, htr3, (show rgI v_7.2.2.1.2.2.2.2.1 (-1) 420 6 from (by assumption)), (show rgI v_7.2.2.1.2.2.2.2.2.1 (-1) 5 6 from (by assumption)), (show 0 ≤ v_7.1.2.2.2.2.2.2.1 ∧ v_7.1.2.2.2.2.2.2.1 ≤ 65535 from (by first | with_reducible assumption | omega)), hev, hmk, (show M0 u_21.2.2.1.1 from (by assumption)), (show MK u_21.2.2.1.1 (IR 17) from MK.keep (by omega) hMK (fun e h1 h2 => p_23 e (by omega) (by omega))), hTI, hFS, htd, hlt, (show rgI u_21.2.2.1.2.2.2.2.1 0 1000000 120 from (by assumption)), rgS, rgY, (show 0 ≤ u_21.1.2.2.1 ∧ u_21.1.2.2.1 ≤ 65535 from (by first | with_reducible assumption | omega)), hit, hmmk, heq, htq, hrel, hbf, htb, hkw, (show SKE (IA 3) (IA 4) (IA 5) (FA 0) (FA 1) u_21.2.2.1.1 0 from SKE.lo hSK (fun e h1 h2 => p_26 e h1 (by omega)) gw2.2), (show SKI 0 (IA 1) (ID 0) (ID 1) (ID 2) (FD 0) (FD 1) u_21.2.2.1.1 890 from fun h => SKE.keep (hSK0 h) (fun e p q => p_23 e (by omega) (by omega)) hWI_0.2.1.2), (show SKI 1 (IA 1) (ID 9) (ID 10) (ID 11) (FD 11) (FD 12) u_21.2.2.1.1 1780 from fun h => SKE.keep (hSK1 h) (fun e p q => p_23 e (by omega) (by omega)) hWI_1.2.1.2), (show SKI 2 (IA 1) (ID 18) (ID 19) (ID 20) (FD 22) (FD 23) u_21.2.2.1.1 2670 from fun h => SKE.keep (hSK2 h) (fun e p q => p_23 e (by omega) (by omega)) hWI_2.2.1.2), hNE, hNE0, hNE1, hNE2, (show LFE (IA 3) (IA 4) v_7.1.2.2.2.2.1 v_7.1.2.2.2.2.2.1 (FA 0) (FA 1) v_7.2.2.1.2.2.2.2.2.2.2.1 v_7.2.2.1.2.2.2.2.2.2.2.2.1 v_7.2.2.1.2.2.2.2.2.2.2.2.2.1 v_7.2.2.1.2.2.2.2.2.2.2.2.2.2.1 u_21.2.2.1.1 0 from ⟨(mean_two hLE.1 hQE.2.2 (eR_ske hSK gw1.2) hth9 (by have h9 := hLE.rg.1; have h8 : gz (FR 0) 3 = (IA 7) := h9; omega) (by have h9 := hLE.rg.2; have h8 : gz (FR 0) 4 = (IA 8) := h9; omega) p_16 p_28 p_26).1, p_14⟩), (show YFE (IA 3) (IA 9) (IA 11) (FA 6) (FA 7) (FA 8) (FA 9) (FA 10) u_21.2.2.1.1 0 from (hYE.keep (fun e a9 b9 => by rw [show (0 : Int) + e = e by omega]; by_cases c9 : e < 520; exact p_26 e a9 c9; exact p_23 e (by omega) (by omega)))), (show (∀ o9 : Int, 0 ≤ o9 → o9 < 60 → 0 ≤ gz v_7.2.2.1.2.2.2.2.2.2.2.2.2.2.2.1 o9 ∧ gz v_7.2.2.1.2.2.2.2.2.2.2.2.2.2.2.1 o9 ≤ 99) ∧ okZ u_21.2.2.1.2.2.2.2.2.1 ∧ cQ v_7.2.2.1.2.2.2.2.2.2.2.2.2.2.2.1 = rQ u_21.2.2.1.2.2.2.2.2.1 from ⟨p_15, p_27, (mean_two hLE.1 hQE.2.2 (eR_ske hSK gw1.2) hth9 (by have h9 := hLE.rg.1; have h8 : gz (FR 0) 3 = (IA 7) := h9; omega) (by have h9 := hLE.rg.2; have h8 : gz (FR 0) 4 = (IA 8) := h9; omega) p_16 p_28 p_26).2.1⟩), (show LFI 0 (IA 1) (ID 0) (ID 1) (ID 4) (ID 5) (FD 0) (FD 1) (FD 2) (FD 3) (FD 4) (FD 5) u_21.2.2.1.1 890 from (fun h => (hLE0 h).keep (by omega) hWI_0.2.2.2.1 hWI_0.2.2.2.2.1 (fun e p r => p_23 _ (by omega) (by omega)))), (show LFI 1 (IA 1) (ID 9) (ID 10) (ID 13) (ID 14) (FD 11) (FD 12) (FD 13) (FD 14) (FD 15) (FD 16) u_21.2.2.1.1 1780 from (fun h => (hLE1 h).keep (by omega) hWI_1.2.2.2.1 hWI_1.2.2.2.2.1 (fun e p r => p_23 _ (by omega) (by omega)))), (show LFI 2 (IA 1) (ID 18) (ID 19) (ID 22) (ID 23) (FD 22) (FD 23) (FD 24) (FD 25) (FD 26) (FD 27) u_21.2.2.1.1 2670 from (fun h => (hLE2 h).keep (by omega) hWI_2.2.2.2.1 hWI_2.2.2.2.2.1 (fun e p r => p_23 _ (by omega) (by omega)))), (show YFI 0 (IA 1) (ID 0) (ID 6) (ID 8) (FD 6) (FD 7) (FD 8) (FD 9) (FD 10) u_21.2.2.1.1 890 from (fun h => (hYE0 h).keep (fun e p r => p_23 _ (by omega) (by omega)))), (show YFI 1 (IA 1) (ID 9) (ID 15) (ID 17) (FD 17) (FD 18) (FD 19) (FD 20) (FD 21) u_21.2.2.1.1 1780 from (fun h => (hYE1 h).keep (fun e p r => p_23 _ (by omega) (by omega)))), (show YFI 2 (IA 1) (ID 18) (ID 24) (ID 26) (FD 28) (FD 29) (FD 30) (FD 31) (FD 32) u_21.2.2.1.1 2670 from (fun h => (hYE2 h).keep (fun e p r => p_23 _ (by omega) (by omega))))⟩) rtr_6 hP hD hS (lv_sub hl [0, 1, 2, 3] rfl)
end
