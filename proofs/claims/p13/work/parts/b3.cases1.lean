section
theorem qc_X11_sky : Cond.code yX11_sky cX11_sky 3 (some .int) ∈ gw := tbt (tb3 (List.mem_of_getElem? (i := 88) rfl)) rfl
theorem qi_yX11_sky : Cond.instanceMethod yX11_sky ∈ gw := tbt (tb3 (List.mem_of_getElem? (i := 86) rfl)) rfl
theorem qs_X11_sky : Cond.selects (yX11_sky).cls yX11_sky yX11_sky ∈ gw := tbt (tb3 (List.mem_of_getElem? (i := 87) rfl)) rfl
theorem ci_X11_sky : CIv yX11_sky cX11_sky 3 (some .int) 1 := ⟨qc_X11_sky, qi_yX11_sky, qs_X11_sky, qz_X11, by decide +kernel⟩
theorem qm_L_54 : Cond.methodLink RL 54 yX11_sky ∈ gw := tbt (tb3 (List.mem_of_getElem? (i := 85) rfl)) rfl
theorem qc_X12_sky : Cond.code yX12_sky cX12_sky 4 (some .int) ∈ gw := tbt (tb6 (List.mem_of_getElem? (i := 211) rfl)) rfl
theorem qi_yX12_sky : Cond.instanceMethod yX12_sky ∈ gw := tbt (tb6 (List.mem_of_getElem? (i := 209) rfl)) rfl
theorem qs_X12_sky : Cond.selects (yX12_sky).cls yX12_sky yX12_sky ∈ gw := tbt (tb6 (List.mem_of_getElem? (i := 210) rfl)) rfl
theorem ci_X12_sky : CIv yX12_sky cX12_sky 4 (some .int) 1 := ⟨qc_X12_sky, qi_yX12_sky, qs_X12_sky, qz_X12, by decide +kernel⟩
theorem qm_L_58 : Cond.methodLink RL 58 yX12_sky ∈ gw := tbt (tb6 (List.mem_of_getElem? (i := 208) rfl)) rfl
theorem qc_X11_years : Cond.code yX11_years cX11_years 3 (some .int) ∈ gw := tbt (tb3 (List.mem_of_getElem? (i := 208) rfl)) rfl
theorem qi_yX11_years : Cond.instanceMethod yX11_years ∈ gw := tbt (tb3 (List.mem_of_getElem? (i := 206) rfl)) rfl
theorem qs_X11_years : Cond.selects (yX11_years).cls yX11_years yX11_years ∈ gw := tbt (tb3 (List.mem_of_getElem? (i := 207) rfl)) rfl
theorem ci_X11_years : CIv yX11_years cX11_years 3 (some .int) 1 := ⟨qc_X11_years, qi_yX11_years, qs_X11_years, qz_X11, by decide +kernel⟩
theorem qm_L_59 : Cond.methodLink RL 59 yX11_years ∈ gw := tbt (tb3 (List.mem_of_getElem? (i := 205) rfl)) rfl
theorem qc_X12_years : Cond.code yX12_years cX12_years 4 (some .int) ∈ gw := tbt (tb7 (List.mem_of_getElem? (i := 70) rfl)) rfl
theorem qi_yX12_years : Cond.instanceMethod yX12_years ∈ gw := tbt (tb7 (List.mem_of_getElem? (i := 68) rfl)) rfl
theorem qs_X12_years : Cond.selects (yX12_years).cls yX12_years yX12_years ∈ gw := tbt (tb7 (List.mem_of_getElem? (i := 69) rfl)) rfl
theorem ci_X12_years : CIv yX12_years cX12_years 4 (some .int) 1 := ⟨qc_X12_years, qi_yX12_years, qs_X12_years, qz_X12, by decide +kernel⟩
theorem qm_L_62 : Cond.methodLink RL 62 yX12_years ∈ gw := tbt (tb7 (List.mem_of_getElem? (i := 67) rfl)) rfl
theorem qc_X11_fault : Cond.code yX11_fault cX11_fault 2 (some .int) ∈ gw := tbt (tb4 (List.mem_of_getElem? (i := 16) rfl)) rfl
theorem qi_yX11_fault : Cond.instanceMethod yX11_fault ∈ gw := tbt (tb4 (List.mem_of_getElem? (i := 14) rfl)) rfl
theorem qs_X11_fault : Cond.selects (yX11_fault).cls yX11_fault yX11_fault ∈ gw := tbt (tb4 (List.mem_of_getElem? (i := 15) rfl)) rfl
theorem ci_X11_fault : CIv yX11_fault cX11_fault 2 (some .int) 1 := ⟨qc_X11_fault, qi_yX11_fault, qs_X11_fault, qz_X11, by decide +kernel⟩
theorem qm_L_63 : Cond.methodLink RL 63 yX11_fault ∈ gw := tbt (tb4 (List.mem_of_getElem? (i := 13) rfl)) rfl
theorem qc_X12_fault : Cond.code yX12_fault cX12_fault 2 (some .int) ∈ gw := tbt (tb6 (List.mem_of_getElem? (i := 207) rfl)) rfl
theorem qi_yX12_fault : Cond.instanceMethod yX12_fault ∈ gw := tbt (tb6 (List.mem_of_getElem? (i := 205) rfl)) rfl
theorem qs_X12_fault : Cond.selects (yX12_fault).cls yX12_fault yX12_fault ∈ gw := tbt (tb6 (List.mem_of_getElem? (i := 206) rfl)) rfl
theorem ci_X12_fault : CIv yX12_fault cX12_fault 2 (some .int) 1 := ⟨qc_X12_fault, qi_yX12_fault, qs_X12_fault, qz_X12, by decide +kernel⟩
theorem qm_L_66 : Cond.methodLink RL 66 yX12_fault ∈ gw := tbt (tb6 (List.mem_of_getElem? (i := 204) rfl)) rfl
theorem qc_X11_told : Cond.code yX11_told cX11_told 2 (some .int) ∈ gw := tbt (tb4 (List.mem_of_getElem? (i := 20) rfl)) rfl
theorem qi_yX11_told : Cond.instanceMethod yX11_told ∈ gw := tbt (tb4 (List.mem_of_getElem? (i := 18) rfl)) rfl
theorem qs_X11_told : Cond.selects (yX11_told).cls yX11_told yX11_told ∈ gw := tbt (tb4 (List.mem_of_getElem? (i := 19) rfl)) rfl
theorem ci_X11_told : CIv yX11_told cX11_told 2 (some .int) 1 := ⟨qc_X11_told, qi_yX11_told, qs_X11_told, qz_X11, by decide +kernel⟩
theorem qm_L_67 : Cond.methodLink RL 67 yX11_told ∈ gw := tbt (tb4 (List.mem_of_getElem? (i := 17) rfl)) rfl
theorem qc_X12_told : Cond.code yX12_told cX12_told 2 (some .int) ∈ gw := tbt (tb7 (List.mem_of_getElem? (i := 90) rfl)) rfl
theorem qi_yX12_told : Cond.instanceMethod yX12_told ∈ gw := tbt (tb7 (List.mem_of_getElem? (i := 88) rfl)) rfl
theorem qs_X12_told : Cond.selects (yX12_told).cls yX12_told yX12_told ∈ gw := tbt (tb7 (List.mem_of_getElem? (i := 89) rfl)) rfl
theorem ci_X12_told : CIv yX12_told cX12_told 2 (some .int) 1 := ⟨qc_X12_told, qi_yX12_told, qs_X12_told, qz_X12, by decide +kernel⟩
theorem qm_L_70 : Cond.methodLink RL 70 yX12_told ∈ gw := tbt (tb7 (List.mem_of_getElem? (i := 87) rfl)) rfl
theorem qc_X11_rock : Cond.code yX11_rock cX11_rock 3 (some .int) ∈ gw := tbt (tb4 (List.mem_of_getElem? (i := 28) rfl)) rfl
theorem qi_yX11_rock : Cond.instanceMethod yX11_rock ∈ gw := tbt (tb4 (List.mem_of_getElem? (i := 26) rfl)) rfl
theorem qs_X11_rock : Cond.selects (yX11_rock).cls yX11_rock yX11_rock ∈ gw := tbt (tb4 (List.mem_of_getElem? (i := 27) rfl)) rfl
theorem ci_X11_rock : CIv yX11_rock cX11_rock 3 (some .int) 2 := ⟨qc_X11_rock, qi_yX11_rock, qs_X11_rock, qz_X11, by decide +kernel⟩
theorem qm_L_71 : Cond.methodLink RL 71 yX11_rock ∈ gw := tbt (tb4 (List.mem_of_getElem? (i := 25) rfl)) rfl
theorem qc_X12_rock : Cond.code yX12_rock cX12_rock 3 (some .int) ∈ gw := tbt (tb7 (List.mem_of_getElem? (i := 94) rfl)) rfl
theorem qi_yX12_rock : Cond.instanceMethod yX12_rock ∈ gw := tbt (tb7 (List.mem_of_getElem? (i := 92) rfl)) rfl
theorem qs_X12_rock : Cond.selects (yX12_rock).cls yX12_rock yX12_rock ∈ gw := tbt (tb7 (List.mem_of_getElem? (i := 93) rfl)) rfl
theorem ci_X12_rock : CIv yX12_rock cX12_rock 3 (some .int) 2 := ⟨qc_X12_rock, qi_yX12_rock, qs_X12_rock, qz_X12, by decide +kernel⟩
theorem qm_L_75 : Cond.methodLink RL 75 yX12_rock ∈ gw := tbt (tb7 (List.mem_of_getElem? (i := 91) rfl)) rfl
theorem qc_X11_ice : Cond.code yX11_ice cX11_ice 3 (some .int) ∈ gw := tbt (tb4 (List.mem_of_getElem? (i := 40) rfl)) rfl
theorem qi_yX11_ice : Cond.instanceMethod yX11_ice ∈ gw := tbt (tb4 (List.mem_of_getElem? (i := 38) rfl)) rfl
theorem qs_X11_ice : Cond.selects (yX11_ice).cls yX11_ice yX11_ice ∈ gw := tbt (tb4 (List.mem_of_getElem? (i := 39) rfl)) rfl
theorem ci_X11_ice : CIv yX11_ice cX11_ice 3 (some .int) 2 := ⟨qc_X11_ice, qi_yX11_ice, qs_X11_ice, qz_X11, by decide +kernel⟩
theorem qm_L_76 : Cond.methodLink RL 76 yX11_ice ∈ gw := tbt (tb4 (List.mem_of_getElem? (i := 37) rfl)) rfl
theorem qc_X12_ice : Cond.code yX12_ice cX12_ice 3 (some .int) ∈ gw := tbt (tb7 (List.mem_of_getElem? (i := 105) rfl)) rfl
theorem qi_yX12_ice : Cond.instanceMethod yX12_ice ∈ gw := tbt (tb7 (List.mem_of_getElem? (i := 103) rfl)) rfl
theorem qs_X12_ice : Cond.selects (yX12_ice).cls yX12_ice yX12_ice ∈ gw := tbt (tb7 (List.mem_of_getElem? (i := 104) rfl)) rfl
theorem ci_X12_ice : CIv yX12_ice cX12_ice 3 (some .int) 2 := ⟨qc_X12_ice, qi_yX12_ice, qs_X12_ice, qz_X12, by decide +kernel⟩
theorem qm_L_79 : Cond.methodLink RL 79 yX12_ice ∈ gw := tbt (tb7 (List.mem_of_getElem? (i := 102) rfl)) rfl
theorem qc_X11_direction : Cond.code yX11_direction cX11_direction 3 (some .int) ∈ gw := tbt (tb4 (List.mem_of_getElem? (i := 44) rfl)) rfl
theorem qi_yX11_direction : Cond.instanceMethod yX11_direction ∈ gw := tbt (tb4 (List.mem_of_getElem? (i := 42) rfl)) rfl
theorem qs_X11_direction : Cond.selects (yX11_direction).cls yX11_direction yX11_direction ∈ gw := tbt (tb4 (List.mem_of_getElem? (i := 43) rfl)) rfl
theorem ci_X11_direction : CIv yX11_direction cX11_direction 3 (some .int) 2 := ⟨qc_X11_direction, qi_yX11_direction, qs_X11_direction, qz_X11, by decide +kernel⟩
theorem qm_L_80 : Cond.methodLink RL 80 yX11_direction ∈ gw := tbt (tb4 (List.mem_of_getElem? (i := 41) rfl)) rfl
theorem qc_X12_direction : Cond.code yX12_direction cX12_direction 3 (some .int) ∈ gw := tbt (tb7 (List.mem_of_getElem? (i := 109) rfl)) rfl
theorem qi_yX12_direction : Cond.instanceMethod yX12_direction ∈ gw := tbt (tb7 (List.mem_of_getElem? (i := 107) rfl)) rfl
theorem qs_X12_direction : Cond.selects (yX12_direction).cls yX12_direction yX12_direction ∈ gw := tbt (tb7 (List.mem_of_getElem? (i := 108) rfl)) rfl
theorem ci_X12_direction : CIv yX12_direction cX12_direction 3 (some .int) 2 := ⟨qc_X12_direction, qi_yX12_direction, qs_X12_direction, qz_X12, by decide +kernel⟩
theorem qm_L_83 : Cond.methodLink RL 83 yX12_direction ∈ gw := tbt (tb7 (List.mem_of_getElem? (i := 106) rfl)) rfl
theorem qc_X11_light : Cond.code yX11_light cX11_light 5 (some .int) ∈ gw := tbt (tb4 (List.mem_of_getElem? (i := 52) rfl)) rfl
theorem qi_yX11_light : Cond.instanceMethod yX11_light ∈ gw := tbt (tb4 (List.mem_of_getElem? (i := 50) rfl)) rfl
theorem qs_X11_light : Cond.selects (yX11_light).cls yX11_light yX11_light ∈ gw := tbt (tb4 (List.mem_of_getElem? (i := 51) rfl)) rfl
theorem ci_X11_light : CIv yX11_light cX11_light 5 (some .int) 4 := ⟨qc_X11_light, qi_yX11_light, qs_X11_light, qz_X11, by decide +kernel⟩
theorem qm_L_84 : Cond.methodLink RL 84 yX11_light ∈ gw := tbt (tb4 (List.mem_of_getElem? (i := 49) rfl)) rfl
theorem qc_X12_light : Cond.code yX12_light cX12_light 5 (some .int) ∈ gw := tbt (tb7 (List.mem_of_getElem? (i := 120) rfl)) rfl
theorem qi_yX12_light : Cond.instanceMethod yX12_light ∈ gw := tbt (tb7 (List.mem_of_getElem? (i := 118) rfl)) rfl
theorem qs_X12_light : Cond.selects (yX12_light).cls yX12_light yX12_light ∈ gw := tbt (tb7 (List.mem_of_getElem? (i := 119) rfl)) rfl
theorem ci_X12_light : CIv yX12_light cX12_light 5 (some .int) 4 := ⟨qc_X12_light, qi_yX12_light, qs_X12_light, qz_X12, by decide +kernel⟩
theorem qm_L_88 : Cond.methodLink RL 88 yX12_light ∈ gw := tbt (tb7 (List.mem_of_getElem? (i := 117) rfl)) rfl
theorem dL_law_658 : decode cL_law 658 = .ok (.aload_n 1, 1) := fq1_43 (fl_10 (j := 18) rfl rfl)
theorem dL_law_659 : decode cL_law 659 = .ok (.aload_n 0, 1) := fq1_42 (fl_10 (j := 19) rfl rfl)
theorem dL_law_660 : decode cL_law 660 = .ok (.iload_n 3, 1) := fq1_29 (fl_10 (j := 20) rfl rfl)
theorem dL_law_661 : decode cL_law 661 = .ok (.iconst 1, 1) := fq1_4 (fl_10 (j := 21) rfl rfl)
theorem dL_law_662 : decode cL_law 662 = .ok (.iadd, 1) := fq1_96 (fl_10 (j := 22) rfl rfl)
theorem dL_law_663 : decode cL_law 663 = .ok (.iaload, 1) := fq1_46 (fl_10 (j := 23) rfl rfl)
theorem dL_law_664 : decode cL_law 664 = .ok (.invokevirtual 54, 3) := fq3_182 (fl_10 (j := 24) rfl rfl) (fl_10 (j := 25) rfl rfl) (fl_10 (j := 26) rfl rfl) rfl
theorem dL_law_667 : decode cL_law 667 = .ok (.pop, 1) := fq1_87 (fl_10 (j := 27) rfl rfl)
theorem dL_law_668 : decode cL_law 668 = .ok (.aload_n 2, 1) := fq1_44 (fl_10 (j := 28) rfl rfl)
theorem dL_law_669 : decode cL_law 669 = .ok (.aload_n 0, 1) := fq1_42 (fl_10 (j := 29) rfl rfl)
theorem dL_law_670 : decode cL_law 670 = .ok (.iload_n 3, 1) := fq1_29 (fl_10 (j := 30) rfl rfl)
theorem dL_law_671 : decode cL_law 671 = .ok (.iconst 1, 1) := fq1_4 (fl_10 (j := 31) rfl rfl)
theorem dL_law_672 : decode cL_law 672 = .ok (.iadd, 1) := fq1_96 (fl_10 (j := 32) rfl rfl)
theorem dL_law_673 : decode cL_law 673 = .ok (.iaload, 1) := fq1_46 (fl_10 (j := 33) rfl rfl)
theorem dL_law_674 : decode cL_law 674 = .ok (.invokevirtual 58, 3) := fq3_182 (fl_10 (j := 34) rfl rfl) (fl_10 (j := 35) rfl rfl) (fl_10 (j := 36) rfl rfl) rfl
theorem dL_law_677 : decode cL_law 677 = .ok (.pop, 1) := fq1_87 (fl_10 (j := 37) rfl rfl)
theorem dL_law_678 : decode cL_law 678 = .ok (.goto 2168, 3) := fq3_167 (fl_10 (j := 38) rfl rfl) (fl_10 (j := 39) rfl rfl) (fl_10 (j := 40) rfl rfl) (s2p rfl (bl rfl))
theorem dL_law_681 : decode cL_law 681 = .ok (.aload_n 1, 1) := fq1_43 (fl_10 (j := 41) rfl rfl)
theorem dL_law_682 : decode cL_law 682 = .ok (.aload_n 0, 1) := fq1_42 (fl_10 (j := 42) rfl rfl)
theorem dL_law_683 : decode cL_law 683 = .ok (.iload_n 3, 1) := fq1_29 (fl_10 (j := 43) rfl rfl)
theorem dL_law_684 : decode cL_law 684 = .ok (.iconst 1, 1) := fq1_4 (fl_10 (j := 44) rfl rfl)
theorem dL_law_685 : decode cL_law 685 = .ok (.iadd, 1) := fq1_96 (fl_10 (j := 45) rfl rfl)
theorem dL_law_686 : decode cL_law 686 = .ok (.iaload, 1) := fq1_46 (fl_10 (j := 46) rfl rfl)
theorem dL_law_687 : decode cL_law 687 = .ok (.invokevirtual 59, 3) := fq3_182 (fl_10 (j := 47) rfl rfl) (fl_10 (j := 48) rfl rfl) (fl_10 (j := 49) rfl rfl) rfl
theorem dL_law_690 : decode cL_law 690 = .ok (.pop, 1) := fq1_87 (fl_10 (j := 50) rfl rfl)
theorem dL_law_691 : decode cL_law 691 = .ok (.aload_n 2, 1) := fq1_44 (fl_10 (j := 51) rfl rfl)
theorem dL_law_692 : decode cL_law 692 = .ok (.aload_n 0, 1) := fq1_42 (fl_10 (j := 52) rfl rfl)
theorem dL_law_693 : decode cL_law 693 = .ok (.iload_n 3, 1) := fq1_29 (fl_10 (j := 53) rfl rfl)
theorem dL_law_694 : decode cL_law 694 = .ok (.iconst 1, 1) := fq1_4 (fl_10 (j := 54) rfl rfl)
theorem dL_law_695 : decode cL_law 695 = .ok (.iadd, 1) := fq1_96 (fl_10 (j := 55) rfl rfl)
theorem dL_law_696 : decode cL_law 696 = .ok (.iaload, 1) := fq1_46 (fl_10 (j := 56) rfl rfl)
theorem dL_law_697 : decode cL_law 697 = .ok (.invokevirtual 62, 3) := fq3_182 (fl_10 (j := 57) rfl rfl) (fl_10 (j := 58) rfl rfl) (fl_10 (j := 59) rfl rfl) rfl
theorem dL_law_700 : decode cL_law 700 = .ok (.pop, 1) := fq1_87 (fl_10 (j := 60) rfl rfl)
theorem dL_law_701 : decode cL_law 701 = .ok (.goto 2145, 3) := fq3_167 (fl_10 (j := 61) rfl rfl) (fl_10 (j := 62) rfl rfl) (fl_10 (j := 63) rfl rfl) (s2p rfl (bl rfl))
theorem dL_law_704 : decode cL_law 704 = .ok (.aload_n 1, 1) := fq1_43 (fl_11 (j := 0) rfl rfl)
theorem dL_law_705 : decode cL_law 705 = .ok (.aload_n 0, 1) := fq1_42 (fl_11 (j := 1) rfl rfl)
theorem dL_law_706 : decode cL_law 706 = .ok (.iload_n 3, 1) := fq1_29 (fl_11 (j := 2) rfl rfl)
theorem dL_law_707 : decode cL_law 707 = .ok (.iconst 1, 1) := fq1_4 (fl_11 (j := 3) rfl rfl)
theorem dL_law_708 : decode cL_law 708 = .ok (.iadd, 1) := fq1_96 (fl_11 (j := 4) rfl rfl)
theorem dL_law_709 : decode cL_law 709 = .ok (.iaload, 1) := fq1_46 (fl_11 (j := 5) rfl rfl)
theorem dL_law_710 : decode cL_law 710 = .ok (.invokevirtual 63, 3) := fq3_182 (fl_11 (j := 6) rfl rfl) (fl_11 (j := 7) rfl rfl) (fl_11 (j := 8) rfl rfl) rfl
theorem dL_law_713 : decode cL_law 713 = .ok (.pop, 1) := fq1_87 (fl_11 (j := 9) rfl rfl)
theorem dL_law_714 : decode cL_law 714 = .ok (.aload_n 2, 1) := fq1_44 (fl_11 (j := 10) rfl rfl)
theorem dL_law_715 : decode cL_law 715 = .ok (.aload_n 0, 1) := fq1_42 (fl_11 (j := 11) rfl rfl)
theorem dL_law_716 : decode cL_law 716 = .ok (.iload_n 3, 1) := fq1_29 (fl_11 (j := 12) rfl rfl)
theorem dL_law_717 : decode cL_law 717 = .ok (.iconst 1, 1) := fq1_4 (fl_11 (j := 13) rfl rfl)
theorem dL_law_718 : decode cL_law 718 = .ok (.iadd, 1) := fq1_96 (fl_11 (j := 14) rfl rfl)
theorem dL_law_719 : decode cL_law 719 = .ok (.iaload, 1) := fq1_46 (fl_11 (j := 15) rfl rfl)
theorem dL_law_720 : decode cL_law 720 = .ok (.invokevirtual 66, 3) := fq3_182 (fl_11 (j := 16) rfl rfl) (fl_11 (j := 17) rfl rfl) (fl_11 (j := 18) rfl rfl) rfl
theorem dL_law_723 : decode cL_law 723 = .ok (.pop, 1) := fq1_87 (fl_11 (j := 19) rfl rfl)
theorem dL_law_724 : decode cL_law 724 = .ok (.goto 2122, 3) := fq3_167 (fl_11 (j := 20) rfl rfl) (fl_11 (j := 21) rfl rfl) (fl_11 (j := 22) rfl rfl) (s2p rfl (bl rfl))
theorem dL_law_727 : decode cL_law 727 = .ok (.aload_n 1, 1) := fq1_43 (fl_11 (j := 23) rfl rfl)
theorem dL_law_728 : decode cL_law 728 = .ok (.aload_n 0, 1) := fq1_42 (fl_11 (j := 24) rfl rfl)
theorem dL_law_729 : decode cL_law 729 = .ok (.iload_n 3, 1) := fq1_29 (fl_11 (j := 25) rfl rfl)
theorem dL_law_730 : decode cL_law 730 = .ok (.iconst 1, 1) := fq1_4 (fl_11 (j := 26) rfl rfl)
theorem dL_law_731 : decode cL_law 731 = .ok (.iadd, 1) := fq1_96 (fl_11 (j := 27) rfl rfl)
theorem dL_law_732 : decode cL_law 732 = .ok (.iaload, 1) := fq1_46 (fl_11 (j := 28) rfl rfl)
theorem dL_law_733 : decode cL_law 733 = .ok (.invokevirtual 67, 3) := fq3_182 (fl_11 (j := 29) rfl rfl) (fl_11 (j := 30) rfl rfl) (fl_11 (j := 31) rfl rfl) rfl
theorem dL_law_736 : decode cL_law 736 = .ok (.aload_n 2, 1) := fq1_44 (fl_11 (j := 32) rfl rfl)
theorem dL_law_737 : decode cL_law 737 = .ok (.aload_n 0, 1) := fq1_42 (fl_11 (j := 33) rfl rfl)
theorem dL_law_738 : decode cL_law 738 = .ok (.iload_n 3, 1) := fq1_29 (fl_11 (j := 34) rfl rfl)
theorem dL_law_739 : decode cL_law 739 = .ok (.iconst 1, 1) := fq1_4 (fl_11 (j := 35) rfl rfl)
theorem dL_law_740 : decode cL_law 740 = .ok (.iadd, 1) := fq1_96 (fl_11 (j := 36) rfl rfl)
theorem dL_law_741 : decode cL_law 741 = .ok (.iaload, 1) := fq1_46 (fl_11 (j := 37) rfl rfl)
theorem dL_law_742 : decode cL_law 742 = .ok (.invokevirtual 70, 3) := fq3_182 (fl_11 (j := 38) rfl rfl) (fl_11 (j := 39) rfl rfl) (fl_11 (j := 40) rfl rfl) rfl
theorem dL_law_745 : decode cL_law 745 = .ok (.if_icmp .eq 2101, 3) := by decide +kernel
theorem dL_law_750 : decode cL_law 750 = .ok (.aload_n 1, 1) := fq1_43 (fl_11 (j := 46) rfl rfl)
theorem dL_law_751 : decode cL_law 751 = .ok (.aload_n 0, 1) := fq1_42 (fl_11 (j := 47) rfl rfl)
theorem dL_law_752 : decode cL_law 752 = .ok (.iload_n 3, 1) := fq1_29 (fl_11 (j := 48) rfl rfl)
theorem dL_law_753 : decode cL_law 753 = .ok (.iconst 1, 1) := fq1_4 (fl_11 (j := 49) rfl rfl)
theorem dL_law_754 : decode cL_law 754 = .ok (.iadd, 1) := fq1_96 (fl_11 (j := 50) rfl rfl)
theorem dL_law_755 : decode cL_law 755 = .ok (.iaload, 1) := fq1_46 (fl_11 (j := 51) rfl rfl)
theorem dL_law_756 : decode cL_law 756 = .ok (.aload_n 0, 1) := fq1_42 (fl_11 (j := 52) rfl rfl)
theorem dL_law_757 : decode cL_law 757 = .ok (.iload_n 3, 1) := fq1_29 (fl_11 (j := 53) rfl rfl)
theorem dL_law_758 : decode cL_law 758 = .ok (.iconst 2, 1) := fq1_5 (fl_11 (j := 54) rfl rfl)
theorem dL_law_759 : decode cL_law 759 = .ok (.iadd, 1) := fq1_96 (fl_11 (j := 55) rfl rfl)
theorem dL_law_760 : decode cL_law 760 = .ok (.iaload, 1) := fq1_46 (fl_11 (j := 56) rfl rfl)
theorem dL_law_761 : decode cL_law 761 = .ok (.invokevirtual 71, 3) := fq3_182 (fl_11 (j := 57) rfl rfl) (fl_11 (j := 58) rfl rfl) (fl_11 (j := 59) rfl rfl) rfl
theorem dL_law_764 : decode cL_law 764 = .ok (.pop, 1) := fq1_87 (fl_11 (j := 60) rfl rfl)
theorem dL_law_765 : decode cL_law 765 = .ok (.aload_n 2, 1) := fq1_44 (fl_11 (j := 61) rfl rfl)
theorem dL_law_766 : decode cL_law 766 = .ok (.aload_n 0, 1) := fq1_42 (fl_11 (j := 62) rfl rfl)
theorem dL_law_767 : decode cL_law 767 = .ok (.iload_n 3, 1) := fq1_29 (fl_11 (j := 63) rfl rfl)
theorem dL_law_768 : decode cL_law 768 = .ok (.iconst 1, 1) := fq1_4 (fl_12 (j := 0) rfl rfl)
theorem dL_law_769 : decode cL_law 769 = .ok (.iadd, 1) := fq1_96 (fl_12 (j := 1) rfl rfl)
theorem dL_law_770 : decode cL_law 770 = .ok (.iaload, 1) := fq1_46 (fl_12 (j := 2) rfl rfl)
theorem dL_law_771 : decode cL_law 771 = .ok (.aload_n 0, 1) := fq1_42 (fl_12 (j := 3) rfl rfl)
theorem dL_law_772 : decode cL_law 772 = .ok (.iload_n 3, 1) := fq1_29 (fl_12 (j := 4) rfl rfl)
theorem dL_law_773 : decode cL_law 773 = .ok (.iconst 2, 1) := fq1_5 (fl_12 (j := 5) rfl rfl)
theorem dL_law_774 : decode cL_law 774 = .ok (.iadd, 1) := fq1_96 (fl_12 (j := 6) rfl rfl)
theorem dL_law_775 : decode cL_law 775 = .ok (.iaload, 1) := fq1_46 (fl_12 (j := 7) rfl rfl)
theorem dL_law_776 : decode cL_law 776 = .ok (.invokevirtual 75, 3) := fq3_182 (fl_12 (j := 8) rfl rfl) (fl_12 (j := 9) rfl rfl) (fl_12 (j := 10) rfl rfl) rfl
theorem dL_law_779 : decode cL_law 779 = .ok (.pop, 1) := fq1_87 (fl_12 (j := 11) rfl rfl)
theorem dL_law_780 : decode cL_law 780 = .ok (.goto 2066, 3) := fq3_167 (fl_12 (j := 12) rfl rfl) (fl_12 (j := 13) rfl rfl) (fl_12 (j := 14) rfl rfl) (s2p rfl (bl rfl))
theorem dL_law_783 : decode cL_law 783 = .ok (.aload_n 1, 1) := fq1_43 (fl_12 (j := 15) rfl rfl)
theorem dL_law_784 : decode cL_law 784 = .ok (.aload_n 0, 1) := fq1_42 (fl_12 (j := 16) rfl rfl)
theorem dL_law_785 : decode cL_law 785 = .ok (.iload_n 3, 1) := fq1_29 (fl_12 (j := 17) rfl rfl)
theorem dL_law_786 : decode cL_law 786 = .ok (.iconst 1, 1) := fq1_4 (fl_12 (j := 18) rfl rfl)
theorem dL_law_787 : decode cL_law 787 = .ok (.iadd, 1) := fq1_96 (fl_12 (j := 19) rfl rfl)
theorem dL_law_788 : decode cL_law 788 = .ok (.iaload, 1) := fq1_46 (fl_12 (j := 20) rfl rfl)
theorem dL_law_789 : decode cL_law 789 = .ok (.aload_n 0, 1) := fq1_42 (fl_12 (j := 21) rfl rfl)
theorem dL_law_790 : decode cL_law 790 = .ok (.iload_n 3, 1) := fq1_29 (fl_12 (j := 22) rfl rfl)
theorem dL_law_791 : decode cL_law 791 = .ok (.iconst 2, 1) := fq1_5 (fl_12 (j := 23) rfl rfl)
theorem dL_law_792 : decode cL_law 792 = .ok (.iadd, 1) := fq1_96 (fl_12 (j := 24) rfl rfl)
theorem dL_law_793 : decode cL_law 793 = .ok (.iaload, 1) := fq1_46 (fl_12 (j := 25) rfl rfl)
theorem dL_law_794 : decode cL_law 794 = .ok (.invokevirtual 76, 3) := fq3_182 (fl_12 (j := 26) rfl rfl) (fl_12 (j := 27) rfl rfl) (fl_12 (j := 28) rfl rfl) rfl
theorem dL_law_797 : decode cL_law 797 = .ok (.pop, 1) := fq1_87 (fl_12 (j := 29) rfl rfl)
theorem dL_law_798 : decode cL_law 798 = .ok (.aload_n 2, 1) := fq1_44 (fl_12 (j := 30) rfl rfl)
theorem dL_law_799 : decode cL_law 799 = .ok (.aload_n 0, 1) := fq1_42 (fl_12 (j := 31) rfl rfl)
theorem dL_law_800 : decode cL_law 800 = .ok (.iload_n 3, 1) := fq1_29 (fl_12 (j := 32) rfl rfl)
theorem dL_law_801 : decode cL_law 801 = .ok (.iconst 1, 1) := fq1_4 (fl_12 (j := 33) rfl rfl)
theorem dL_law_802 : decode cL_law 802 = .ok (.iadd, 1) := fq1_96 (fl_12 (j := 34) rfl rfl)
theorem dL_law_803 : decode cL_law 803 = .ok (.iaload, 1) := fq1_46 (fl_12 (j := 35) rfl rfl)
theorem dL_law_804 : decode cL_law 804 = .ok (.aload_n 0, 1) := fq1_42 (fl_12 (j := 36) rfl rfl)
theorem dL_law_805 : decode cL_law 805 = .ok (.iload_n 3, 1) := fq1_29 (fl_12 (j := 37) rfl rfl)
theorem dL_law_806 : decode cL_law 806 = .ok (.iconst 2, 1) := fq1_5 (fl_12 (j := 38) rfl rfl)
theorem dL_law_807 : decode cL_law 807 = .ok (.iadd, 1) := fq1_96 (fl_12 (j := 39) rfl rfl)
theorem dL_law_808 : decode cL_law 808 = .ok (.iaload, 1) := fq1_46 (fl_12 (j := 40) rfl rfl)
theorem dL_law_809 : decode cL_law 809 = .ok (.invokevirtual 79, 3) := fq3_182 (fl_12 (j := 41) rfl rfl) (fl_12 (j := 42) rfl rfl) (fl_12 (j := 43) rfl rfl) rfl
theorem dL_law_812 : decode cL_law 812 = .ok (.pop, 1) := fq1_87 (fl_12 (j := 44) rfl rfl)
theorem dL_law_813 : decode cL_law 813 = .ok (.goto 2033, 3) := fq3_167 (fl_12 (j := 45) rfl rfl) (fl_12 (j := 46) rfl rfl) (fl_12 (j := 47) rfl rfl) (s2p rfl (bl rfl))
theorem dL_law_816 : decode cL_law 816 = .ok (.aload_n 1, 1) := fq1_43 (fl_12 (j := 48) rfl rfl)
theorem dL_law_817 : decode cL_law 817 = .ok (.aload_n 0, 1) := fq1_42 (fl_12 (j := 49) rfl rfl)
theorem dL_law_818 : decode cL_law 818 = .ok (.iload_n 3, 1) := fq1_29 (fl_12 (j := 50) rfl rfl)
theorem dL_law_819 : decode cL_law 819 = .ok (.iconst 1, 1) := fq1_4 (fl_12 (j := 51) rfl rfl)
theorem dL_law_820 : decode cL_law 820 = .ok (.iadd, 1) := fq1_96 (fl_12 (j := 52) rfl rfl)
theorem dL_law_821 : decode cL_law 821 = .ok (.iaload, 1) := fq1_46 (fl_12 (j := 53) rfl rfl)
theorem dL_law_822 : decode cL_law 822 = .ok (.aload_n 0, 1) := fq1_42 (fl_12 (j := 54) rfl rfl)
theorem dL_law_823 : decode cL_law 823 = .ok (.iload_n 3, 1) := fq1_29 (fl_12 (j := 55) rfl rfl)
theorem dL_law_824 : decode cL_law 824 = .ok (.iconst 2, 1) := fq1_5 (fl_12 (j := 56) rfl rfl)
theorem dL_law_825 : decode cL_law 825 = .ok (.iadd, 1) := fq1_96 (fl_12 (j := 57) rfl rfl)
theorem dL_law_826 : decode cL_law 826 = .ok (.iaload, 1) := fq1_46 (fl_12 (j := 58) rfl rfl)
theorem dL_law_827 : decode cL_law 827 = .ok (.invokevirtual 80, 3) := fq3_182 (fl_12 (j := 59) rfl rfl) (fl_12 (j := 60) rfl rfl) (fl_12 (j := 61) rfl rfl) rfl
theorem dL_law_830 : decode cL_law 830 = .ok (.pop, 1) := fq1_87 (fl_12 (j := 62) rfl rfl)
theorem dL_law_831 : decode cL_law 831 = .ok (.aload_n 2, 1) := fq1_44 (fl_12 (j := 63) rfl rfl)
theorem dL_law_832 : decode cL_law 832 = .ok (.aload_n 0, 1) := fq1_42 (fl_13 (j := 0) rfl rfl)
theorem dL_law_833 : decode cL_law 833 = .ok (.iload_n 3, 1) := fq1_29 (fl_13 (j := 1) rfl rfl)
theorem dL_law_834 : decode cL_law 834 = .ok (.iconst 1, 1) := fq1_4 (fl_13 (j := 2) rfl rfl)
theorem dL_law_835 : decode cL_law 835 = .ok (.iadd, 1) := fq1_96 (fl_13 (j := 3) rfl rfl)
theorem dL_law_836 : decode cL_law 836 = .ok (.iaload, 1) := fq1_46 (fl_13 (j := 4) rfl rfl)
theorem dL_law_837 : decode cL_law 837 = .ok (.aload_n 0, 1) := fq1_42 (fl_13 (j := 5) rfl rfl)
theorem dL_law_838 : decode cL_law 838 = .ok (.iload_n 3, 1) := fq1_29 (fl_13 (j := 6) rfl rfl)
theorem dL_law_839 : decode cL_law 839 = .ok (.iconst 2, 1) := fq1_5 (fl_13 (j := 7) rfl rfl)
theorem dL_law_840 : decode cL_law 840 = .ok (.iadd, 1) := fq1_96 (fl_13 (j := 8) rfl rfl)
theorem dL_law_841 : decode cL_law 841 = .ok (.iaload, 1) := fq1_46 (fl_13 (j := 9) rfl rfl)
theorem dL_law_842 : decode cL_law 842 = .ok (.invokevirtual 83, 3) := fq3_182 (fl_13 (j := 10) rfl rfl) (fl_13 (j := 11) rfl rfl) (fl_13 (j := 12) rfl rfl) rfl
theorem dL_law_845 : decode cL_law 845 = .ok (.pop, 1) := fq1_87 (fl_13 (j := 13) rfl rfl)
theorem dL_law_846 : decode cL_law 846 = .ok (.goto 2000, 3) := fq3_167 (fl_13 (j := 14) rfl rfl) (fl_13 (j := 15) rfl rfl) (fl_13 (j := 16) rfl rfl) (s2p rfl (bl rfl))
theorem dL_law_849 : decode cL_law 849 = .ok (.aload_n 1, 1) := fq1_43 (fl_13 (j := 17) rfl rfl)
theorem dL_law_850 : decode cL_law 850 = .ok (.aload_n 0, 1) := fq1_42 (fl_13 (j := 18) rfl rfl)
theorem dL_law_851 : decode cL_law 851 = .ok (.iload_n 3, 1) := fq1_29 (fl_13 (j := 19) rfl rfl)
theorem dL_law_852 : decode cL_law 852 = .ok (.iconst 1, 1) := fq1_4 (fl_13 (j := 20) rfl rfl)
theorem dL_law_853 : decode cL_law 853 = .ok (.iadd, 1) := fq1_96 (fl_13 (j := 21) rfl rfl)
theorem dL_law_854 : decode cL_law 854 = .ok (.iaload, 1) := fq1_46 (fl_13 (j := 22) rfl rfl)
theorem dL_law_855 : decode cL_law 855 = .ok (.aload_n 0, 1) := fq1_42 (fl_13 (j := 23) rfl rfl)
theorem dL_law_856 : decode cL_law 856 = .ok (.iload_n 3, 1) := fq1_29 (fl_13 (j := 24) rfl rfl)
theorem dL_law_857 : decode cL_law 857 = .ok (.iconst 2, 1) := fq1_5 (fl_13 (j := 25) rfl rfl)
theorem dL_law_858 : decode cL_law 858 = .ok (.iadd, 1) := fq1_96 (fl_13 (j := 26) rfl rfl)
theorem dL_law_859 : decode cL_law 859 = .ok (.iaload, 1) := fq1_46 (fl_13 (j := 27) rfl rfl)
theorem dL_law_860 : decode cL_law 860 = .ok (.aload_n 0, 1) := fq1_42 (fl_13 (j := 28) rfl rfl)
theorem dL_law_861 : decode cL_law 861 = .ok (.iload_n 3, 1) := fq1_29 (fl_13 (j := 29) rfl rfl)
theorem dL_law_862 : decode cL_law 862 = .ok (.iconst 3, 1) := fq1_6 (fl_13 (j := 30) rfl rfl)
theorem dL_law_863 : decode cL_law 863 = .ok (.iadd, 1) := fq1_96 (fl_13 (j := 31) rfl rfl)
theorem dL_law_864 : decode cL_law 864 = .ok (.iaload, 1) := fq1_46 (fl_13 (j := 32) rfl rfl)
theorem dL_law_865 : decode cL_law 865 = .ok (.aload_n 0, 1) := fq1_42 (fl_13 (j := 33) rfl rfl)
theorem dL_law_866 : decode cL_law 866 = .ok (.iload_n 3, 1) := fq1_29 (fl_13 (j := 34) rfl rfl)
theorem dL_law_867 : decode cL_law 867 = .ok (.iconst 4, 1) := fq1_7 (fl_13 (j := 35) rfl rfl)
theorem dL_law_868 : decode cL_law 868 = .ok (.iadd, 1) := fq1_96 (fl_13 (j := 36) rfl rfl)
theorem dL_law_869 : decode cL_law 869 = .ok (.iaload, 1) := fq1_46 (fl_13 (j := 37) rfl rfl)
theorem dL_law_870 : decode cL_law 870 = .ok (.invokevirtual 84, 3) := fq3_182 (fl_13 (j := 38) rfl rfl) (fl_13 (j := 39) rfl rfl) (fl_13 (j := 40) rfl rfl) rfl
theorem dL_law_873 : decode cL_law 873 = .ok (.pop, 1) := fq1_87 (fl_13 (j := 41) rfl rfl)
theorem dL_law_874 : decode cL_law 874 = .ok (.aload_n 2, 1) := fq1_44 (fl_13 (j := 42) rfl rfl)
theorem dL_law_875 : decode cL_law 875 = .ok (.aload_n 0, 1) := fq1_42 (fl_13 (j := 43) rfl rfl)
theorem dL_law_876 : decode cL_law 876 = .ok (.iload_n 3, 1) := fq1_29 (fl_13 (j := 44) rfl rfl)
theorem dL_law_877 : decode cL_law 877 = .ok (.iconst 1, 1) := fq1_4 (fl_13 (j := 45) rfl rfl)
theorem dL_law_878 : decode cL_law 878 = .ok (.iadd, 1) := fq1_96 (fl_13 (j := 46) rfl rfl)
theorem dL_law_879 : decode cL_law 879 = .ok (.iaload, 1) := fq1_46 (fl_13 (j := 47) rfl rfl)
theorem dL_law_880 : decode cL_law 880 = .ok (.aload_n 0, 1) := fq1_42 (fl_13 (j := 48) rfl rfl)
theorem dL_law_881 : decode cL_law 881 = .ok (.iload_n 3, 1) := fq1_29 (fl_13 (j := 49) rfl rfl)
theorem dL_law_882 : decode cL_law 882 = .ok (.iconst 2, 1) := fq1_5 (fl_13 (j := 50) rfl rfl)
theorem dL_law_883 : decode cL_law 883 = .ok (.iadd, 1) := fq1_96 (fl_13 (j := 51) rfl rfl)
theorem dL_law_884 : decode cL_law 884 = .ok (.iaload, 1) := fq1_46 (fl_13 (j := 52) rfl rfl)
theorem dL_law_885 : decode cL_law 885 = .ok (.aload_n 0, 1) := fq1_42 (fl_13 (j := 53) rfl rfl)
theorem dL_law_886 : decode cL_law 886 = .ok (.iload_n 3, 1) := fq1_29 (fl_13 (j := 54) rfl rfl)
theorem dL_law_887 : decode cL_law 887 = .ok (.iconst 3, 1) := fq1_6 (fl_13 (j := 55) rfl rfl)
theorem dL_law_888 : decode cL_law 888 = .ok (.iadd, 1) := fq1_96 (fl_13 (j := 56) rfl rfl)
theorem dL_law_889 : decode cL_law 889 = .ok (.iaload, 1) := fq1_46 (fl_13 (j := 57) rfl rfl)
theorem dL_law_890 : decode cL_law 890 = .ok (.aload_n 0, 1) := fq1_42 (fl_13 (j := 58) rfl rfl)
theorem dL_law_891 : decode cL_law 891 = .ok (.iload_n 3, 1) := fq1_29 (fl_13 (j := 59) rfl rfl)
theorem dL_law_892 : decode cL_law 892 = .ok (.iconst 4, 1) := fq1_7 (fl_13 (j := 60) rfl rfl)
theorem dL_law_893 : decode cL_law 893 = .ok (.iadd, 1) := fq1_96 (fl_13 (j := 61) rfl rfl)
theorem dL_law_894 : decode cL_law 894 = .ok (.iaload, 1) := fq1_46 (fl_13 (j := 62) rfl rfl)
theorem dL_law_895 : decode cL_law 895 = .ok (.invokevirtual 88, 3) := fq3_182 (fl_13 (j := 63) rfl rfl) (fl_14 (j := 0) rfl rfl) (fl_14 (j := 1) rfl rfl) rfl
theorem dL_law_898 : decode cL_law 898 = .ok (.pop, 1) := fq1_87 (fl_14 (j := 2) rfl rfl)
theorem dL_law_899 : decode cL_law 899 = .ok (.goto 1947, 3) := fq3_167 (fl_14 (j := 3) rfl rfl) (fl_14 (j := 4) rfl rfl) (fl_14 (j := 5) rfl rfl) (s2p rfl (bl rfl))
end

section
set_option maxHeartbeats 40000000 in
set_option maxRecDepth 100000 in
theorem law_c8 {p : Program} {e : Env} {s : State} {m : MethodId} {below : List Frame} {meth : Method} {c : Code} (l : Launch) {b L : Nat} {xs : Nat → Int32} {A : Nat → Prop} {D : va_G} {k : Nat → ClassId} {sa sv : Nat} {i : Int} (C : LFX p s m meth c b L xs A D k sa sv) (hi : 0 ≤ i ∧ i + 6 ≤ (L : Int)) (hk : LAT p l e s m below meth c b A D k 2846 i) : LAT p l e s m below meth c b A D k 658 i := by
  obtain ⟨hx, hb, hr, hml, hown, hts, hKK, hX, hbl, hbA, hA, hAf, hlocks, hSY, hRR, hL⟩ := id C
  intro a IA LA FA QA VA IB LB FB QB VB IC LC FC QC VC ID LD FD QD VD IR LR FR QR VR r H locs ls hI hRT hP hD hS hl
  have hK := hKK.1
  obtain ⟨hP, hD⟩ : PD D A ((GA k a IA LA FA QA VA r) ++ ((GB k a IB LB FB QB VB r) ++ ((GC k a IC LC FC QC VC r) ++ ((GD k a ID LD FD QD VD r) ++ ((GR k a IR LR FR QR VR r) ++ (r.tl)))))) H := ⟨hP, hD⟩
  obtain ⟨hWI, hWI_0, hWI_1, hWI_2, hrd, htr0, htr1, htr2, htr3, hrgk, hrgt, hdrc, hev, hmk, hM, hMK, hTI, hFS, htd, hlt, rgH, rgS, rgY, hdr, hit, hmmk, heq, htq, hrel, hbf, htb, hkw, hSK, hSK0, hSK1, hSK2, hNE, hNE0, hNE1, hNE2, hLE, hYE, hQE, hLE0, hLE1, hLE2, hYE0, hYE1, hYE2⟩ := id hI
  obtain ⟨gw1, gw2, gw3, gw4, gw5, gw6, gw7, gw8, gw9, gw10, gw11⟩ := id hWI
  have hx0 := gw9
  have hYI := gw11
  have hpf : rgI (FR 3) (-128) 127 900 := fun e h1 h2 => by rw [← htb e h1 h2]; exact hbf e h1 h2
  obtain ⟨z1, hz1, hz1a, hz1b⟩ := i32_z (xs (iZ (i + 1)).toNatClampNeg)
  obtain ⟨z2, hz2, hz2a, hz2b⟩ := i32_z (xs (iZ (i + 2)).toNatClampNeg)
  obtain ⟨z3, hz3, hz3a, hz3b⟩ := i32_z (xs (iZ (i + 3)).toNatClampNeg)
  obtain ⟨z4, hz4, hz4a, hz4b⟩ := i32_z (xs (iZ (i + 4)).toNatClampNeg)
  obtain ⟨z5, hz5, hz5a, hz5b⟩ := i32_z (xs (iZ (i + 5)).toNatClampNeg)
  have hl : lv_has ls 4 [(3, .int (iZ i)), (2, .ref (a 106)), (1, .ref (a 0)), (0, .ref b)] := hl
  have hls := hQE.1
  replace hls : _ := hls
  refine lv_aload_n hx hb dL_law_658 rfl (lv_at hl 2 rfl) ?_
  refine lv_aload_n hx hb dL_law_659 rfl (lv_at hl 3 rfl) ?_
  refine lv_iload_n hx hb dL_law_660 rfl (lv_at hl 0 rfl) ?_
  refine lv_iconst (v := iZ 1) hx hb dL_law_661 rfl ?_
  refine lv_iadd hx hb dL_law_662 ?_
  refine lv_topi (fun x_1 ex_1 => ?_)
  obtain rfl : x_1 = iZ (i + 1) := ex_1.trans (iZ_add i 1)
  refine va_sld hx hb hX hbl hbA hS (zi1 hi hL) dL_law_663 ?_
  refine lv_topi (fun x_2 ex_2 => ?_)
  obtain rfl : x_2 = iZ z1 := ex_2.trans hz1
  obtain ⟨hP, hD⟩ := PD.fr3 ⟨hP, hD⟩
  obtain ⟨hP, hD⟩ := PD.swap ⟨hP, hD⟩
  obtain ⟨hP, hD⟩ := PD.sa2 ⟨hP, hD⟩
  refine CKV2 (As := [.int (iZ z1)]) (rest := []) (tl := (GB k a IB LB FB QB VB r) ++ ((GD k a ID LD FD QD VD r) ++ ((GR k a IR LR FR QR VR r) ++ (r.tl)))) hx hb hml hown hts hKK hP hD hS hA (x_dsky l D k (a 0) (a 1) (a 2) (a 3) (a 4) (a 5) (a 6) (a 7) (a 8) (a 9) (a 10) (a 11) (IA 0) (IA 1) (IA 2) (LA 0) (LA 1) (a 98) (a 99) (a 38) (a 41) (a 42) (a 43) (a 39) (a 40) r.op (VC 0) r.vA r.vL (IC 9) (IC 11) (IC 12) (IC 13) (IC 14) (QC 1) (FC 2) (FC 3) (IC 0) (IC 1) (IC 2) (IC 3) (IC 4) (IC 5) (IC 6) (IC 7) (IC 8) (LC 0) (FC 0) (QC 0) (a 23) (a 26) (a 27) (a 28) (a 24) (a 29) (a 30) (a 31) (a 32) (a 25) (a 33) (a 34) (a 35) (a 36) (a 37) (IA 3) (IA 4) (IA 5) (IA 6) (IA 7) (IA 8) (IA 9) (IA 10) (IA 11) (QA 0) (FA 0) (FA 1) (FA 2) (FA 3) (FA 4) (FA 5) (FA 6) (FA 7) (FA 8) (FA 9) (FA 10) z1 (by first | with_reducible assumption | exact ⟨⟨by omega, by omega⟩, ⟨by omega, by omega⟩, ⟨by omega, by omega⟩, by omega, ⟨by omega, by omega⟩, ⟨by omega, by omega⟩, by omega, by omega⟩) hWI ⟨hz1a, hz1b⟩ hbf hkw) ci_X11_sky qm_L_54 ⟨Nat.le_of_ble_eq_true rfl, Nat.le_of_ble_eq_true rfl⟩ (lroom _) [0, 29, 26, 27, 28, 32, 33, 36, 37, 38, 1, 2, 5, 6, 7, 3, 8, 9, 10, 11, 4, 12, 13, 14, 15, 16, 17] [18, 19, 20, 21, 22, 23, 24, 25, 30, 31, 34, 35, 39, 40, 41, 42, 43, 44, 45, 46, 47] rfl rfl rfl (by decide +kernel) (by decide +kernel) (by decide +kernel) 0 rfl rfl rfl hl.1 rfl (Nat.le_of_ble_eq_true rfl) dL_law_664 (fun u_3 H locs hφ hP hD hS => ?_)
  obtain ⟨p_4, p_5, p_6, p_7, p_8, p_9, p_10⟩ : ((0 ≤ u_3.1.2.1 ∧ u_3.1.2.1 ≤ 900) ∧ (0 ≤ u_3.1.2.2.1 ∧ u_3.1.2.2.1 ≤ 900) ∧ (0 ≤ u_3.1.2.2.2.1 ∧ u_3.1.2.2.2.1 ≤ u_3.1.2.2.2.2.1) ∧ (u_3.1.2.2.2.2.1 ≤ u_3.1.2.2.1) ∧ (0 ≤ u_3.1.2.2.2.2.2.1 ∧ u_3.1.2.2.2.2.2.1 ≤ 4) ∧ (-2147483648 ≤ u_3.1.2.2.2.2.2.2.1 ∧ u_3.1.2.2.2.2.2.2.1 < 2147483648) ∧ (-1 ≤ u_3.1.2.2.2.2.2.2.2.1 ∧ u_3.1.2.2.2.2.2.2.2.1 ≤ 24)) ∧ (((0 ≤ z1 ∧ z1 ≤ (IC 0)) ∧ (u_3.1.2.1 : Int) = 0) ∨ (¬ (0 ≤ z1 ∧ z1 ≤ (IC 0)) ∧ u_3.1.2.1 = (IC 0))) ∧ (WI u_3.1.2.2.2.2.2.2.2.2.2.2.2.2.2.2.2.2.1 u_3.1.2.2.2.2.2.2.2.2.2.2.2.2.2.2.2.2.2.1 u_3.1.2.2.2.2.2.2.2.2.2.2.2.2.2.2.2.2.2.2.1 u_3.1.2.2.2.2.2.2.2.2.2.2.2.2.2.2.2.2.2.2.2.2.1 u_3.1.2.2.2.2.2.2.2.2.2.2.2.2.2.2.2.2.2.2.2.2.2.1 u_3.1.2.2.2.2.2.2.2.2.2.2.2.2.2.2.2.2.2.2.2.2.2.2.1 u_3.1.2.2.2.2.2.2.2.2.2.2.2.2.2.2.2.2.2.2.2.2.2.2.2.1 u_3.1.2.2.2.2.2.2.2.2.2.2.2.2.2.2.2.2.2.2.2.2.2.2.2.2 u_3.2.2.1.2.2.1 u_3.2.2.1.2.2.2.2.2.1 u_3.2.2.1.2.2.2.2.2.2.2.2.1 u_3.2.2.1.2.2.2.2.2.2.2.2.2.1 u_3.2.2.1.2.2.2.2.2.2.2.2.2.2.2.1 u_3.2.2.1.2.2.2.2.2.2.2.2.2.2.2.2) ∧ (((0 ≤ z1 ∧ z1 ≤ (IC 0)) ∧ u_3.1.1 = xSky (xAll (tX (FC 0) z1) 1000 0 xS0)) ∨ (¬ (0 ≤ z1 ∧ z1 ≤ (IC 0)) ∧ u_3.1.1 = -1)) ∧ (((0 ≤ z1 ∧ z1 ≤ (IC 0)) ∧ ∃ (q9 : Int) (s9 : XS), xAll (tX (FC 0) z1) 1000 0 xS0 = .inr (q9, s9) ∧ SKX s9 u_3.1.2.2.2.2.2.2.2.2.2.2.2.2.2.2.2.2.1 u_3.1.2.2.2.2.2.2.2.2.2.2.2.2.2.2.2.2.2.1 u_3.1.2.2.2.2.2.2.2.2.2.2.2.2.2.2.2.2.2.2.1 u_3.1.2.2.2.2.2.2.2.2.2.2.2.2.2.2.2.2.2.2.2.1 u_3.2.2.1.2.2.1 u_3.2.2.1.2.2.2.1 u_3.2.2.2.1.2 ∧ u_3.2.1.2.2 = 0) ∨ ((¬ (0 ≤ z1 ∧ z1 ≤ (IC 0)) ∨ ∃ e9 : Int × Int, xAll (tX (FC 0) z1) 1000 0 xS0 = .inl e9) ∧ (u_3.1.2.2.2.2.2.2.2.2.2.2.2.2.2.2.2.2.1 = (IA 3) ∧ u_3.1.2.2.2.2.2.2.2.2.2.2.2.2.2.2.2.2.2.1 = (IA 4) ∧ u_3.1.2.2.2.2.2.2.2.2.2.2.2.2.2.2.2.2.2.2.1 = (IA 5)) ∧ u_3.2.2.1.2.2.1 = (FA 0) ∧ u_3.2.2.1.2.2.2.1 = (FA 1) ∧ u_3.2.2.2.1.2 = (QA 0) ∧ u_3.2.1.2.2 = r.op)) ∧ (((0 ≤ z1 ∧ z1 ≤ (IC 0)) ∧ (∃ (q9 : Int) (s9 : XS), xAll (tX (FC 0) z1) 1000 0 xS0 = .inr (q9, s9)) ∧ (u_3.1.2.2.2.2.2.2.2.2.1 : Int) = 0 ∧ u_3.1.2.2.2.2.2.2.2.2.2.1 = -1) ∨ ((0 ≤ z1 ∧ z1 ≤ (IC 0)) ∧ ∃ e9 : Int × Int, xAll (tX (FC 0) z1) 1000 0 xS0 = .inl e9 ∧ u_3.1.2.2.2.2.2.2.2.2.1 = e9.1 ∧ u_3.1.2.2.2.2.2.2.2.2.2.1 = e9.2) ∨ (¬ (0 ≤ z1 ∧ z1 ≤ (IC 0)) ∧ u_3.1.2.2.2.2.2.2.2.2.1 = (IC 7) ∧ u_3.1.2.2.2.2.2.2.2.2.2.1 = (IC 8))) ∧ (((0 ≤ z1 ∧ z1 ≤ (IC 0)) ∧ (∃ (q9 : Int) (s9 : XS), xAll (tX (FC 0) z1) 1000 0 xS0 = .inr (q9, s9) ∧ gz u_3.2.2.1.2.2.2.2.1 0 = s9.2.2.2.1) ∧ u_3.1.2.2.2.2.2.2.2.2.2.2.2.2.2.2.2.2.2.2.2.2.1 = 0 ∧ u_3.1.2.2.2.2.2.2.2.2.2.2.2.2.2.2.2.2.2.2.2.2.2.1 = 0 ∧ u_3.1.2.2.2.2.2.2.2.2.2.2.2.2.2.2.2.2.2.2.2.2.2.2.1 = 0) ∨ ((¬ (0 ≤ z1 ∧ z1 ≤ (IC 0)) ∨ ∃ e9 : Int × Int, xAll (tX (FC 0) z1) 1000 0 xS0 = .inl e9) ∧ u_3.1.2.2.2.2.2.2.2.2.2.2.2.2.2.2.2.2.2.2.2.2.1 = (IA 7) ∧ u_3.1.2.2.2.2.2.2.2.2.2.2.2.2.2.2.2.2.2.2.2.2.2.1 = (IA 8) ∧ u_3.1.2.2.2.2.2.2.2.2.2.2.2.2.2.2.2.2.2.2.2.2.2.2.1 = (IA 9) ∧ u_3.1.2.2.2.2.2.2.2.2.2.2.2.2.2.2.2.2.2.2.2.2.2.2.2.2 = (IA 11) ∧ u_3.2.2.1.2.2.2.2.1 = (FA 2) ∧ u_3.2.2.1.2.2.2.2.2.1 = (FA 3) ∧ u_3.2.2.1.2.2.2.2.2.2.1 = (FA 4) ∧ u_3.2.2.1.2.2.2.2.2.2.2.1 = (FA 5) ∧ u_3.2.2.1.2.2.2.2.2.2.2.2.1 = (FA 6) ∧ u_3.2.2.1.2.2.2.2.2.2.2.2.2.1 = (FA 7) ∧ u_3.2.2.1.2.2.2.2.2.2.2.2.2.2.1 = (FA 8) ∧ u_3.2.2.1.2.2.2.2.2.2.2.2.2.2.2.1 = (FA 9) ∧ u_3.2.2.1.2.2.2.2.2.2.2.2.2.2.2.2 = (FA 10))) := hφ
  have rtn_11 : (RT k) (RX u_3.2.2.1.2.2.1 u_3.2.2.1.2.2.2.1 u_3.1.2.2.2.2.2.2.2.2.2.2.2.2.2.2.2.2.1 u_3.1.2.2.2.2.2.2.2.2.2.2.2.2.2.2.2.2.2.1) (mkR r.b r.tl r.vA r.vL u_3.2.1.2.2) := by rcases p_8 with ⟨_, _, _, _, _, e9⟩ | ⟨_, ⟨e1, e2, e3⟩, e4, e5, e6, e7⟩; exact RT.op0 hRT e9 (fun fa fl => RX.zero _ _ _ _ fa fl); rw [e1, e2, e4, e5]; exact RT.opk hRT e7
  obtain ⟨hP, hD⟩ := PD.by3 (is := [21, 31, 32, 36, 41, 33, 34, 35, 37, 38, 39, 40, 42, 43, 44, 45, 46, 47, 0, 1, 2, 3, 4, 5, 6, 7, 23, 24, 25, 22, 8, 9, 26, 27, 10, 11, 28, 29, 30, 12, 13, 14, 15, 16, 17, 18, 19, 20]) (y := (GA k a (fun i => [(IA 0), (IA 1), u_3.1.2.2.2.2.2.2.2.2.2.2.1, u_3.1.2.2.2.2.2.2.2.2.2.2.2.2.2.2.2.2.1, u_3.1.2.2.2.2.2.2.2.2.2.2.2.2.2.2.2.2.2.1, u_3.1.2.2.2.2.2.2.2.2.2.2.2.2.2.2.2.2.2.2.1, u_3.1.2.2.2.2.2.2.2.2.2.2.2.2.2.2.2.2.2.2.2.1, u_3.1.2.2.2.2.2.2.2.2.2.2.2.2.2.2.2.2.2.2.2.2.1, u_3.1.2.2.2.2.2.2.2.2.2.2.2.2.2.2.2.2.2.2.2.2.2.1, u_3.1.2.2.2.2.2.2.2.2.2.2.2.2.2.2.2.2.2.2.2.2.2.2.1, u_3.1.2.2.2.2.2.2.2.2.2.2.2.2.2.2.2.2.2.2.2.2.2.2.2.1, u_3.1.2.2.2.2.2.2.2.2.2.2.2.2.2.2.2.2.2.2.2.2.2.2.2.2, (IA 12), (IA 13), (IA 14), (IA 15), (IA 16), (IA 17), (IA 18)].getD i 0) LA (fun i => [u_3.2.2.1.2.2.1, u_3.2.2.1.2.2.2.1, u_3.2.2.1.2.2.2.2.1, u_3.2.2.1.2.2.2.2.2.1, u_3.2.2.1.2.2.2.2.2.2.1, u_3.2.2.1.2.2.2.2.2.2.2.1, u_3.2.2.1.2.2.2.2.2.2.2.2.1, u_3.2.2.1.2.2.2.2.2.2.2.2.2.1, u_3.2.2.1.2.2.2.2.2.2.2.2.2.2.1, u_3.2.2.1.2.2.2.2.2.2.2.2.2.2.2.1, u_3.2.2.1.2.2.2.2.2.2.2.2.2.2.2.2, (FA 11), (FA 12), (FA 13), (FA 14), (FA 15), (FA 16)].getD i (fun _ => 0)) (u9 QA 0 u_3.2.2.2.1.2) VA (mkR r.b r.tl r.vA r.vL u_3.2.1.2.2)) ++ ((GC k a (fun i => [u_3.1.2.1, u_3.1.2.2.1, u_3.1.2.2.2.1, u_3.1.2.2.2.2.1, u_3.1.2.2.2.2.2.1, u_3.1.2.2.2.2.2.2.1, u_3.1.2.2.2.2.2.2.2.1, u_3.1.2.2.2.2.2.2.2.2.1, u_3.1.2.2.2.2.2.2.2.2.2.1, u_3.1.2.2.2.2.2.2.2.2.2.2.2.1, (IC 10), u_3.1.2.2.2.2.2.2.2.2.2.2.2.2.1, u_3.1.2.2.2.2.2.2.2.2.2.2.2.2.2.1, u_3.1.2.2.2.2.2.2.2.2.2.2.2.2.2.2.1, u_3.1.2.2.2.2.2.2.2.2.2.2.2.2.2.2.2.1, (IC 15), (IC 16), (IC 17), (IC 18), (IC 19)].getD i 0) (u9 LC 0 u_3.2.1.2.1) (u9 (u9 FC 2 u_3.2.2.1.1) 3 u_3.2.2.1.2.1) (u9 QC 1 u_3.2.2.2.1.1) (u9 VC 0 u_3.2.2.2.2) (mkR r.b r.tl r.vA r.vL u_3.2.1.2.2)))) ⟨hP, hD⟩ (by decide +kernel) rfl rfl
  obtain ⟨hP, hD⟩ := PD.as2 ⟨hP, hD⟩
  refine W.eq (g2 := F0 m 667 ls [.int (iZ u_3.1.1)]) rfl ?_
  replace p_8 : Unit → _ := fun _ => p_8
  replace p_9 : Unit → _ := fun _ => p_9
  replace p_10 : Unit → _ := fun _ => p_10
  refine lv_pop hx hb dL_law_667 rfl ?_
  refine lv_aload_n hx hb dL_law_668 rfl (lv_at hl 1 rfl) ?_
  refine lv_aload_n hx hb dL_law_669 rfl (lv_at hl 3 rfl) ?_
  refine lv_iload_n hx hb dL_law_670 rfl (lv_at hl 0 rfl) ?_
  refine lv_iconst (v := iZ 1) hx hb dL_law_671 rfl ?_
  refine lv_iadd hx hb dL_law_672 ?_
  refine lv_topi (fun x_12 ex_12 => ?_)
  obtain rfl : x_12 = iZ (i + 1) := ex_12.trans (iZ_add i 1)
  refine va_sld hx hb hX hbl hbA hS (zi1 hi hL) dL_law_673 ?_
  refine lv_topi (fun x_13 ex_13 => ?_)
  obtain rfl : x_13 = iZ z1 := ex_13.trans hz1
  obtain ⟨hP, hD⟩ := PD.fr5 ⟨hP, hD⟩
  refine CKSV2 (As := [.int (iZ z1)]) (rest := []) (tl := (GA k a (fun i => [(IA 0), (IA 1), u_3.1.2.2.2.2.2.2.2.2.2.2.1, u_3.1.2.2.2.2.2.2.2.2.2.2.2.2.2.2.2.2.1, u_3.1.2.2.2.2.2.2.2.2.2.2.2.2.2.2.2.2.2.1, u_3.1.2.2.2.2.2.2.2.2.2.2.2.2.2.2.2.2.2.2.1, u_3.1.2.2.2.2.2.2.2.2.2.2.2.2.2.2.2.2.2.2.2.1, u_3.1.2.2.2.2.2.2.2.2.2.2.2.2.2.2.2.2.2.2.2.2.1, u_3.1.2.2.2.2.2.2.2.2.2.2.2.2.2.2.2.2.2.2.2.2.2.1, u_3.1.2.2.2.2.2.2.2.2.2.2.2.2.2.2.2.2.2.2.2.2.2.2.1, u_3.1.2.2.2.2.2.2.2.2.2.2.2.2.2.2.2.2.2.2.2.2.2.2.2.1, u_3.1.2.2.2.2.2.2.2.2.2.2.2.2.2.2.2.2.2.2.2.2.2.2.2.2, (IA 12), (IA 13), (IA 14), (IA 15), (IA 16), (IA 17), (IA 18)].getD i 0) LA (fun i => [u_3.2.2.1.2.2.1, u_3.2.2.1.2.2.2.1, u_3.2.2.1.2.2.2.2.1, u_3.2.2.1.2.2.2.2.2.1, u_3.2.2.1.2.2.2.2.2.2.1, u_3.2.2.1.2.2.2.2.2.2.2.1, u_3.2.2.1.2.2.2.2.2.2.2.2.1, u_3.2.2.1.2.2.2.2.2.2.2.2.2.1, u_3.2.2.1.2.2.2.2.2.2.2.2.2.2.1, u_3.2.2.1.2.2.2.2.2.2.2.2.2.2.2.1, u_3.2.2.1.2.2.2.2.2.2.2.2.2.2.2.2, (FA 11), (FA 12), (FA 13), (FA 14), (FA 15), (FA 16)].getD i (fun _ => 0)) (u9 QA 0 u_3.2.2.2.1.2) VA (mkR r.b r.tl r.vA r.vL u_3.2.1.2.2)) ++ ((GC k a (fun i => [u_3.1.2.1, u_3.1.2.2.1, u_3.1.2.2.2.1, u_3.1.2.2.2.2.1, u_3.1.2.2.2.2.2.1, u_3.1.2.2.2.2.2.2.1, u_3.1.2.2.2.2.2.2.2.1, u_3.1.2.2.2.2.2.2.2.2.1, u_3.1.2.2.2.2.2.2.2.2.2.1, u_3.1.2.2.2.2.2.2.2.2.2.2.2.1, (IC 10), u_3.1.2.2.2.2.2.2.2.2.2.2.2.2.1, u_3.1.2.2.2.2.2.2.2.2.2.2.2.2.2.1, u_3.1.2.2.2.2.2.2.2.2.2.2.2.2.2.2.1, u_3.1.2.2.2.2.2.2.2.2.2.2.2.2.2.2.2.1, (IC 15), (IC 16), (IC 17), (IC 18), (IC 19)].getD i 0) (u9 LC 0 u_3.2.1.2.1) (u9 (u9 FC 2 u_3.2.2.1.1) 3 u_3.2.2.1.2.1) (u9 QC 1 u_3.2.2.2.1.1) (u9 VC 0 u_3.2.2.2.2) (mkR r.b r.tl r.vA r.vL u_3.2.1.2.2)) ++ ((GB k a IB LB FB QB VB r) ++ ((GD k a ID LD FD QD VD r) ++ ((mkR r.b r.tl r.vA r.vL u_3.2.1.2.2).tl))))) hx hb hml hown hts hKK hP hD hS hA hSY hRR (y_sky l D k sa sv (a 106) (a 107) (a 108) (a 109) (a 110) (a 111) (a 112) (a 113) (a 114) (a 115) (a 116) (a 117) (a 118) (a 119) (a 120) (a 121) (a 122) (IR 0) (IR 1) (IR 2) (IR 3) (IR 4) (IR 5) (IR 6) (IR 7) (IR 8) (IR 9) (IR 10) (IR 11) (IR 12) (IR 13) (IR 14) (IR 15) (IR 16) (IR 17) (LR 0) (LR 1) (FR 0) (FR 3) (FR 4) (QR 0) z1 hM (by first | with_reducible assumption | exact ⟨⟨by omega, by omega⟩, ⟨by omega, by omega⟩, ⟨by omega, by omega⟩, by omega, by omega, by omega⟩) (by first | with_reducible assumption | omega) (by first | with_reducible assumption | omega) (by first | with_reducible assumption | omega) ⟨hz1a, hz1b⟩ hpf) ci_X12_sky qm_L_58 ⟨Nat.le_of_ble_eq_true rfl, Nat.le_of_ble_eq_true rfl⟩ (lroom _) [0, 1, 2, 6, 7] [3, 4, 5, 8, 9, 10, 11, 12, 13, 14, 15, 16] rfl rfl rfl (by decide +kernel) (by decide +kernel) (by decide +kernel) 0 rfl rfl rfl hl.1 rfl (Nat.le_of_ble_eq_true rfl) dL_law_674 (fun u_14 H locs hφ hP hD hS => ?_)
  obtain ⟨p_15, p_16, p_17, p_18, p_19, p_20, p_21, p_22, p_23⟩ : (M0 u_14.2.2.1.1) ∧ (∀ e : Int, 890 ≤ e → e < 3560 → gz u_14.2.2.1.1 e = gz (FR 0) e) ∧ ((0 ≤ (u_14.1.2.2.1 : Int) ∧ (u_14.1.2.2.1 : Int) ≤ u_14.1.2.2.2.1) ∧ ((u_14.1.2.2.2.1 : Int) ≤ u_14.1.2.2.2.2.2.2.2.1 ∧ (u_14.1.2.2.2.2.2.2.2.1 : Int) ≤ 900) ∧ (0 ≤ (u_14.1.2.1 : Int) ∧ (u_14.1.2.1 : Int) ≤ 4) ∧ ((u_14.1.2.1 : Int) ≤ 4 * (u_14.1.2.2.2.1 - u_14.1.2.2.1)) ∧ (-1 ≤ (u_14.1.2.2.2.2.1 : Int) ∧ (u_14.1.2.2.2.2.1 : Int) ≤ 100000)) ∧ ((0 ≤ (u_14.1.2.2.2.2.2.1 : Int) ∧ (u_14.1.2.2.2.2.2.1 : Int) ≤ 9) ∧ (((0 ≤ z1 ∧ z1 ≤ (IR 1)) ∧ (u_14.1.2.2.2.2.2.2.2.2.1 : Int) = 0) ∨ (¬ (0 ≤ z1 ∧ z1 ≤ (IR 1)) ∧ (u_14.1.2.2.2.2.2.2.2.2.1 : Int) = (IR 1))) ∧ ((u_14.1.2.2.2.2.2.2.2.2.2.2.2.2 : Int) = 0 ∨ (u_14.1.2.2.2.2.2.2.2.2.2.2.2.2 : Int) = 1)) ∧ (((0 ≤ z1 ∧ z1 ≤ (IR 1)) ∧ u_14.1.1 = xSky (xAll (tX (FR 3) z1) 1000 0 xS0)) ∨ (¬ (0 ≤ z1 ∧ z1 ≤ (IR 1)) ∧ u_14.1.1 = -1)) ∧ (((0 ≤ z1 ∧ z1 ≤ (IR 1)) ∧ ∃ (q9 : Int) (s9 : XS), xAll (tX (FR 3) z1) 1000 0 xS0 = .inr (q9, s9) ∧ SKM s9 u_14.2.2.1.1 0) ∨ ((¬ (0 ≤ z1 ∧ z1 ≤ (IR 1)) ∨ ∃ e9 : Int × Int, xAll (tX (FR 3) z1) 1000 0 xS0 = .inl e9) ∧ ∀ e : Int, 0 ≤ e → e < 890 → gz u_14.2.2.1.1 e = gz (FR 0) e)) ∧ ((((0 ≤ z1 ∧ z1 ≤ (IR 1)) ∧ ∃ (q9 : Int) (s9 : XS), xAll (tX (FR 3) z1) 1000 0 xS0 = .inr (q9, s9) ∧ xNr u_14.2.2.2 0 s9.2.2.2.2.2.2.2 s9.1) ∨ ((¬ (0 ≤ z1 ∧ z1 ≤ (IR 1)) ∨ ∃ e9 : Int × Int, xAll (tX (FR 3) z1) 1000 0 xS0 = .inl e9) ∧ ∀ e : Int, 0 ≤ e → e < 6 → u_14.2.2.2 e.toNat = (QR 0) e.toNat)) ∧ ∀ e : Int, 6 ≤ e → e < 24 → u_14.2.2.2 e.toNat = (QR 0) e.toNat) ∧ (((0 ≤ z1 ∧ z1 ≤ (IR 1)) ∧ (∃ (q9 : Int) (s9 : XS), xAll (tX (FR 3) z1) 1000 0 xS0 = .inr (q9, s9)) ∧ (u_14.1.2.2.2.2.2.2.2.2.2.2.1 : Int) = 0 ∧ u_14.1.2.2.2.2.2.2.1 = -1) ∨ ((0 ≤ z1 ∧ z1 ≤ (IR 1)) ∧ ∃ e9 : Int × Int, xAll (tX (FR 3) z1) 1000 0 xS0 = .inl e9 ∧ u_14.1.2.2.2.2.2.2.2.2.2.2.1 = e9.1 ∧ u_14.1.2.2.2.2.2.2.1 = e9.2) ∨ (¬ (0 ≤ z1 ∧ z1 ≤ (IR 1)) ∧ u_14.1.2.2.2.2.2.2.2.2.2.2.1 = (IR 7) ∧ u_14.1.2.2.2.2.2.2.1 = (IR 8))) ∧ (((0 ≤ z1 ∧ z1 ≤ (IR 1)) ∧ ∃ (q9 : Int) (s9 : XS), xAll (tX (FR 3) z1) 1000 0 xS0 = .inr (q9, s9) ∧ (gz u_14.2.2.1.1 3 = 0 ∧ gz u_14.2.2.1.1 4 = 0 ∧ gz u_14.2.2.1.1 5 = -1) ∧ gz u_14.2.2.1.1 118 = s9.2.2.2.1) ∨ (¬ (0 ≤ z1 ∧ z1 ≤ (IR 1)) ∨ ∃ e9 : Int × Int, xAll (tX (FR 3) z1) 1000 0 xS0 = .inl e9)) := hφ
  obtain ⟨hP, hD⟩ := PD.by3 (is := [12, 13, 14, 0, 1, 2, 15, 16, 3, 4, 5, 6, 7, 8, 9, 10, 11]) (y := (GR k a (fun i => [u_14.1.2.2.2.2.2.2.2.2.2.2.2.1, u_14.1.2.2.2.2.2.2.2.2.1, u_14.1.2.2.2.2.2.2.2.1, u_14.1.2.1, u_14.1.2.2.1, u_14.1.2.2.2.1, u_14.1.2.2.2.2.1, u_14.1.2.2.2.2.2.2.2.2.2.2.1, u_14.1.2.2.2.2.2.2.1, u_14.1.2.2.2.2.2.1, u_14.1.2.2.2.2.2.2.2.2.2.1, u_14.1.2.2.2.2.2.2.2.2.2.2.2.2, (IR 12), (IR 13), (IR 14), (IR 15), (IR 16), (IR 17)].getD i 0) LR (u9 (u9 FR 0 u_14.2.2.1.1) 4 u_14.2.2.1.2) (u9 QR 0 u_14.2.2.2) VR (mkR (mkR r.b r.tl r.vA r.vL u_3.2.1.2.2).b (mkR r.b r.tl r.vA r.vL u_3.2.1.2.2).tl (mkR r.b r.tl r.vA r.vL u_3.2.1.2.2).vA (mkR r.b r.tl r.vA r.vL u_3.2.1.2.2).vL u_3.2.1.2.2))) ⟨hP, hD⟩ (by decide +kernel) rfl rfl
  refine W.eq (g2 := F0 m 677 ls [.int (iZ u_14.1.1)]) rfl ?_
  replace p_20 : Unit → _ := fun _ => p_20
  replace p_21 : Unit → _ := fun _ => p_21
  replace p_22 : Unit → _ := fun _ => p_22
  replace p_23 : Unit → _ := fun _ => p_23
  refine lv_pop hx hb dL_law_677 rfl ?_
  refine lv_goto (tgt := 2846) hx hb dL_law_678 rfl ?_
  obtain ⟨hP, hD⟩ := PD.fr5 ⟨hP, hD⟩
  obtain ⟨hP, hD⟩ := PD.fr4 ⟨hP, hD⟩
  obtain ⟨hP, hD⟩ := PD.fr5 ⟨hP, hD⟩
  obtain ⟨hP, hD⟩ := PD.fr5 ⟨hP, hD⟩
  exact hk a (fun i => [(IA 0), (IA 1), u_3.1.2.2.2.2.2.2.2.2.2.2.1, u_3.1.2.2.2.2.2.2.2.2.2.2.2.2.2.2.2.2.1, u_3.1.2.2.2.2.2.2.2.2.2.2.2.2.2.2.2.2.2.1, u_3.1.2.2.2.2.2.2.2.2.2.2.2.2.2.2.2.2.2.2.1, u_3.1.2.2.2.2.2.2.2.2.2.2.2.2.2.2.2.2.2.2.2.1, u_3.1.2.2.2.2.2.2.2.2.2.2.2.2.2.2.2.2.2.2.2.2.1, u_3.1.2.2.2.2.2.2.2.2.2.2.2.2.2.2.2.2.2.2.2.2.2.1, u_3.1.2.2.2.2.2.2.2.2.2.2.2.2.2.2.2.2.2.2.2.2.2.2.1, u_3.1.2.2.2.2.2.2.2.2.2.2.2.2.2.2.2.2.2.2.2.2.2.2.2.1, u_3.1.2.2.2.2.2.2.2.2.2.2.2.2.2.2.2.2.2.2.2.2.2.2.2.2, (IA 12), (IA 13), (IA 14), (IA 15), (IA 16), (IA 17), (IA 18)].getD i 0) LA (fun i => [u_3.2.2.1.2.2.1, u_3.2.2.1.2.2.2.1, u_3.2.2.1.2.2.2.2.1, u_3.2.2.1.2.2.2.2.2.1, u_3.2.2.1.2.2.2.2.2.2.1, u_3.2.2.1.2.2.2.2.2.2.2.1, u_3.2.2.1.2.2.2.2.2.2.2.2.1, u_3.2.2.1.2.2.2.2.2.2.2.2.2.1, u_3.2.2.1.2.2.2.2.2.2.2.2.2.2.1, u_3.2.2.1.2.2.2.2.2.2.2.2.2.2.2.1, u_3.2.2.1.2.2.2.2.2.2.2.2.2.2.2.2, (FA 11), (FA 12), (FA 13), (FA 14), (FA 15), (FA 16)].getD i (fun _ => 0)) (u9 QA 0 u_3.2.2.2.1.2) VA IB LB FB QB VB (fun i => [u_3.1.2.1, u_3.1.2.2.1, u_3.1.2.2.2.1, u_3.1.2.2.2.2.1, u_3.1.2.2.2.2.2.1, u_3.1.2.2.2.2.2.2.1, u_3.1.2.2.2.2.2.2.2.1, u_3.1.2.2.2.2.2.2.2.2.1, u_3.1.2.2.2.2.2.2.2.2.2.1, u_3.1.2.2.2.2.2.2.2.2.2.2.2.1, (IC 10), u_3.1.2.2.2.2.2.2.2.2.2.2.2.2.1, u_3.1.2.2.2.2.2.2.2.2.2.2.2.2.2.1, u_3.1.2.2.2.2.2.2.2.2.2.2.2.2.2.2.1, u_3.1.2.2.2.2.2.2.2.2.2.2.2.2.2.2.2.1, (IC 15), (IC 16), (IC 17), (IC 18), (IC 19)].getD i 0) (u9 LC 0 u_3.2.1.2.1) (u9 (u9 FC 2 u_3.2.2.1.1) 3 u_3.2.2.1.2.1) (u9 QC 1 u_3.2.2.2.1.1) (u9 VC 0 u_3.2.2.2.2) ID LD FD QD VD (fun i => [u_14.1.2.2.2.2.2.2.2.2.2.2.2.1, u_14.1.2.2.2.2.2.2.2.2.1, u_14.1.2.2.2.2.2.2.2.1, u_14.1.2.1, u_14.1.2.2.1, u_14.1.2.2.2.1, u_14.1.2.2.2.2.1, u_14.1.2.2.2.2.2.2.2.2.2.2.1, u_14.1.2.2.2.2.2.2.1, u_14.1.2.2.2.2.2.1, u_14.1.2.2.2.2.2.2.2.2.2.1, u_14.1.2.2.2.2.2.2.2.2.2.2.2.2, (IR 12), (IR 13), (IR 14), (IR 15), (IR 16), (IR 17)].getD i 0) LR (u9 (u9 FR 0 u_14.2.2.1.1) 4 u_14.2.2.1.2) (u9 QR 0 u_14.2.2.2) VR (mkR (mkR (mkR r.b r.tl r.vA r.vL u_3.2.1.2.2).b (mkR r.b r.tl r.vA r.vL u_3.2.1.2.2).tl (mkR r.b r.tl r.vA r.vL u_3.2.1.2.2).vA (mkR r.b r.tl r.vA r.vL u_3.2.1.2.2).vL u_3.2.1.2.2).b (mkR (mkR r.b r.tl r.vA r.vL u_3.2.1.2.2).b (mkR r.b r.tl r.vA r.vL u_3.2.1.2.2).tl (mkR r.b r.tl r.vA r.vL u_3.2.1.2.2).vA (mkR r.b r.tl r.vA r.vL u_3.2.1.2.2).vL u_3.2.1.2.2).tl (mkR (mkR r.b r.tl r.vA r.vL u_3.2.1.2.2).b (mkR r.b r.tl r.vA r.vL u_3.2.1.2.2).tl (mkR r.b r.tl r.vA r.vL u_3.2.1.2.2).vA (mkR r.b r.tl r.vA r.vL u_3.2.1.2.2).vL u_3.2.1.2.2).vA (mkR (mkR r.b r.tl r.vA r.vL u_3.2.1.2.2).b (mkR r.b r.tl r.vA r.vL u_3.2.1.2.2).tl (mkR r.b r.tl r.vA r.vL u_3.2.1.2.2).vA (mkR r.b r.tl r.vA r.vL u_3.2.1.2.2).vL u_3.2.1.2.2).vL u_3.2.1.2.2) H locs ls (show INV _ _ _ _ _ _ _ _ _ _ _ _ _ _ _ from ⟨(show WI u_3.1.2.2.2.2.2.2.2.2.2.2.2.2.2.2.2.2.1 u_3.1.2.2.2.2.2.2.2.2.2.2.2.2.2.2.2.2.2.1 u_3.1.2.2.2.2.2.2.2.2.2.2.2.2.2.2.2.2.2.2.1 u_3.1.2.2.2.2.2.2.2.2.2.2.2.2.2.2.2.2.2.2.2.2.1 u_3.1.2.2.2.2.2.2.2.2.2.2.2.2.2.2.2.2.2.2.2.2.2.1 u_3.1.2.2.2.2.2.2.2.2.2.2.2.2.2.2.2.2.2.2.2.2.2.2.1 u_3.1.2.2.2.2.2.2.2.2.2.2.2.2.2.2.2.2.2.2.2.2.2.2.2.1 u_3.1.2.2.2.2.2.2.2.2.2.2.2.2.2.2.2.2.2.2.2.2.2.2.2.2 u_3.2.2.1.2.2.1 u_3.2.2.1.2.2.2.2.2.1 u_3.2.2.1.2.2.2.2.2.2.2.2.1 u_3.2.2.1.2.2.2.2.2.2.2.2.2.1 u_3.2.2.1.2.2.2.2.2.2.2.2.2.2.2.1 u_3.2.2.1.2.2.2.2.2.2.2.2.2.2.2.2 from (by first | with_reducible assumption | exact ⟨by omega, by omega, by omega, by omega, by omega, by omega, by omega, by omega, by first | exact gw9 | assumption, by first | exact gw10 | assumption, by first | exact gw11 | assumption⟩)), hWI_0, hWI_1, hWI_2, (show (0 ≤ u_3.1.2.1 ∧ u_3.1.2.1 ≤ 900) ∧ (0 ≤ u_3.1.2.2.1 ∧ u_3.1.2.2.1 ≤ 900) ∧ (0 ≤ u_3.1.2.2.2.1 ∧ u_3.1.2.2.2.1 ≤ u_3.1.2.2.2.2.1) ∧ (u_3.1.2.2.2.2.1 ≤ u_3.1.2.2.1) ∧ (0 ≤ u_3.1.2.2.2.2.2.1 ∧ u_3.1.2.2.2.2.2.1 ≤ 4) ∧ (-2147483648 ≤ u_3.1.2.2.2.2.2.2.1 ∧ u_3.1.2.2.2.2.2.2.1 < 2147483648) ∧ (-1 ≤ u_3.1.2.2.2.2.2.2.2.1 ∧ u_3.1.2.2.2.2.2.2.2.1 ≤ 24) from (by first | with_reducible assumption | exact ⟨⟨by omega, by omega⟩, ⟨by omega, by omega⟩, ⟨by omega, by omega⟩, by omega, ⟨by omega, by omega⟩, ⟨by omega, by omega⟩, by omega, by omega⟩)), htr0, htr1, htr2, htr3, hrgk, hrgt, hdrc, hev, hmk, (show M0 u_14.2.2.1.1 from (by assumption)), (show MK u_14.2.2.1.1 (IR 17) from MK.keep (by omega) hMK (fun e h1 h2 => p_16 e h1 h2)), (show (0 ≤ (u_14.1.2.2.1 : Int) ∧ (u_14.1.2.2.1 : Int) ≤ u_14.1.2.2.2.1) ∧ ((u_14.1.2.2.2.1 : Int) ≤ u_14.1.2.2.2.2.2.2.2.1 ∧ (u_14.1.2.2.2.2.2.2.2.1 : Int) ≤ 900) ∧ (0 ≤ (u_14.1.2.1 : Int) ∧ (u_14.1.2.1 : Int) ≤ 4) ∧ ((u_14.1.2.1 : Int) ≤ 4 * (u_14.1.2.2.2.1 - u_14.1.2.2.1)) ∧ (-1 ≤ (u_14.1.2.2.2.2.1 : Int) ∧ (u_14.1.2.2.2.2.1 : Int) ≤ 100000) from (by first | with_reducible assumption | exact (by first | with_reducible assumption | exact ⟨⟨by omega, by omega⟩, ⟨by omega, by omega⟩, ⟨by omega, by omega⟩, by omega, by omega, by omega⟩))), (show 0 ≤ u_14.1.2.2.2.2.2.1 ∧ u_14.1.2.2.2.2.2.1 ≤ 9 from (by first | with_reducible assumption | omega)), (show 0 ≤ u_14.1.2.2.2.2.2.2.2.2.1 ∧ u_14.1.2.2.2.2.2.2.2.2.1 ≤ 900 from (by first | with_reducible assumption | omega)), (show u_14.1.2.2.2.2.2.2.2.2.2.2.2.2 = 0 ∨ u_14.1.2.2.2.2.2.2.2.2.2.2.2.2 = 1 from (by first | with_reducible assumption | omega)), rgH, rgS, rgY, hdr, hit, hmmk, heq, (show u_3.1.2.1 = u_14.1.2.2.2.2.2.2.2.2.1 from (by first | with_reducible assumption | omega)), hrel, hbf, htb, hkw, (show SKE u_3.1.2.2.2.2.2.2.2.2.2.2.2.2.2.2.2.2.1 u_3.1.2.2.2.2.2.2.2.2.2.2.2.2.2.2.2.2.2.1 u_3.1.2.2.2.2.2.2.2.2.2.2.2.2.2.2.2.2.2.2.1 u_3.2.2.1.2.2.1 u_3.2.2.1.2.2.2.1 u_14.2.2.1.1 0 from SKE.sky hSK htq (fun h9 => by rw [tX_like (sz := z1) (fun e h1 h2 => htb e h1 (by omega))]) gw2.2 (p_8 ()) (p_20 ())), (show SKI 0 (IA 1) (ID 0) (ID 1) (ID 2) (FD 0) (FD 1) u_14.2.2.1.1 890 from fun h => SKE.keep (hSK0 h) (fun e p q => p_16 e (by omega) (by omega)) hWI_0.2.1.2), (show SKI 1 (IA 1) (ID 9) (ID 10) (ID 11) (FD 11) (FD 12) u_14.2.2.1.1 1780 from fun h => SKE.keep (hSK1 h) (fun e p q => p_16 e (by omega) (by omega)) hWI_1.2.1.2), (show SKI 2 (IA 1) (ID 18) (ID 19) (ID 20) (FD 22) (FD 23) u_14.2.2.1.1 2670 from fun h => SKE.keep (hSK2 h) (fun e p q => p_16 e (by omega) (by omega)) hWI_2.2.1.2), (show NME u_3.1.2.2.2.2.2.2.2.2.2.2.2.2.2.2.2.2.1 u_3.2.2.2.1.2 u_14.2.2.2 0 from NME.sky hNE htq (fun h9 => by rw [tX_like (sz := z1) (fun e h1 h2 => htb e h1 (by omega))]) gw1.2 (p_8 ()) (p_21 ())), (show NMI 0 (IA 1) (ID 0) (QD 0) u_14.2.2.2 6 from fun h => NME.keep (hNE0 h) (fun e p q => (p_21 ()).2 e (by omega) (by omega)) hWI_0.1.2), (show NMI 1 (IA 1) (ID 9) (QD 1) u_14.2.2.2 12 from fun h => NME.keep (hNE1 h) (fun e p q => (p_21 ()).2 e (by omega) (by omega)) hWI_1.1.2), (show NMI 2 (IA 1) (ID 18) (QD 2) u_14.2.2.2 18 from fun h => NME.keep (hNE2 h) (fun e p q => (p_21 ()).2 e (by omega) (by omega)) hWI_2.1.2), (show LFE u_3.1.2.2.2.2.2.2.2.2.2.2.2.2.2.2.2.2.1 u_3.1.2.2.2.2.2.2.2.2.2.2.2.2.2.2.2.2.2.1 u_3.1.2.2.2.2.2.2.2.2.2.2.2.2.2.2.2.2.2.2.2.2.1 u_3.1.2.2.2.2.2.2.2.2.2.2.2.2.2.2.2.2.2.2.2.2.2.1 u_3.2.2.1.2.2.1 u_3.2.2.1.2.2.2.1 u_3.2.2.1.2.2.2.2.1 u_3.2.2.1.2.2.2.2.2.1 u_3.2.2.1.2.2.2.2.2.2.1 u_3.2.2.1.2.2.2.2.2.2.2.1 u_14.2.2.1.1 0 from (LFE.sky hLE hYE htq (fun h9 => by rw [tX_like (sz := z1) (fun e h1 h2 => htb e h1 (by omega))]) gw4 gw5 (p_8 ()) (p_10 ()) (p_20 ()) (p_23 ())).1), (show YFE u_3.1.2.2.2.2.2.2.2.2.2.2.2.2.2.2.2.2.1 u_3.1.2.2.2.2.2.2.2.2.2.2.2.2.2.2.2.2.2.2.2.2.2.2.1 u_3.1.2.2.2.2.2.2.2.2.2.2.2.2.2.2.2.2.2.2.2.2.2.2.2.2 u_3.2.2.1.2.2.2.2.2.2.2.2.1 u_3.2.2.1.2.2.2.2.2.2.2.2.2.1 u_3.2.2.1.2.2.2.2.2.2.2.2.2.2.1 u_3.2.2.1.2.2.2.2.2.2.2.2.2.2.2.1 u_3.2.2.1.2.2.2.2.2.2.2.2.2.2.2.2 u_14.2.2.1.1 0 from (LFE.sky hLE hYE htq (fun h9 => by rw [tX_like (sz := z1) (fun e h1 h2 => htb e h1 (by omega))]) gw4 gw5 (p_8 ()) (p_10 ()) (p_20 ()) (p_23 ())).2), hQE, (show LFI 0 (IA 1) (ID 0) (ID 1) (ID 4) (ID 5) (FD 0) (FD 1) (FD 2) (FD 3) (FD 4) (FD 5) u_14.2.2.1.1 890 from (fun h => (hLE0 h).keep (by omega) hWI_0.2.2.2.1 hWI_0.2.2.2.2.1 (fun e p r => p_16 _ (by omega) (by omega)))), (show LFI 1 (IA 1) (ID 9) (ID 10) (ID 13) (ID 14) (FD 11) (FD 12) (FD 13) (FD 14) (FD 15) (FD 16) u_14.2.2.1.1 1780 from (fun h => (hLE1 h).keep (by omega) hWI_1.2.2.2.1 hWI_1.2.2.2.2.1 (fun e p r => p_16 _ (by omega) (by omega)))), (show LFI 2 (IA 1) (ID 18) (ID 19) (ID 22) (ID 23) (FD 22) (FD 23) (FD 24) (FD 25) (FD 26) (FD 27) u_14.2.2.1.1 2670 from (fun h => (hLE2 h).keep (by omega) hWI_2.2.2.2.1 hWI_2.2.2.2.2.1 (fun e p r => p_16 _ (by omega) (by omega)))), (show YFI 0 (IA 1) (ID 0) (ID 6) (ID 8) (FD 6) (FD 7) (FD 8) (FD 9) (FD 10) u_14.2.2.1.1 890 from (fun h => (hYE0 h).keep (fun e p r => p_16 _ (by omega) (by omega)))), (show YFI 1 (IA 1) (ID 9) (ID 15) (ID 17) (FD 17) (FD 18) (FD 19) (FD 20) (FD 21) u_14.2.2.1.1 1780 from (fun h => (hYE1 h).keep (fun e p r => p_16 _ (by omega) (by omega)))), (show YFI 2 (IA 1) (ID 18) (ID 24) (ID 26) (FD 28) (FD 29) (FD 30) (FD 31) (FD 32) u_14.2.2.1.1 2670 from (fun h => (hYE2 h).keep (fun e p r => p_16 _ (by omega) (by omega))))⟩) (RT.opk (RT.opk rtn_11 rfl) rfl) hP hD hS (lv_sub hl [0, 1, 2, 3] rfl)
set_option maxHeartbeats 40000000 in
set_option maxRecDepth 100000 in
theorem law_c9 {p : Program} {e : Env} {s : State} {m : MethodId} {below : List Frame} {meth : Method} {c : Code} (l : Launch) {b L : Nat} {xs : Nat → Int32} {A : Nat → Prop} {D : va_G} {k : Nat → ClassId} {sa sv : Nat} {i : Int} (C : LFX p s m meth c b L xs A D k sa sv) (hi : 0 ≤ i ∧ i + 6 ≤ (L : Int)) (hk : LAT p l e s m below meth c b A D k 2846 i) : LAT p l e s m below meth c b A D k 681 i := by
  obtain ⟨hx, hb, hr, hml, hown, hts, hKK, hX, hbl, hbA, hA, hAf, hlocks, hSY, hRR, hL⟩ := id C
  intro a IA LA FA QA VA IB LB FB QB VB IC LC FC QC VC ID LD FD QD VD IR LR FR QR VR r H locs ls hI hRT hP hD hS hl
  have hK := hKK.1
  obtain ⟨hP, hD⟩ : PD D A ((GA k a IA LA FA QA VA r) ++ ((GB k a IB LB FB QB VB r) ++ ((GC k a IC LC FC QC VC r) ++ ((GD k a ID LD FD QD VD r) ++ ((GR k a IR LR FR QR VR r) ++ (r.tl)))))) H := ⟨hP, hD⟩
  obtain ⟨hWI, hWI_0, hWI_1, hWI_2, hrd, htr0, htr1, htr2, htr3, hrgk, hrgt, hdrc, hev, hmk, hM, hMK, hTI, hFS, htd, hlt, rgH, rgS, rgY, hdr, hit, hmmk, heq, htq, hrel, hbf, htb, hkw, hSK, hSK0, hSK1, hSK2, hNE, hNE0, hNE1, hNE2, hLE, hYE, hQE, hLE0, hLE1, hLE2, hYE0, hYE1, hYE2⟩ := id hI
  obtain ⟨gw1, gw2, gw3, gw4, gw5, gw6, gw7, gw8, gw9, gw10, gw11⟩ := id hWI
  have hx0 := gw9
  have hYI := gw11
  have hpf : rgI (FR 3) (-128) 127 900 := fun e h1 h2 => by rw [← htb e h1 h2]; exact hbf e h1 h2
  obtain ⟨z1, hz1, hz1a, hz1b⟩ := i32_z (xs (iZ (i + 1)).toNatClampNeg)
  obtain ⟨z2, hz2, hz2a, hz2b⟩ := i32_z (xs (iZ (i + 2)).toNatClampNeg)
  obtain ⟨z3, hz3, hz3a, hz3b⟩ := i32_z (xs (iZ (i + 3)).toNatClampNeg)
  obtain ⟨z4, hz4, hz4a, hz4b⟩ := i32_z (xs (iZ (i + 4)).toNatClampNeg)
  obtain ⟨z5, hz5, hz5a, hz5b⟩ := i32_z (xs (iZ (i + 5)).toNatClampNeg)
  have hl : lv_has ls 4 [(3, .int (iZ i)), (2, .ref (a 106)), (1, .ref (a 0)), (0, .ref b)] := hl
  obtain ⟨NN, hnsC, hns0⟩ := id hNE
  obtain ⟨kz0, kz1, kz2⟩ := SKE.z hSK
  have hls := hQE.1
  replace hls : _ := hls
  refine lv_aload_n hx hb dL_law_681 rfl (lv_at hl 2 rfl) ?_
  refine lv_aload_n hx hb dL_law_682 rfl (lv_at hl 3 rfl) ?_
  refine lv_iload_n hx hb dL_law_683 rfl (lv_at hl 0 rfl) ?_
  refine lv_iconst (v := iZ 1) hx hb dL_law_684 rfl ?_
  refine lv_iadd hx hb dL_law_685 ?_
  refine lv_topi (fun x_1 ex_1 => ?_)
  obtain rfl : x_1 = iZ (i + 1) := ex_1.trans (iZ_add i 1)
  refine va_sld hx hb hX hbl hbA hS (zi1 hi hL) dL_law_686 ?_
  refine lv_topi (fun x_2 ex_2 => ?_)
  obtain rfl : x_2 = iZ z1 := ex_2.trans hz1
  obtain ⟨hP, hD⟩ := PD.fr3 ⟨hP, hD⟩
  obtain ⟨hP, hD⟩ := PD.swap ⟨hP, hD⟩
  obtain ⟨hP, hD⟩ := PD.sa2 ⟨hP, hD⟩
  refine CKV2 (As := [.int (iZ z1)]) (rest := []) (tl := (GB k a IB LB FB QB VB r) ++ ((GD k a ID LD FD QD VD r) ++ ((GR k a IR LR FR QR VR r) ++ (r.tl)))) hx hb hml hown hts hKK hP hD hS hA (x_years l D k (a 0) (a 1) (a 2) (a 3) (a 4) (a 5) (a 6) (a 7) (a 8) (a 9) (a 10) (a 11) (IA 0) (IA 1) (IA 2) (LA 0) (LA 1) (a 98) (a 99) (a 23) (a 26) (a 27) (a 28) (a 24) (a 100) (a 38) (a 39) (VC 1) (VC 2) (IC 10) (IA 3) (IA 4) (IA 5) (IA 6) (QA 0) (FC 1) (IC 0) (IC 1) (IC 2) (IC 3) (IC 4) (IC 5) (IC 6) (IC 7) (IC 8) (LC 0) (FC 0) (QC 0) (a 25) (a 33) (a 34) (a 35) (a 36) (a 37) (IA 9) (IA 10) (IA 11) (FA 6) (FA 7) (FA 8) (FA 9) (FA 10) (a 40) (a 48) (a 49) (a 50) (a 51) (a 52) (IC 17) (IC 18) (IC 19) (FC 8) (FC 9) (FC 10) (FC 11) (FC 12) z1 NN (by first | with_reducible assumption | exact ⟨⟨by omega, by omega⟩, ⟨by omega, by omega⟩, ⟨by omega, by omega⟩, by omega, ⟨by omega, by omega⟩, ⟨by omega, by omega⟩, by omega, by omega⟩) (by first | with_reducible assumption | omega) (by first | with_reducible assumption | omega) (by first | with_reducible assumption | omega) (by first | with_reducible assumption | omega) hYI ⟨hz1a, hz1b⟩ hbf hkw hnsC) ci_X11_years qm_L_59 ⟨Nat.le_of_ble_eq_true rfl, Nat.le_of_ble_eq_true rfl⟩ (lroom _) [0, 30, 31, 26, 27, 28, 32, 35, 43, 44, 45, 46, 47, 1, 4, 12, 13, 14, 15, 16, 2, 5] [3, 6, 7, 8, 9, 10, 11, 17, 18, 19, 20, 21, 22, 23, 24, 25, 29, 33, 34, 36, 37, 38, 39, 40, 41, 42] rfl rfl rfl (by decide +kernel) (by decide +kernel) (by decide +kernel) 0 rfl rfl rfl hl.1 rfl (Nat.le_of_ble_eq_true rfl) dL_law_687 (fun u_3 H locs hφ hP hD hS => ?_)
  obtain ⟨p_4, p_5, p_6, p_7, p_8⟩ : ((0 ≤ u_3.1.2.1 ∧ u_3.1.2.1 ≤ 900) ∧ (0 ≤ u_3.1.2.2.1 ∧ u_3.1.2.2.1 ≤ 900) ∧ (0 ≤ u_3.1.2.2.2.1 ∧ u_3.1.2.2.2.1 ≤ u_3.1.2.2.2.2.1) ∧ (u_3.1.2.2.2.2.1 ≤ u_3.1.2.2.1) ∧ (0 ≤ u_3.1.2.2.2.2.2.1 ∧ u_3.1.2.2.2.2.2.1 ≤ 4) ∧ (-2147483648 ≤ u_3.1.2.2.2.2.2.2.1 ∧ u_3.1.2.2.2.2.2.2.1 < 2147483648) ∧ (-1 ≤ u_3.1.2.2.2.2.2.2.2.1 ∧ u_3.1.2.2.2.2.2.2.2.1 ≤ 24)) ∧ (((0 ≤ z1 ∧ z1 ≤ (IC 0) ∧ z1 ≤ 300) ∧ (u_3.1.2.1 : Int) = 0) ∨ (¬ (0 ≤ z1 ∧ z1 ≤ (IC 0) ∧ z1 ≤ 300) ∧ u_3.1.2.1 = (IC 0))) ∧ ((u_3.1.2.2.2.2.2.2.2.2.2.2.2.2.2.2.2.1 = 0 ∨ u_3.1.2.2.2.2.2.2.2.2.2.2.2.2.2.2.2.1 = 1) ∧ (0 ≤ u_3.1.2.2.2.2.2.2.2.2.2.2.2.2.2.2.2.2.1 ∧ u_3.1.2.2.2.2.2.2.2.2.2.2.2.2.2.2.2.2.1 ≤ 30) ∧ (0 ≤ u_3.1.2.2.2.2.2.2.2.2.2.2.2.2.2.2.2.2.2 ∧ u_3.1.2.2.2.2.2.2.2.2.2.2.2.2.2.2.2.2.2 ≤ 60)) ∧ (YI u_3.2.2.1.2.2.2.2.2.2.1 u_3.2.2.1.2.2.2.2.2.2.2.1 u_3.2.2.1.2.2.2.2.2.2.2.2.2.1 u_3.2.2.1.2.2.2.2.2.2.2.2.2.2 (IA 3) u_3.1.2.2.2.2.2.2.2.2.2.2.2.2.2.2.2.2.2) ∧ (((0 ≤ z1 ∧ z1 ≤ (IC 0) ∧ z1 ≤ 300) ∧ ∃ s9 : YS_, xYrs (tX (FC 0) z1) NN (IA 3) = .inr s9 ∧ (YV_ (IA 3) s9 ∧ s9.2.2.1 = 0) ∧ yCM u_3.2.2.1.2.2.2.2.2.2.1 u_3.2.2.1.2.2.2.2.2.2.2.1 u_3.2.2.1.2.2.2.2.2.2.2.2.1 u_3.2.2.1.2.2.2.2.2.2.2.2.2.1 u_3.2.2.1.2.2.2.2.2.2.2.2.2.2 u_3.1.2.2.2.2.2.2.2.2.2.2.2.2.2.2.2.2.2 (pOf s9) ∧ u_3.1.2.2.2.2.2.2.2.2.2.2.2.2.2.2.2.1 = 1 ∧ u_3.1.1 = s9.2.1 ∧ (u_3.1.2.2.2.2.2.2.2.2.1 : Int) = 0 ∧ u_3.1.2.2.2.2.2.2.2.2.2.1 = -1) ∨ ((0 ≤ z1 ∧ z1 ≤ (IC 0) ∧ z1 ≤ 300) ∧ ∃ e9 : Int × Int, xYrs (tX (FC 0) z1) NN (IA 3) = .inl e9 ∧ (u_3.1.1 : Int) = -1 ∧ u_3.1.2.2.2.2.2.2.2.2.1 = e9.1 ∧ u_3.1.2.2.2.2.2.2.2.2.2.1 = e9.2 ∧ u_3.1.2.2.2.2.2.2.2.2.2.2.2.2.2.2.2.1 = (IA 9) ∧ u_3.1.2.2.2.2.2.2.2.2.2.2.2.2.2.2.2.2.1 = (IA 10) ∧ u_3.1.2.2.2.2.2.2.2.2.2.2.2.2.2.2.2.2.2 = (IA 11) ∧ u_3.2.2.1.2.2.2.2.2.2.1 = (FA 6) ∧ u_3.2.2.1.2.2.2.2.2.2.2.1 = (FA 7) ∧ u_3.2.2.1.2.2.2.2.2.2.2.2.1 = (FA 8) ∧ u_3.2.2.1.2.2.2.2.2.2.2.2.2.1 = (FA 9) ∧ u_3.2.2.1.2.2.2.2.2.2.2.2.2.2 = (FA 10)) ∨ (¬ (0 ≤ z1 ∧ z1 ≤ (IC 0) ∧ z1 ≤ 300) ∧ (u_3.1.1 : Int) = -1 ∧ u_3.1.2.2.2.2.2.2.2.2.1 = (IC 7) ∧ u_3.1.2.2.2.2.2.2.2.2.2.1 = (IC 8) ∧ u_3.1.2.2.2.2.2.2.2.2.2.2.2.2.2.2.2.1 = (IA 9) ∧ u_3.1.2.2.2.2.2.2.2.2.2.2.2.2.2.2.2.2.1 = (IA 10) ∧ u_3.1.2.2.2.2.2.2.2.2.2.2.2.2.2.2.2.2.2 = (IA 11) ∧ u_3.2.2.1.2.2.2.2.2.2.1 = (FA 6) ∧ u_3.2.2.1.2.2.2.2.2.2.2.1 = (FA 7) ∧ u_3.2.2.1.2.2.2.2.2.2.2.2.1 = (FA 8) ∧ u_3.2.2.1.2.2.2.2.2.2.2.2.2.1 = (FA 9) ∧ u_3.2.2.1.2.2.2.2.2.2.2.2.2.2 = (FA 10))) := hφ
  obtain ⟨hP, hD⟩ := PD.by3 (is := [26, 39, 46, 0, 40, 47, 1, 2, 3, 4, 5, 6, 41, 42, 43, 44, 45, 7, 8, 9, 10, 11, 12, 13, 14, 15, 29, 30, 31, 16, 27, 28, 32, 17, 18, 33, 19, 20, 21, 22, 23, 24, 25, 34, 35, 36, 37, 38]) (y := (GA k a (u9 (u9 (u9 (u9 IA 2 u_3.1.2.2.2.2.2.2.2.2.2.2.1) 9 u_3.1.2.2.2.2.2.2.2.2.2.2.2.2.2.2.2.1) 10 u_3.1.2.2.2.2.2.2.2.2.2.2.2.2.2.2.2.2.1) 11 u_3.1.2.2.2.2.2.2.2.2.2.2.2.2.2.2.2.2.2) LA (u9 (u9 (u9 (u9 (u9 FA 6 u_3.2.2.1.2.2.2.2.2.2.1) 7 u_3.2.2.1.2.2.2.2.2.2.2.1) 8 u_3.2.2.1.2.2.2.2.2.2.2.2.1) 9 u_3.2.2.1.2.2.2.2.2.2.2.2.2.1) 10 u_3.2.2.1.2.2.2.2.2.2.2.2.2.2) QA VA r) ++ ((GC k a (fun i => [u_3.1.2.1, u_3.1.2.2.1, u_3.1.2.2.2.1, u_3.1.2.2.2.2.1, u_3.1.2.2.2.2.2.1, u_3.1.2.2.2.2.2.2.1, u_3.1.2.2.2.2.2.2.2.1, u_3.1.2.2.2.2.2.2.2.2.1, u_3.1.2.2.2.2.2.2.2.2.2.1, (IC 9), u_3.1.2.2.2.2.2.2.2.2.2.2.2.1, (IC 11), (IC 12), (IC 13), (IC 14), (IC 15), (IC 16), u_3.1.2.2.2.2.2.2.2.2.2.2.2.2.1, u_3.1.2.2.2.2.2.2.2.2.2.2.2.2.2.1, u_3.1.2.2.2.2.2.2.2.2.2.2.2.2.2.2.1].getD i 0) (u9 LC 0 u_3.2.1.2) (u9 (u9 (u9 (u9 (u9 (u9 FC 1 u_3.2.2.1.1) 8 u_3.2.2.1.2.1) 9 u_3.2.2.1.2.2.1) 10 u_3.2.2.1.2.2.2.1) 11 u_3.2.2.1.2.2.2.2.1) 12 u_3.2.2.1.2.2.2.2.2.1) QC (u9 (u9 VC 1 u_3.2.2.2.2.1) 2 u_3.2.2.2.2.2) r))) ⟨hP, hD⟩ (by decide +kernel) rfl rfl
  obtain ⟨hP, hD⟩ := PD.as2 ⟨hP, hD⟩
  refine W.eq (g2 := F0 m 690 ls [.int (iZ u_3.1.1)]) rfl ?_
  replace p_8 : Unit → _ := fun _ => p_8
  refine lv_pop hx hb dL_law_690 rfl ?_
  refine lv_aload_n hx hb dL_law_691 rfl (lv_at hl 1 rfl) ?_
  refine lv_aload_n hx hb dL_law_692 rfl (lv_at hl 3 rfl) ?_
  refine lv_iload_n hx hb dL_law_693 rfl (lv_at hl 0 rfl) ?_
  refine lv_iconst (v := iZ 1) hx hb dL_law_694 rfl ?_
  refine lv_iadd hx hb dL_law_695 ?_
  refine lv_topi (fun x_9 ex_9 => ?_)
  obtain rfl : x_9 = iZ (i + 1) := ex_9.trans (iZ_add i 1)
  refine va_sld hx hb hX hbl hbA hS (zi1 hi hL) dL_law_696 ?_
  refine lv_topi (fun x_10 ex_10 => ?_)
  obtain rfl : x_10 = iZ z1 := ex_10.trans hz1
  obtain ⟨hP, hD⟩ := PD.fr5 ⟨hP, hD⟩
  refine CKSV2 (As := [.int (iZ z1)]) (rest := []) (tl := (GA k a (u9 (u9 (u9 (u9 IA 2 u_3.1.2.2.2.2.2.2.2.2.2.2.1) 9 u_3.1.2.2.2.2.2.2.2.2.2.2.2.2.2.2.2.1) 10 u_3.1.2.2.2.2.2.2.2.2.2.2.2.2.2.2.2.2.1) 11 u_3.1.2.2.2.2.2.2.2.2.2.2.2.2.2.2.2.2.2) LA (u9 (u9 (u9 (u9 (u9 FA 6 u_3.2.2.1.2.2.2.2.2.2.1) 7 u_3.2.2.1.2.2.2.2.2.2.2.1) 8 u_3.2.2.1.2.2.2.2.2.2.2.2.1) 9 u_3.2.2.1.2.2.2.2.2.2.2.2.2.1) 10 u_3.2.2.1.2.2.2.2.2.2.2.2.2.2) QA VA r) ++ ((GC k a (fun i => [u_3.1.2.1, u_3.1.2.2.1, u_3.1.2.2.2.1, u_3.1.2.2.2.2.1, u_3.1.2.2.2.2.2.1, u_3.1.2.2.2.2.2.2.1, u_3.1.2.2.2.2.2.2.2.1, u_3.1.2.2.2.2.2.2.2.2.1, u_3.1.2.2.2.2.2.2.2.2.2.1, (IC 9), u_3.1.2.2.2.2.2.2.2.2.2.2.2.1, (IC 11), (IC 12), (IC 13), (IC 14), (IC 15), (IC 16), u_3.1.2.2.2.2.2.2.2.2.2.2.2.2.1, u_3.1.2.2.2.2.2.2.2.2.2.2.2.2.2.1, u_3.1.2.2.2.2.2.2.2.2.2.2.2.2.2.2.1].getD i 0) (u9 LC 0 u_3.2.1.2) (u9 (u9 (u9 (u9 (u9 (u9 FC 1 u_3.2.2.1.1) 8 u_3.2.2.1.2.1) 9 u_3.2.2.1.2.2.1) 10 u_3.2.2.1.2.2.2.1) 11 u_3.2.2.1.2.2.2.2.1) 12 u_3.2.2.1.2.2.2.2.2.1) QC (u9 (u9 VC 1 u_3.2.2.2.2.1) 2 u_3.2.2.2.2.2) r) ++ ((GB k a IB LB FB QB VB r) ++ ((GD k a ID LD FD QD VD r) ++ (r.tl))))) hx hb hml hown hts hKK hP hD hS hA hSY hRR (y_years l D k sa sv (a 106) (a 107) (a 108) (a 109) (a 110) (a 111) (a 112) (a 113) (a 114) (a 115) (a 116) (a 117) (a 118) (a 119) (a 120) (a 121) (a 122) (IR 0) (IR 1) (IR 2) (IR 3) (IR 4) (IR 5) (IR 6) (IR 7) (IR 8) (IR 9) (IR 10) (IR 11) (IR 12) (IR 13) (IR 14) (IR 15) (IR 16) (IR 17) (LR 0) (LR 1) (FR 0) (FR 3) (FR 4) (FR 5) (QR 0) z1 (IA 3) NN hM (by first | with_reducible assumption | exact ⟨⟨by omega, by omega⟩, ⟨by omega, by omega⟩, ⟨by omega, by omega⟩, by omega, by omega, by omega⟩) (by first | with_reducible assumption | omega) (by first | with_reducible assumption | omega) ⟨hz1a, hz1b⟩ hpf ⟨by omega, by omega, by omega⟩ hns0) ci_X12_years qm_L_62 ⟨Nat.le_of_ble_eq_true rfl, Nat.le_of_ble_eq_true rfl⟩ (lroom _) [0, 1, 2, 6, 7, 8] [3, 4, 5, 9, 10, 11, 12, 13, 14, 15, 16] rfl rfl rfl (by decide +kernel) (by decide +kernel) (by decide +kernel) 0 rfl rfl rfl hl.1 rfl (Nat.le_of_ble_eq_true rfl) dL_law_697 (fun u_11 H locs hφ hP hD hS => ?_)
  obtain ⟨p_12, p_13, p_14, p_15, p_16, p_17⟩ : (M0 u_11.2.2.1.1) ∧ (∀ e : Int, 890 ≤ e → e < 3560 → gz u_11.2.2.1.1 e = gz (FR 0) e) ∧ ((0 ≤ (u_11.1.2.2.1 : Int) ∧ (u_11.1.2.2.1 : Int) ≤ u_11.1.2.2.2.1) ∧ ((u_11.1.2.2.2.1 : Int) ≤ u_11.1.2.2.2.2.2.2.2.1 ∧ (u_11.1.2.2.2.2.2.2.2.1 : Int) ≤ 900) ∧ (0 ≤ (u_11.1.2.1 : Int) ∧ (u_11.1.2.1 : Int) ≤ 4) ∧ ((u_11.1.2.1 : Int) ≤ 4 * (u_11.1.2.2.2.1 - u_11.1.2.2.1)) ∧ (-1 ≤ (u_11.1.2.2.2.2.1 : Int) ∧ (u_11.1.2.2.2.2.1 : Int) ≤ 100000)) ∧ ((0 ≤ (u_11.1.2.2.2.2.2.1 : Int) ∧ (u_11.1.2.2.2.2.2.1 : Int) ≤ 9) ∧ (((0 ≤ z1 ∧ z1 ≤ (IR 1) ∧ z1 ≤ 300) ∧ (u_11.1.2.2.2.2.2.2.2.2.1 : Int) = 0) ∨ (¬ (0 ≤ z1 ∧ z1 ≤ (IR 1) ∧ z1 ≤ 300) ∧ (u_11.1.2.2.2.2.2.2.2.2.1 : Int) = (IR 1)))) ∧ (∀ e : Int, 0 ≤ e → e < 520 → ¬ e = 5 → gz u_11.2.2.1.1 e = gz (FR 0) e) ∧ (((0 ≤ z1 ∧ z1 ≤ (IR 1) ∧ z1 ≤ 300) ∧ ∃ s9 : YS_, xYrs (tX (FR 3) z1) NN (IA 3) = .inr s9 ∧ (YV_ (IA 3) s9 ∧ s9.2.2.1 = 0) ∧ yRM u_11.2.2.1.1 0 (pOf s9) ∧ u_11.1.1 = s9.2.1 ∧ (u_11.1.2.2.2.2.2.2.2.2.2.2.1 : Int) = 0 ∧ u_11.1.2.2.2.2.2.2.1 = -1) ∨ ((0 ≤ z1 ∧ z1 ≤ (IR 1) ∧ z1 ≤ 300) ∧ ∃ e9 : Int × Int, xYrs (tX (FR 3) z1) NN (IA 3) = .inl e9 ∧ (u_11.1.1 : Int) = -1 ∧ u_11.1.2.2.2.2.2.2.2.2.2.2.1 = e9.1 ∧ u_11.1.2.2.2.2.2.2.1 = e9.2 ∧ ∀ e : Int, 0 ≤ e → e < 890 → gz u_11.2.2.1.1 e = gz (FR 0) e) ∨ (¬ (0 ≤ z1 ∧ z1 ≤ (IR 1) ∧ z1 ≤ 300) ∧ (u_11.1.1 : Int) = -1 ∧ u_11.1.2.2.2.2.2.2.2.2.2.2.1 = (IR 7) ∧ u_11.1.2.2.2.2.2.2.1 = (IR 8) ∧ ∀ e : Int, 0 ≤ e → e < 890 → gz u_11.2.2.1.1 e = gz (FR 0) e)) := hφ
  obtain ⟨hP, hD⟩ := PD.by3 (is := [11, 12, 13, 0, 1, 2, 14, 15, 16, 3, 4, 5, 6, 7, 8, 9, 10]) (y := (GR k a (fun i => [u_11.1.2.2.2.2.2.2.2.2.2.2.2.1, u_11.1.2.2.2.2.2.2.2.2.1, u_11.1.2.2.2.2.2.2.2.1, u_11.1.2.1, u_11.1.2.2.1, u_11.1.2.2.2.1, u_11.1.2.2.2.2.1, u_11.1.2.2.2.2.2.2.2.2.2.2.1, u_11.1.2.2.2.2.2.2.1, u_11.1.2.2.2.2.2.1, u_11.1.2.2.2.2.2.2.2.2.2.1, (IR 11), u_11.1.2.2.2.2.2.2.2.2.2.2.2.2.1, u_11.1.2.2.2.2.2.2.2.2.2.2.2.2.2, (IR 14), (IR 15), (IR 16), (IR 17)].getD i 0) LR (u9 (u9 (u9 FR 0 u_11.2.2.1.1) 4 u_11.2.2.1.2.1) 5 u_11.2.2.1.2.2) QR VR r)) ⟨hP, hD⟩ (by decide +kernel) rfl rfl
  refine W.eq (g2 := F0 m 700 ls [.int (iZ u_11.1.1)]) rfl ?_
  replace p_17 : Unit → _ := fun _ => p_17
  refine lv_pop hx hb dL_law_700 rfl ?_
  refine lv_goto (tgt := 2846) hx hb dL_law_701 rfl ?_
  obtain ⟨hP, hD⟩ := PD.fr5 ⟨hP, hD⟩
  obtain ⟨hP, hD⟩ := PD.fr4 ⟨hP, hD⟩
  obtain ⟨hP, hD⟩ := PD.fr5 ⟨hP, hD⟩
  obtain ⟨hP, hD⟩ := PD.fr5 ⟨hP, hD⟩
  exact hk a (u9 (u9 (u9 (u9 IA 2 u_3.1.2.2.2.2.2.2.2.2.2.2.1) 9 u_3.1.2.2.2.2.2.2.2.2.2.2.2.2.2.2.2.1) 10 u_3.1.2.2.2.2.2.2.2.2.2.2.2.2.2.2.2.2.1) 11 u_3.1.2.2.2.2.2.2.2.2.2.2.2.2.2.2.2.2.2) LA (u9 (u9 (u9 (u9 (u9 FA 6 u_3.2.2.1.2.2.2.2.2.2.1) 7 u_3.2.2.1.2.2.2.2.2.2.2.1) 8 u_3.2.2.1.2.2.2.2.2.2.2.2.1) 9 u_3.2.2.1.2.2.2.2.2.2.2.2.2.1) 10 u_3.2.2.1.2.2.2.2.2.2.2.2.2.2) QA VA IB LB FB QB VB (fun i => [u_3.1.2.1, u_3.1.2.2.1, u_3.1.2.2.2.1, u_3.1.2.2.2.2.1, u_3.1.2.2.2.2.2.1, u_3.1.2.2.2.2.2.2.1, u_3.1.2.2.2.2.2.2.2.1, u_3.1.2.2.2.2.2.2.2.2.1, u_3.1.2.2.2.2.2.2.2.2.2.1, (IC 9), u_3.1.2.2.2.2.2.2.2.2.2.2.2.1, (IC 11), (IC 12), (IC 13), (IC 14), (IC 15), (IC 16), u_3.1.2.2.2.2.2.2.2.2.2.2.2.2.1, u_3.1.2.2.2.2.2.2.2.2.2.2.2.2.2.1, u_3.1.2.2.2.2.2.2.2.2.2.2.2.2.2.2.1].getD i 0) (u9 LC 0 u_3.2.1.2) (u9 (u9 (u9 (u9 (u9 (u9 FC 1 u_3.2.2.1.1) 8 u_3.2.2.1.2.1) 9 u_3.2.2.1.2.2.1) 10 u_3.2.2.1.2.2.2.1) 11 u_3.2.2.1.2.2.2.2.1) 12 u_3.2.2.1.2.2.2.2.2.1) QC (u9 (u9 VC 1 u_3.2.2.2.2.1) 2 u_3.2.2.2.2.2) ID LD FD QD VD (fun i => [u_11.1.2.2.2.2.2.2.2.2.2.2.2.1, u_11.1.2.2.2.2.2.2.2.2.1, u_11.1.2.2.2.2.2.2.2.1, u_11.1.2.1, u_11.1.2.2.1, u_11.1.2.2.2.1, u_11.1.2.2.2.2.1, u_11.1.2.2.2.2.2.2.2.2.2.2.1, u_11.1.2.2.2.2.2.2.1, u_11.1.2.2.2.2.2.1, u_11.1.2.2.2.2.2.2.2.2.2.1, (IR 11), u_11.1.2.2.2.2.2.2.2.2.2.2.2.2.1, u_11.1.2.2.2.2.2.2.2.2.2.2.2.2.2, (IR 14), (IR 15), (IR 16), (IR 17)].getD i 0) LR (u9 (u9 (u9 FR 0 u_11.2.2.1.1) 4 u_11.2.2.1.2.1) 5 u_11.2.2.1.2.2) QR VR r H locs ls (show INV _ _ _ _ _ _ _ _ _ _ _ _ _ _ _ from ⟨(show WI (IA 3) (IA 4) (IA 5) (IA 7) (IA 8) u_3.1.2.2.2.2.2.2.2.2.2.2.2.2.2.2.2.1 u_3.1.2.2.2.2.2.2.2.2.2.2.2.2.2.2.2.2.1 u_3.1.2.2.2.2.2.2.2.2.2.2.2.2.2.2.2.2.2 (FA 0) (FA 3) u_3.2.2.1.2.2.2.2.2.2.1 u_3.2.2.1.2.2.2.2.2.2.2.1 u_3.2.2.1.2.2.2.2.2.2.2.2.2.1 u_3.2.2.1.2.2.2.2.2.2.2.2.2.2 from (by first | with_reducible assumption | exact ⟨by omega, by omega, by omega, by omega, by omega, by omega, by omega, by omega, by first | exact gw9 | assumption, by first | exact gw10 | assumption, by first | exact gw11 | assumption⟩)), hWI_0, hWI_1, hWI_2, (show (0 ≤ u_3.1.2.1 ∧ u_3.1.2.1 ≤ 900) ∧ (0 ≤ u_3.1.2.2.1 ∧ u_3.1.2.2.1 ≤ 900) ∧ (0 ≤ u_3.1.2.2.2.1 ∧ u_3.1.2.2.2.1 ≤ u_3.1.2.2.2.2.1) ∧ (u_3.1.2.2.2.2.1 ≤ u_3.1.2.2.1) ∧ (0 ≤ u_3.1.2.2.2.2.2.1 ∧ u_3.1.2.2.2.2.2.1 ≤ 4) ∧ (-2147483648 ≤ u_3.1.2.2.2.2.2.2.1 ∧ u_3.1.2.2.2.2.2.2.1 < 2147483648) ∧ (-1 ≤ u_3.1.2.2.2.2.2.2.2.1 ∧ u_3.1.2.2.2.2.2.2.2.1 ≤ 24) from (by first | with_reducible assumption | exact ⟨⟨by omega, by omega⟩, ⟨by omega, by omega⟩, ⟨by omega, by omega⟩, by omega, ⟨by omega, by omega⟩, ⟨by omega, by omega⟩, by omega, by omega⟩)), htr0, htr1, htr2, htr3, hrgk, hrgt, hdrc, hev, hmk, (show M0 u_11.2.2.1.1 from (by assumption)), (show MK u_11.2.2.1.1 (IR 17) from MK.keep (by omega) hMK (fun e h1 h2 => p_13 e h1 h2)), (show (0 ≤ (u_11.1.2.2.1 : Int) ∧ (u_11.1.2.2.1 : Int) ≤ u_11.1.2.2.2.1) ∧ ((u_11.1.2.2.2.1 : Int) ≤ u_11.1.2.2.2.2.2.2.2.1 ∧ (u_11.1.2.2.2.2.2.2.2.1 : Int) ≤ 900) ∧ (0 ≤ (u_11.1.2.1 : Int) ∧ (u_11.1.2.1 : Int) ≤ 4) ∧ ((u_11.1.2.1 : Int) ≤ 4 * (u_11.1.2.2.2.1 - u_11.1.2.2.1)) ∧ (-1 ≤ (u_11.1.2.2.2.2.1 : Int) ∧ (u_11.1.2.2.2.2.1 : Int) ≤ 100000) from (by first | with_reducible assumption | exact (by first | with_reducible assumption | exact ⟨⟨by omega, by omega⟩, ⟨by omega, by omega⟩, ⟨by omega, by omega⟩, by omega, by omega, by omega⟩))), (show 0 ≤ u_11.1.2.2.2.2.2.1 ∧ u_11.1.2.2.2.2.2.1 ≤ 9 from (by first | with_reducible assumption | omega)), (show 0 ≤ u_11.1.2.2.2.2.2.2.2.2.1 ∧ u_11.1.2.2.2.2.2.2.2.2.1 ≤ 900 from (by first | with_reducible assumption | omega)), hlt, rgH, rgS, rgY, hdr, hit, hmmk, heq, (show u_3.1.2.1 = u_11.1.2.2.2.2.2.2.2.2.1 from (by first | with_reducible assumption | omega)), hrel, hbf, htb, hkw, (show SKE (IA 3) (IA 4) (IA 5) (FA 0) (FA 1) u_11.2.2.1.1 0 from SKE.lo hSK (fun e h1 h2 => p_16 e h1 (by omega) (by omega)) gw2.2), (show SKI 0 (IA 1) (ID 0) (ID 1) (ID 2) (FD 0) (FD 1) u_11.2.2.1.1 890 from fun h => SKE.keep (hSK0 h) (fun e p q => p_13 e (by omega) (by omega)) hWI_0.2.1.2), (show SKI 1 (IA 1) (ID 9) (ID 10) (ID 11) (FD 11) (FD 12) u_11.2.2.1.1 1780 from fun h => SKE.keep (hSK1 h) (fun e p q => p_13 e (by omega) (by omega)) hWI_1.2.1.2), (show SKI 2 (IA 1) (ID 18) (ID 19) (ID 20) (FD 22) (FD 23) u_11.2.2.1.1 2670 from fun h => SKE.keep (hSK2 h) (fun e p q => p_13 e (by omega) (by omega)) hWI_2.2.1.2), hNE, hNE0, hNE1, hNE2, (show LFE (IA 3) (IA 4) (IA 7) (IA 8) (FA 0) (FA 1) (FA 2) (FA 3) (FA 4) (FA 5) u_11.2.2.1.1 0 from (hLE.yr gw4 gw5 p_16)), (show YFE (IA 3) u_3.1.2.2.2.2.2.2.2.2.2.2.2.2.2.2.2.1 u_3.1.2.2.2.2.2.2.2.2.2.2.2.2.2.2.2.2.2 u_3.2.2.1.2.2.2.2.2.2.1 u_3.2.2.1.2.2.2.2.2.2.2.1 u_3.2.2.1.2.2.2.2.2.2.2.2.1 u_3.2.2.1.2.2.2.2.2.2.2.2.2.1 u_3.2.2.1.2.2.2.2.2.2.2.2.2.2 u_11.2.2.1.1 0 from (YFE.years hYE htq (fun h9 => by rw [tX_like (sz := z1) (fun e h1 h2 => htb e h1 (by omega))]) (p_8 ()) (p_17 ()))), hQE, (show LFI 0 (IA 1) (ID 0) (ID 1) (ID 4) (ID 5) (FD 0) (FD 1) (FD 2) (FD 3) (FD 4) (FD 5) u_11.2.2.1.1 890 from (fun h => (hLE0 h).keep (by omega) hWI_0.2.2.2.1 hWI_0.2.2.2.2.1 (fun e p r => p_13 _ (by omega) (by omega)))), (show LFI 1 (IA 1) (ID 9) (ID 10) (ID 13) (ID 14) (FD 11) (FD 12) (FD 13) (FD 14) (FD 15) (FD 16) u_11.2.2.1.1 1780 from (fun h => (hLE1 h).keep (by omega) hWI_1.2.2.2.1 hWI_1.2.2.2.2.1 (fun e p r => p_13 _ (by omega) (by omega)))), (show LFI 2 (IA 1) (ID 18) (ID 19) (ID 22) (ID 23) (FD 22) (FD 23) (FD 24) (FD 25) (FD 26) (FD 27) u_11.2.2.1.1 2670 from (fun h => (hLE2 h).keep (by omega) hWI_2.2.2.2.1 hWI_2.2.2.2.2.1 (fun e p r => p_13 _ (by omega) (by omega)))), (show YFI 0 (IA 1) (ID 0) (ID 6) (ID 8) (FD 6) (FD 7) (FD 8) (FD 9) (FD 10) u_11.2.2.1.1 890 from (fun h => (hYE0 h).keep (fun e p r => p_13 _ (by omega) (by omega)))), (show YFI 1 (IA 1) (ID 9) (ID 15) (ID 17) (FD 17) (FD 18) (FD 19) (FD 20) (FD 21) u_11.2.2.1.1 1780 from (fun h => (hYE1 h).keep (fun e p r => p_13 _ (by omega) (by omega)))), (show YFI 2 (IA 1) (ID 18) (ID 24) (ID 26) (FD 28) (FD 29) (FD 30) (FD 31) (FD 32) u_11.2.2.1.1 2670 from (fun h => (hYE2 h).keep (fun e p r => p_13 _ (by omega) (by omega))))⟩) hRT hP hD hS (lv_sub hl [0, 1, 2, 3] rfl)
set_option maxHeartbeats 40000000 in
set_option maxRecDepth 100000 in
theorem law_c10 {p : Program} {e : Env} {s : State} {m : MethodId} {below : List Frame} {meth : Method} {c : Code} (l : Launch) {b L : Nat} {xs : Nat → Int32} {A : Nat → Prop} {D : va_G} {k : Nat → ClassId} {sa sv : Nat} {i : Int} (C : LFX p s m meth c b L xs A D k sa sv) (hi : 0 ≤ i ∧ i + 6 ≤ (L : Int)) (hk : LAT p l e s m below meth c b A D k 2846 i) : LAT p l e s m below meth c b A D k 704 i := by
  obtain ⟨hx, hb, hr, hml, hown, hts, hKK, hX, hbl, hbA, hA, hAf, hlocks, hSY, hRR, hL⟩ := id C
  intro a IA LA FA QA VA IB LB FB QB VB IC LC FC QC VC ID LD FD QD VD IR LR FR QR VR r H locs ls hI hRT hP hD hS hl
  have hK := hKK.1
  obtain ⟨hP, hD⟩ : PD D A ((GA k a IA LA FA QA VA r) ++ ((GB k a IB LB FB QB VB r) ++ ((GC k a IC LC FC QC VC r) ++ ((GD k a ID LD FD QD VD r) ++ ((GR k a IR LR FR QR VR r) ++ (r.tl)))))) H := ⟨hP, hD⟩
  obtain ⟨hWI, hWI_0, hWI_1, hWI_2, hrd, htr0, htr1, htr2, htr3, hrgk, hrgt, hdrc, hev, hmk, hM, hMK, hTI, hFS, htd, hlt, rgH, rgS, rgY, hdr, hit, hmmk, heq, htq, hrel, hbf, htb, hkw, hSK, hSK0, hSK1, hSK2, hNE, hNE0, hNE1, hNE2, hLE, hYE, hQE, hLE0, hLE1, hLE2, hYE0, hYE1, hYE2⟩ := id hI
  obtain ⟨gw1, gw2, gw3, gw4, gw5, gw6, gw7, gw8, gw9, gw10, gw11⟩ := id hWI
  have hx0 := gw9
  have hYI := gw11
  have hpf : rgI (FR 3) (-128) 127 900 := fun e h1 h2 => by rw [← htb e h1 h2]; exact hbf e h1 h2
  obtain ⟨z1, hz1, hz1a, hz1b⟩ := i32_z (xs (iZ (i + 1)).toNatClampNeg)
  obtain ⟨z2, hz2, hz2a, hz2b⟩ := i32_z (xs (iZ (i + 2)).toNatClampNeg)
  obtain ⟨z3, hz3, hz3a, hz3b⟩ := i32_z (xs (iZ (i + 3)).toNatClampNeg)
  obtain ⟨z4, hz4, hz4a, hz4b⟩ := i32_z (xs (iZ (i + 4)).toNatClampNeg)
  obtain ⟨z5, hz5, hz5a, hz5b⟩ := i32_z (xs (iZ (i + 5)).toNatClampNeg)
  have hl : lv_has ls 4 [(3, .int (iZ i)), (2, .ref (a 106)), (1, .ref (a 0)), (0, .ref b)] := hl
  have hls := hQE.1
  replace hls : _ := hls
  refine lv_aload_n hx hb dL_law_704 rfl (lv_at hl 2 rfl) ?_
  refine lv_aload_n hx hb dL_law_705 rfl (lv_at hl 3 rfl) ?_
  refine lv_iload_n hx hb dL_law_706 rfl (lv_at hl 0 rfl) ?_
  refine lv_iconst (v := iZ 1) hx hb dL_law_707 rfl ?_
  refine lv_iadd hx hb dL_law_708 ?_
  refine lv_topi (fun x_1 ex_1 => ?_)
  obtain rfl : x_1 = iZ (i + 1) := ex_1.trans (iZ_add i 1)
  refine va_sld hx hb hX hbl hbA hS (zi1 hi hL) dL_law_709 ?_
  refine lv_topi (fun x_2 ex_2 => ?_)
  obtain rfl : x_2 = iZ z1 := ex_2.trans hz1
  obtain ⟨hP, hD⟩ := PD.fr3 ⟨hP, hD⟩
  obtain ⟨hP, hD⟩ := PD.swap ⟨hP, hD⟩
  obtain ⟨hP, hD⟩ := PD.sa2 ⟨hP, hD⟩
  refine CKV2 (As := [.int (iZ z1)]) (rest := []) (tl := (GB k a IB LB FB QB VB r) ++ ((GD k a ID LD FD QD VD r) ++ ((GR k a IR LR FR QR VR r) ++ (r.tl)))) hx hb hml hown hts hKK hP hD hS hA (p_fault l D k (a 0) (a 1) (a 2) (a 3) (a 4) (a 5) (a 6) (a 7) (a 8) (a 9) (a 10) (a 11) (IA 0) (IA 1) (IA 2) (LA 0) (LA 1) (a 98) (a 99) (IC 0) (IC 1) (IC 2) (IC 3) (IC 4) (IC 5) (IC 6) (IC 7) (IC 8) (LC 0) (FC 0) (QC 0) z1 ⟨hz1a, hz1b⟩) ci_X11_fault qm_L_63 ⟨Nat.le_of_ble_eq_true rfl, Nat.le_of_ble_eq_true rfl⟩ (lroom _) [0, 26, 27, 28] [1, 2, 3, 4, 5, 6, 7, 8, 9, 10, 11, 12, 13, 14, 15, 16, 17, 18, 19, 20, 21, 22, 23, 24, 25, 29, 30, 31, 32, 33, 34, 35, 36, 37, 38, 39, 40, 41, 42, 43, 44, 45, 46, 47] rfl rfl rfl (by decide +kernel) (by decide +kernel) (by decide +kernel) 0 rfl rfl rfl hl.1 rfl (Nat.le_of_ble_eq_true rfl) dL_law_710 (fun u_3 H locs hφ hP hD hS => ?_)
  have p_4 : (z1 = 0 ∧ u_3.1 = (IC 7)) ∨ (z1 = 1 ∧ u_3.1 = (IC 8)) ∨ ((¬ z1 = 0 ∧ ¬ z1 = 1) ∧ (u_3.1 : Int) = -1) := hφ
  obtain ⟨hP, hD⟩ := PD.by3 (is := [44, 0, 1, 2, 3, 4, 5, 6, 7, 8, 9, 10, 11, 12, 13, 14, 15, 16, 17, 18, 19, 20, 21, 22, 23, 24, 45, 46, 47, 25, 26, 27, 28, 29, 30, 31, 32, 33, 34, 35, 36, 37, 38, 39, 40, 41, 42, 43]) (y := (GA k a IA LA FA QA VA r) ++ ((GC k a IC LC FC QC VC r))) ⟨hP, hD⟩ (by decide +kernel) rfl rfl
  obtain ⟨hP, hD⟩ := PD.as2 ⟨hP, hD⟩
  refine W.eq (g2 := F0 m 713 ls [.int (iZ u_3.1)]) rfl ?_
  refine lv_pop hx hb dL_law_713 rfl ?_
  refine lv_aload_n hx hb dL_law_714 rfl (lv_at hl 1 rfl) ?_
  refine lv_aload_n hx hb dL_law_715 rfl (lv_at hl 3 rfl) ?_
  refine lv_iload_n hx hb dL_law_716 rfl (lv_at hl 0 rfl) ?_
  refine lv_iconst (v := iZ 1) hx hb dL_law_717 rfl ?_
  refine lv_iadd hx hb dL_law_718 ?_
  refine lv_topi (fun x_5 ex_5 => ?_)
  obtain rfl : x_5 = iZ (i + 1) := ex_5.trans (iZ_add i 1)
  refine va_sld hx hb hX hbl hbA hS (zi1 hi hL) dL_law_719 ?_
  refine lv_topi (fun x_6 ex_6 => ?_)
  obtain rfl : x_6 = iZ z1 := ex_6.trans hz1
  obtain ⟨hP, hD⟩ := PD.fr5 ⟨hP, hD⟩
  refine CKV2 (As := [.int (iZ z1)]) (rest := []) (tl := (GA k a IA LA FA QA VA r) ++ ((GC k a IC LC FC QC VC r) ++ ((GB k a IB LB FB QB VB r) ++ ((GD k a ID LD FD QD VD r) ++ (r.tl))))) hx hb hml hown hts hKK hP hD hS hA (q_fault l D k (a 106) (a 107) (a 108) (a 109) (a 110) (a 111) (a 112) (a 113) (a 114) (a 115) (a 116) (a 117) (a 118) (a 119) (a 120) (a 121) (a 122) (IR 0) (IR 1) (IR 2) (IR 3) (IR 4) (IR 5) (IR 6) (IR 7) (IR 8) (IR 9) (IR 10) (IR 11) (IR 12) (IR 13) (IR 14) (IR 15) (IR 16) (IR 17) (LR 0) (LR 1) z1 ⟨hz1a, hz1b⟩) ci_X12_fault qm_L_66 ⟨Nat.le_of_ble_eq_true rfl, Nat.le_of_ble_eq_true rfl⟩ (lroom _) [0] [1, 2, 3, 4, 5, 6, 7, 8, 9, 10, 11, 12, 13, 14, 15, 16] rfl rfl rfl (by decide +kernel) (by decide +kernel) (by decide +kernel) 0 rfl rfl rfl hl.1 rfl (Nat.le_of_ble_eq_true rfl) dL_law_720 (fun u_7 H locs hφ hP hD hS => ?_)
  have p_8 : (z1 = 0 ∧ u_7.1 = (IR 7)) ∨ (z1 = 1 ∧ u_7.1 = (IR 8)) ∨ ((¬ z1 = 0 ∧ ¬ z1 = 1) ∧ (u_7.1 : Int) = -1) := hφ
  obtain ⟨hP, hD⟩ := PD.by3 (is := [16, 0, 1, 2, 3, 4, 5, 6, 7, 8, 9, 10, 11, 12, 13, 14, 15]) (y := (GR k a IR LR FR QR VR r)) ⟨hP, hD⟩ (by decide +kernel) rfl rfl
  refine W.eq (g2 := F0 m 723 ls [.int (iZ u_7.1)]) rfl ?_
  refine lv_pop hx hb dL_law_723 rfl ?_
  refine lv_goto (tgt := 2846) hx hb dL_law_724 rfl ?_
  obtain ⟨hP, hD⟩ := PD.fr5 ⟨hP, hD⟩
  obtain ⟨hP, hD⟩ := PD.fr4 ⟨hP, hD⟩
  obtain ⟨hP, hD⟩ := PD.fr5 ⟨hP, hD⟩
  obtain ⟨hP, hD⟩ := PD.fr5 ⟨hP, hD⟩
  exact hk a IA LA FA QA VA IB LB FB QB VB IC LC FC QC VC ID LD FD QD VD IR LR FR QR VR r H locs ls (show INV _ _ _ _ _ _ _ _ _ _ _ _ _ _ _ from ⟨hWI, hWI_0, hWI_1, hWI_2, hrd, htr0, htr1, htr2, htr3, hrgk, hrgt, hdrc, hev, hmk, hM, hMK, hTI, hFS, htd, hlt, rgH, rgS, rgY, hdr, hit, hmmk, heq, htq, hrel, hbf, htb, hkw, hSK, hSK0, hSK1, hSK2, hNE, hNE0, hNE1, hNE2, hLE, hYE, hQE, hLE0, hLE1, hLE2, hYE0, hYE1, hYE2⟩) hRT hP hD hS (lv_sub hl [0, 1, 2, 3] rfl)
set_option maxHeartbeats 40000000 in
set_option maxRecDepth 100000 in
theorem law_c11 {p : Program} {e : Env} {s : State} {m : MethodId} {below : List Frame} {meth : Method} {c : Code} (l : Launch) {b L : Nat} {xs : Nat → Int32} {A : Nat → Prop} {D : va_G} {k : Nat → ClassId} {sa sv : Nat} {i : Int} (C : LFX p s m meth c b L xs A D k sa sv) (hi : 0 ≤ i ∧ i + 6 ≤ (L : Int)) (hk : LAT p l e s m below meth c b A D k 2846 i) : LAT p l e s m below meth c b A D k 727 i := by
  obtain ⟨hx, hb, hr, hml, hown, hts, hKK, hX, hbl, hbA, hA, hAf, hlocks, hSY, hRR, hL⟩ := id C
  intro a IA LA FA QA VA IB LB FB QB VB IC LC FC QC VC ID LD FD QD VD IR LR FR QR VR r H locs ls hI hRT hP hD hS hl
  have hK := hKK.1
  obtain ⟨hP, hD⟩ : PD D A ((GA k a IA LA FA QA VA r) ++ ((GB k a IB LB FB QB VB r) ++ ((GC k a IC LC FC QC VC r) ++ ((GD k a ID LD FD QD VD r) ++ ((GR k a IR LR FR QR VR r) ++ (r.tl)))))) H := ⟨hP, hD⟩
  obtain ⟨hWI, hWI_0, hWI_1, hWI_2, hrd, htr0, htr1, htr2, htr3, hrgk, hrgt, hdrc, hev, hmk, hM, hMK, hTI, hFS, htd, hlt, rgH, rgS, rgY, hdr, hit, hmmk, heq, htq, hrel, hbf, htb, hkw, hSK, hSK0, hSK1, hSK2, hNE, hNE0, hNE1, hNE2, hLE, hYE, hQE, hLE0, hLE1, hLE2, hYE0, hYE1, hYE2⟩ := id hI
  obtain ⟨gw1, gw2, gw3, gw4, gw5, gw6, gw7, gw8, gw9, gw10, gw11⟩ := id hWI
  have hx0 := gw9
  have hYI := gw11
  have hpf : rgI (FR 3) (-128) 127 900 := fun e h1 h2 => by rw [← htb e h1 h2]; exact hbf e h1 h2
  obtain ⟨z1, hz1, hz1a, hz1b⟩ := i32_z (xs (iZ (i + 1)).toNatClampNeg)
  obtain ⟨z2, hz2, hz2a, hz2b⟩ := i32_z (xs (iZ (i + 2)).toNatClampNeg)
  obtain ⟨z3, hz3, hz3a, hz3b⟩ := i32_z (xs (iZ (i + 3)).toNatClampNeg)
  obtain ⟨z4, hz4, hz4a, hz4b⟩ := i32_z (xs (iZ (i + 4)).toNatClampNeg)
  obtain ⟨z5, hz5, hz5a, hz5b⟩ := i32_z (xs (iZ (i + 5)).toNatClampNeg)
  have hl : lv_has ls 4 [(3, .int (iZ i)), (2, .ref (a 106)), (1, .ref (a 0)), (0, .ref b)] := hl
  have hls := hQE.1
  replace hls : _ := hls
  refine lv_aload_n hx hb dL_law_727 rfl (lv_at hl 2 rfl) ?_
  refine lv_aload_n hx hb dL_law_728 rfl (lv_at hl 3 rfl) ?_
  refine lv_iload_n hx hb dL_law_729 rfl (lv_at hl 0 rfl) ?_
  refine lv_iconst (v := iZ 1) hx hb dL_law_730 rfl ?_
  refine lv_iadd hx hb dL_law_731 ?_
  refine lv_topi (fun x_1 ex_1 => ?_)
  obtain rfl : x_1 = iZ (i + 1) := ex_1.trans (iZ_add i 1)
  refine va_sld hx hb hX hbl hbA hS (zi1 hi hL) dL_law_732 ?_
  refine lv_topi (fun x_2 ex_2 => ?_)
  obtain rfl : x_2 = iZ z1 := ex_2.trans hz1
  refine CKV2 (As := [.int (iZ z1)]) (rest := []) (tl := (GB k a IB LB FB QB VB r) ++ ((GC k a IC LC FC QC VC r) ++ ((GD k a ID LD FD QD VD r) ++ ((GR k a IR LR FR QR VR r) ++ (r.tl))))) hx hb hml hown hts hKK hP hD hS hA (x_told l D k (a 0) (a 1) (a 2) (a 3) (a 4) (a 5) (a 6) (a 7) (a 8) (a 9) (a 10) (a 11) (IA 0) (IA 1) (IA 2) (LA 0) (LA 1) ([.ref (a 26), .ref (a 27), .ref (a 28), .int (iZ (IA 3)), .int (iZ (IA 4)), .int (iZ (IA 5)), .int (iZ (IA 6))]) (a 23) (a 27) (a 28) (a 24) (a 25) (IA 3) (IA 4) (IA 5) (FA 0) (FA 1) (a 29) (a 30) (a 31) (a 32) (IA 7) (IA 8) (FA 2) (FA 3) (FA 4) (FA 5) z1 rfl rfl rfl rfl rfl (by first | with_reducible assumption | omega) hx0 (by first | with_reducible assumption | omega) (by first | with_reducible assumption | omega) (by first | with_reducible assumption | omega) (by first | with_reducible assumption | omega) (by first | with_reducible assumption | omega) gw10 ⟨hz1a, hz1b⟩) ci_X11_told qm_L_67 ⟨Nat.le_of_ble_eq_true rfl, Nat.le_of_ble_eq_true rfl⟩ (lroom _) [0, 1, 3, 8, 9, 10, 11, 2, 6, 7] [4, 5, 12, 13, 14, 15, 16, 17, 18, 19, 20, 21, 22, 23, 24, 25] rfl rfl rfl (by decide +kernel) (by decide +kernel) (by decide +kernel) 0 rfl rfl rfl hl.1 rfl (Nat.le_of_ble_eq_true rfl) dL_law_733 (fun u_3 H locs hφ hP hD hS => ?_)
  have p_4 : (((0 ≤ z1 ∧ z1 ≤ 5)) ∧ ((z1 = 0 ∧ u_3.1.1 = (IA 3)) ∨ (z1 = 1 ∧ u_3.1.1 = (IA 4)) ∨ (z1 = 2 ∧ u_3.1.1 = (IA 5)) ∨ (z1 = 3 ∧ u_3.1.1 = (IA 7)) ∨ (z1 = 4 ∧ u_3.1.1 = (IA 8)) ∨ (z1 = 5 ∧ u_3.1.1 = gz (FA 2) (IA 7)))) ∨ (¬ ((0 ≤ z1 ∧ z1 ≤ 5)) ∧ (u_3.1.1 : Int) = -1) := hφ
  obtain ⟨hP, hD⟩ := PD.by3 (is := [16, 17, 23, 18, 0, 1, 24, 25, 19, 20, 21, 22, 2, 3, 4, 5, 6, 7, 8, 9, 10, 11, 12, 13, 14, 15]) (y := (GA k a (u9 IA 2 u_3.1.2) LA FA QA VA r)) ⟨hP, hD⟩ (by decide +kernel) rfl rfl
  refine W.eq (g2 := F0 m 736 ls [.int (iZ u_3.1.1)]) rfl ?_
  refine lv_aload_n hx hb dL_law_736 rfl (lv_at hl 1 rfl) ?_
  refine lv_aload_n hx hb dL_law_737 rfl (lv_at hl 3 rfl) ?_
  refine lv_iload_n hx hb dL_law_738 rfl (lv_at hl 0 rfl) ?_
  refine lv_iconst (v := iZ 1) hx hb dL_law_739 rfl ?_
  refine lv_iadd hx hb dL_law_740 ?_
  refine lv_topi (fun x_5 ex_5 => ?_)
  obtain rfl : x_5 = iZ (i + 1) := ex_5.trans (iZ_add i 1)
  refine va_sld hx hb hX hbl hbA hS (zi1 hi hL) dL_law_741 ?_
  refine lv_topi (fun x_6 ex_6 => ?_)
  obtain rfl : x_6 = iZ z1 := ex_6.trans hz1
  obtain ⟨hP, hD⟩ := PD.fr5 ⟨hP, hD⟩
  refine CKV2 (As := [.int (iZ z1)]) (rest := [.int (iZ u_3.1.1)]) (tl := (GA k a (u9 IA 2 u_3.1.2) LA FA QA VA r) ++ ((GB k a IB LB FB QB VB r) ++ ((GC k a IC LC FC QC VC r) ++ ((GD k a ID LD FD QD VD r) ++ (r.tl))))) hx hb hml hown hts hKK hP hD hS hA (r_told l D k (a 106) (a 107) (a 108) (a 109) (a 110) (a 111) (a 112) (a 113) (a 114) (a 115) (a 116) (a 117) (a 118) (a 119) (a 120) (a 121) (a 122) (IR 0) (IR 1) (IR 2) (IR 3) (IR 4) (IR 5) (IR 6) (IR 7) (IR 8) (IR 9) (IR 10) (IR 11) (IR 12) (IR 13) (IR 14) (IR 15) (IR 16) (IR 17) (LR 0) (LR 1) (FR 0) z1 hM ⟨hz1a, hz1b⟩) ci_X12_told qm_L_70 ⟨Nat.le_of_ble_eq_true rfl, Nat.le_of_ble_eq_true rfl⟩ (lroom _) [0, 1] [2, 3, 4, 5, 6, 7, 8, 9, 10, 11, 12, 13, 14, 15, 16] rfl rfl rfl (by decide +kernel) (by decide +kernel) (by decide +kernel) 0 rfl rfl rfl hl.1 rfl (Nat.le_of_ble_eq_true rfl) dL_law_742 (fun u_7 H locs hφ hP hD hS => ?_)
  have p_8 : (((0 ≤ z1 ∧ z1 ≤ 5)) ∧ ((z1 = 5 ∧ u_7.1.1 = gz (FR 0) (118 + gz (FR 0) 3)) ∨ (¬ z1 = 5 ∧ u_7.1.1 = gz (FR 0) z1))) ∨ (¬ ((0 ≤ z1 ∧ z1 ≤ 5)) ∧ (u_7.1.1 : Int) = -1) := hφ
  obtain ⟨hP, hD⟩ := PD.by3 (is := [15, 16, 0, 1, 2, 3, 4, 5, 6, 7, 8, 9, 10, 11, 12, 13, 14]) (y := (GR k a (u9 IR 0 u_7.1.2) LR FR QR VR r)) ⟨hP, hD⟩ (by decide +kernel) rfl rfl
  refine W.eq (g2 := F0 m 745 ls [.int (iZ u_7.1.1), .int (iZ u_3.1.1)]) rfl ?_
  obtain ⟨ka, kb, kc⟩ := SKE.z hSK
  have kr3 : gz (FR 0) 3 = (IA 7) := hLE.rg.1
  have kr4 : gz (FR 0) 4 = (IA 8) := hLE.rg.2
  have kE := (eR_ske hSK gw1.2)
  have kL := hLE.1.trans (rLb_0 _)
  refine lv_icmp_eq (tgt := 2846) hx hb dL_law_745 rfl (fun _ => ?_) (fun c_9 => absurd (congrArg iZ (show u_3.1.1 = u_7.1.1 from (td_two (SKE.z hSK) ⟨kr3, kr4⟩ (hLE.wn ⟨gw4.1, Int.le_refl _⟩) p_4 p_8))) c_9)
  obtain ⟨hP, hD⟩ := PD.fr5 ⟨hP, hD⟩
  obtain ⟨hP, hD⟩ := PD.fr5 ⟨hP, hD⟩
  obtain ⟨hP, hD⟩ := PD.fr5 ⟨hP, hD⟩
  obtain ⟨hP, hD⟩ := PD.fr5 ⟨hP, hD⟩
  exact hk a (u9 IA 2 u_3.1.2) LA FA QA VA IB LB FB QB VB IC LC FC QC VC ID LD FD QD VD (u9 IR 0 u_7.1.2) LR FR QR VR r H locs ls (show INV _ _ _ _ _ _ _ _ _ _ _ _ _ _ _ from ⟨hWI, hWI_0, hWI_1, hWI_2, hrd, htr0, htr1, htr2, htr3, hrgk, hrgt, hdrc, hev, hmk, hM, hMK, hTI, hFS, htd, hlt, rgH, rgS, rgY, hdr, hit, hmmk, heq, htq, hrel, hbf, htb, hkw, hSK, hSK0, hSK1, hSK2, hNE, hNE0, hNE1, hNE2, hLE, hYE, hQE, hLE0, hLE1, hLE2, hYE0, hYE1, hYE2⟩) hRT hP hD hS (lv_sub hl [0, 1, 2, 3] rfl)
set_option maxHeartbeats 40000000 in
set_option maxRecDepth 100000 in
theorem law_c12 {p : Program} {e : Env} {s : State} {m : MethodId} {below : List Frame} {meth : Method} {c : Code} (l : Launch) {b L : Nat} {xs : Nat → Int32} {A : Nat → Prop} {D : va_G} {k : Nat → ClassId} {sa sv : Nat} {i : Int} (C : LFX p s m meth c b L xs A D k sa sv) (hi : 0 ≤ i ∧ i + 6 ≤ (L : Int)) (hk : LAT p l e s m below meth c b A D k 2846 i) : LAT p l e s m below meth c b A D k 750 i := by
  obtain ⟨hx, hb, hr, hml, hown, hts, hKK, hX, hbl, hbA, hA, hAf, hlocks, hSY, hRR, hL⟩ := id C
  intro a IA LA FA QA VA IB LB FB QB VB IC LC FC QC VC ID LD FD QD VD IR LR FR QR VR r H locs ls hI hRT hP hD hS hl
  have hK := hKK.1
  obtain ⟨hP, hD⟩ : PD D A ((GA k a IA LA FA QA VA r) ++ ((GB k a IB LB FB QB VB r) ++ ((GC k a IC LC FC QC VC r) ++ ((GD k a ID LD FD QD VD r) ++ ((GR k a IR LR FR QR VR r) ++ (r.tl)))))) H := ⟨hP, hD⟩
  obtain ⟨hWI, hWI_0, hWI_1, hWI_2, hrd, htr0, htr1, htr2, htr3, hrgk, hrgt, hdrc, hev, hmk, hM, hMK, hTI, hFS, htd, hlt, rgH, rgS, rgY, hdr, hit, hmmk, heq, htq, hrel, hbf, htb, hkw, hSK, hSK0, hSK1, hSK2, hNE, hNE0, hNE1, hNE2, hLE, hYE, hQE, hLE0, hLE1, hLE2, hYE0, hYE1, hYE2⟩ := id hI
  obtain ⟨gw1, gw2, gw3, gw4, gw5, gw6, gw7, gw8, gw9, gw10, gw11⟩ := id hWI
  have hx0 := gw9
  have hYI := gw11
  have hpf : rgI (FR 3) (-128) 127 900 := fun e h1 h2 => by rw [← htb e h1 h2]; exact hbf e h1 h2
  obtain ⟨z1, hz1, hz1a, hz1b⟩ := i32_z (xs (iZ (i + 1)).toNatClampNeg)
  obtain ⟨z2, hz2, hz2a, hz2b⟩ := i32_z (xs (iZ (i + 2)).toNatClampNeg)
  obtain ⟨z3, hz3, hz3a, hz3b⟩ := i32_z (xs (iZ (i + 3)).toNatClampNeg)
  obtain ⟨z4, hz4, hz4a, hz4b⟩ := i32_z (xs (iZ (i + 4)).toNatClampNeg)
  obtain ⟨z5, hz5, hz5a, hz5b⟩ := i32_z (xs (iZ (i + 5)).toNatClampNeg)
  have hl : lv_has ls 4 [(3, .int (iZ i)), (2, .ref (a 106)), (1, .ref (a 0)), (0, .ref b)] := hl
  have hls := hQE.1
  replace hls : _ := hls
  refine lv_aload_n hx hb dL_law_750 rfl (lv_at hl 2 rfl) ?_
  refine lv_aload_n hx hb dL_law_751 rfl (lv_at hl 3 rfl) ?_
  refine lv_iload_n hx hb dL_law_752 rfl (lv_at hl 0 rfl) ?_
  refine lv_iconst (v := iZ 1) hx hb dL_law_753 rfl ?_
  refine lv_iadd hx hb dL_law_754 ?_
  refine lv_topi (fun x_1 ex_1 => ?_)
  obtain rfl : x_1 = iZ (i + 1) := ex_1.trans (iZ_add i 1)
  refine va_sld hx hb hX hbl hbA hS (zi1 hi hL) dL_law_755 ?_
  refine lv_topi (fun x_2 ex_2 => ?_)
  obtain rfl : x_2 = iZ z1 := ex_2.trans hz1
  refine lv_aload_n hx hb dL_law_756 rfl (lv_at hl 3 rfl) ?_
  refine lv_iload_n hx hb dL_law_757 rfl (lv_at hl 0 rfl) ?_
  refine lv_iconst (v := iZ 2) hx hb dL_law_758 rfl ?_
  refine lv_iadd hx hb dL_law_759 ?_
  refine lv_topi (fun x_3 ex_3 => ?_)
  obtain rfl : x_3 = iZ (i + 2) := ex_3.trans (iZ_add i 2)
  refine va_sld hx hb hX hbl hbA hS (zi2 hi hL) dL_law_760 ?_
  refine lv_topi (fun x_4 ex_4 => ?_)
  obtain rfl : x_4 = iZ z2 := ex_4.trans hz2
  refine CKV2 (As := [.int (iZ z1), .int (iZ z2)]) (rest := []) (tl := (GB k a IB LB FB QB VB r) ++ ((GC k a IC LC FC QC VC r) ++ ((GD k a ID LD FD QD VD r) ++ ((GR k a IR LR FR QR VR r) ++ (r.tl))))) hx hb hml hown hts hKK hP hD hS hA (p_rock l D k (a 0) (a 1) (a 2) (a 3) (a 4) (a 5) (a 6) (a 7) (a 8) (a 9) (a 10) (a 11) (IA 0) (IA 1) (IA 2) (LA 0) (LA 1) ([.ref (a 26), .ref (a 27), .ref (a 28), .int (iZ (IA 3)), .int (iZ (IA 4)), .int (iZ (IA 5)), .int (iZ (IA 6))]) (a 23) (a 27) (a 28) (a 24) (a 25) (IA 3) (IA 4) (IA 5) (FA 0) (FA 1) z1 z2 rfl rfl rfl rfl rfl (by first | with_reducible assumption | omega) hx0 (by first | with_reducible assumption | omega) (by first | with_reducible assumption | omega) (by first | with_reducible assumption | omega) ⟨hz1a, hz1b⟩ ⟨hz2a, hz2b⟩) ci_X11_rock qm_L_71 ⟨Nat.le_of_ble_eq_true rfl, Nat.le_of_ble_eq_true rfl⟩ (lroom _) [0, 1, 2, 6, 7] [3, 4, 5, 8, 9, 10, 11, 12, 13, 14, 15, 16, 17, 18, 19, 20, 21, 22, 23, 24, 25] rfl rfl rfl (by decide +kernel) (by decide +kernel) (by decide +kernel) 0 rfl rfl rfl hl.1 rfl (Nat.le_of_ble_eq_true rfl) dL_law_761 (fun u_5 H locs hφ hP hD hS => ?_)
  have p_6 : (((0 ≤ z1 ∧ z1 < (IA 3)) ∧ (0 ≤ z2 ∧ z2 ≤ 5)) ∧ (u_5.1.1 : Int) = gz (FA 0) ((z1 * 6) + z2)) ∨ (¬ ((0 ≤ z1 ∧ z1 < (IA 3)) ∧ (0 ≤ z2 ∧ z2 ≤ 5)) ∧ (u_5.1.1 : Int) = -1) := hφ
  obtain ⟨hP, hD⟩ := PD.by3 (is := [21, 22, 23, 0, 1, 2, 24, 25, 3, 4, 5, 6, 7, 8, 9, 10, 11, 12, 13, 14, 15, 16, 17, 18, 19, 20]) (y := (GA k a (u9 IA 2 u_5.1.2) LA FA QA VA r)) ⟨hP, hD⟩ (by decide +kernel) rfl rfl
  refine W.eq (g2 := F0 m 764 ls [.int (iZ u_5.1.1)]) rfl ?_
  refine lv_pop hx hb dL_law_764 rfl ?_
  refine lv_aload_n hx hb dL_law_765 rfl (lv_at hl 1 rfl) ?_
  refine lv_aload_n hx hb dL_law_766 rfl (lv_at hl 3 rfl) ?_
  refine lv_iload_n hx hb dL_law_767 rfl (lv_at hl 0 rfl) ?_
  refine lv_iconst (v := iZ 1) hx hb dL_law_768 rfl ?_
  refine lv_iadd hx hb dL_law_769 ?_
  refine lv_topi (fun x_7 ex_7 => ?_)
  obtain rfl : x_7 = iZ (i + 1) := ex_7.trans (iZ_add i 1)
  refine va_sld hx hb hX hbl hbA hS (zi1 hi hL) dL_law_770 ?_
  refine lv_topi (fun x_8 ex_8 => ?_)
  obtain rfl : x_8 = iZ z1 := ex_8.trans hz1
  refine lv_aload_n hx hb dL_law_771 rfl (lv_at hl 3 rfl) ?_
  refine lv_iload_n hx hb dL_law_772 rfl (lv_at hl 0 rfl) ?_
  refine lv_iconst (v := iZ 2) hx hb dL_law_773 rfl ?_
  refine lv_iadd hx hb dL_law_774 ?_
  refine lv_topi (fun x_9 ex_9 => ?_)
  obtain rfl : x_9 = iZ (i + 2) := ex_9.trans (iZ_add i 2)
  refine va_sld hx hb hX hbl hbA hS (zi2 hi hL) dL_law_775 ?_
  refine lv_topi (fun x_10 ex_10 => ?_)
  obtain rfl : x_10 = iZ z2 := ex_10.trans hz2
  obtain ⟨hP, hD⟩ := PD.fr5 ⟨hP, hD⟩
  refine CKV2 (As := [.int (iZ z1), .int (iZ z2)]) (rest := []) (tl := (GA k a (u9 IA 2 u_5.1.2) LA FA QA VA r) ++ ((GB k a IB LB FB QB VB r) ++ ((GC k a IC LC FC QC VC r) ++ ((GD k a ID LD FD QD VD r) ++ (r.tl))))) hx hb hml hown hts hKK hP hD hS hA (q_rock l D k (a 106) (a 107) (a 108) (a 109) (a 110) (a 111) (a 112) (a 113) (a 114) (a 115) (a 116) (a 117) (a 118) (a 119) (a 120) (a 121) (a 122) (IR 0) (IR 1) (IR 2) (IR 3) (IR 4) (IR 5) (IR 6) (IR 7) (IR 8) (IR 9) (IR 10) (IR 11) (IR 12) (IR 13) (IR 14) (IR 15) (IR 16) (IR 17) (LR 0) (LR 1) (FR 0) z1 z2 hM ⟨hz1a, hz1b⟩ ⟨hz2a, hz2b⟩) ci_X12_rock qm_L_75 ⟨Nat.le_of_ble_eq_true rfl, Nat.le_of_ble_eq_true rfl⟩ (lroom _) [0, 1] [2, 3, 4, 5, 6, 7, 8, 9, 10, 11, 12, 13, 14, 15, 16] rfl rfl rfl (by decide +kernel) (by decide +kernel) (by decide +kernel) 0 rfl rfl rfl hl.1 rfl (Nat.le_of_ble_eq_true rfl) dL_law_776 (fun u_11 H locs hφ hP hD hS => ?_)
  have p_12 : (((0 ≤ z1 ∧ z1 < (gz (FR 0) 0)) ∧ (0 ≤ z2 ∧ z2 ≤ 5)) ∧ (u_11.1.1 : Int) = gz (FR 0) ((10 + (6 * z1)) + z2)) ∨ (¬ ((0 ≤ z1 ∧ z1 < (gz (FR 0) 0)) ∧ (0 ≤ z2 ∧ z2 ≤ 5)) ∧ (u_11.1.1 : Int) = -1) := hφ
  obtain ⟨hP, hD⟩ := PD.by3 (is := [15, 16, 0, 1, 2, 3, 4, 5, 6, 7, 8, 9, 10, 11, 12, 13, 14]) (y := (GR k a (u9 IR 0 u_11.1.2) LR FR QR VR r)) ⟨hP, hD⟩ (by decide +kernel) rfl rfl
  refine W.eq (g2 := F0 m 779 ls [.int (iZ u_11.1.1)]) rfl ?_
  refine lv_pop hx hb dL_law_779 rfl ?_
  refine lv_goto (tgt := 2846) hx hb dL_law_780 rfl ?_
  obtain ⟨hP, hD⟩ := PD.fr5 ⟨hP, hD⟩
  obtain ⟨hP, hD⟩ := PD.fr5 ⟨hP, hD⟩
  obtain ⟨hP, hD⟩ := PD.fr5 ⟨hP, hD⟩
  obtain ⟨hP, hD⟩ := PD.fr5 ⟨hP, hD⟩
  exact hk a (u9 IA 2 u_5.1.2) LA FA QA VA IB LB FB QB VB IC LC FC QC VC ID LD FD QD VD (u9 IR 0 u_11.1.2) LR FR QR VR r H locs ls (show INV _ _ _ _ _ _ _ _ _ _ _ _ _ _ _ from ⟨hWI, hWI_0, hWI_1, hWI_2, hrd, htr0, htr1, htr2, htr3, hrgk, hrgt, hdrc, hev, hmk, hM, hMK, hTI, hFS, htd, hlt, rgH, rgS, rgY, hdr, hit, hmmk, heq, htq, hrel, hbf, htb, hkw, hSK, hSK0, hSK1, hSK2, hNE, hNE0, hNE1, hNE2, hLE, hYE, hQE, hLE0, hLE1, hLE2, hYE0, hYE1, hYE2⟩) hRT hP hD hS (lv_sub hl [0, 1, 2, 3] rfl)
set_option maxHeartbeats 40000000 in
set_option maxRecDepth 100000 in
theorem law_c13 {p : Program} {e : Env} {s : State} {m : MethodId} {below : List Frame} {meth : Method} {c : Code} (l : Launch) {b L : Nat} {xs : Nat → Int32} {A : Nat → Prop} {D : va_G} {k : Nat → ClassId} {sa sv : Nat} {i : Int} (C : LFX p s m meth c b L xs A D k sa sv) (hi : 0 ≤ i ∧ i + 6 ≤ (L : Int)) (hk : LAT p l e s m below meth c b A D k 2846 i) : LAT p l e s m below meth c b A D k 783 i := by
  obtain ⟨hx, hb, hr, hml, hown, hts, hKK, hX, hbl, hbA, hA, hAf, hlocks, hSY, hRR, hL⟩ := id C
  intro a IA LA FA QA VA IB LB FB QB VB IC LC FC QC VC ID LD FD QD VD IR LR FR QR VR r H locs ls hI hRT hP hD hS hl
  have hK := hKK.1
  obtain ⟨hP, hD⟩ : PD D A ((GA k a IA LA FA QA VA r) ++ ((GB k a IB LB FB QB VB r) ++ ((GC k a IC LC FC QC VC r) ++ ((GD k a ID LD FD QD VD r) ++ ((GR k a IR LR FR QR VR r) ++ (r.tl)))))) H := ⟨hP, hD⟩
  obtain ⟨hWI, hWI_0, hWI_1, hWI_2, hrd, htr0, htr1, htr2, htr3, hrgk, hrgt, hdrc, hev, hmk, hM, hMK, hTI, hFS, htd, hlt, rgH, rgS, rgY, hdr, hit, hmmk, heq, htq, hrel, hbf, htb, hkw, hSK, hSK0, hSK1, hSK2, hNE, hNE0, hNE1, hNE2, hLE, hYE, hQE, hLE0, hLE1, hLE2, hYE0, hYE1, hYE2⟩ := id hI
  obtain ⟨gw1, gw2, gw3, gw4, gw5, gw6, gw7, gw8, gw9, gw10, gw11⟩ := id hWI
  have hx0 := gw9
  have hYI := gw11
  have hpf : rgI (FR 3) (-128) 127 900 := fun e h1 h2 => by rw [← htb e h1 h2]; exact hbf e h1 h2
  obtain ⟨z1, hz1, hz1a, hz1b⟩ := i32_z (xs (iZ (i + 1)).toNatClampNeg)
  obtain ⟨z2, hz2, hz2a, hz2b⟩ := i32_z (xs (iZ (i + 2)).toNatClampNeg)
  obtain ⟨z3, hz3, hz3a, hz3b⟩ := i32_z (xs (iZ (i + 3)).toNatClampNeg)
  obtain ⟨z4, hz4, hz4a, hz4b⟩ := i32_z (xs (iZ (i + 4)).toNatClampNeg)
  obtain ⟨z5, hz5, hz5a, hz5b⟩ := i32_z (xs (iZ (i + 5)).toNatClampNeg)
  have hl : lv_has ls 4 [(3, .int (iZ i)), (2, .ref (a 106)), (1, .ref (a 0)), (0, .ref b)] := hl
  have hls := hQE.1
  replace hls : _ := hls
  refine lv_aload_n hx hb dL_law_783 rfl (lv_at hl 2 rfl) ?_
  refine lv_aload_n hx hb dL_law_784 rfl (lv_at hl 3 rfl) ?_
  refine lv_iload_n hx hb dL_law_785 rfl (lv_at hl 0 rfl) ?_
  refine lv_iconst (v := iZ 1) hx hb dL_law_786 rfl ?_
  refine lv_iadd hx hb dL_law_787 ?_
  refine lv_topi (fun x_1 ex_1 => ?_)
  obtain rfl : x_1 = iZ (i + 1) := ex_1.trans (iZ_add i 1)
  refine va_sld hx hb hX hbl hbA hS (zi1 hi hL) dL_law_788 ?_
  refine lv_topi (fun x_2 ex_2 => ?_)
  obtain rfl : x_2 = iZ z1 := ex_2.trans hz1
  refine lv_aload_n hx hb dL_law_789 rfl (lv_at hl 3 rfl) ?_
  refine lv_iload_n hx hb dL_law_790 rfl (lv_at hl 0 rfl) ?_
  refine lv_iconst (v := iZ 2) hx hb dL_law_791 rfl ?_
  refine lv_iadd hx hb dL_law_792 ?_
  refine lv_topi (fun x_3 ex_3 => ?_)
  obtain rfl : x_3 = iZ (i + 2) := ex_3.trans (iZ_add i 2)
  refine va_sld hx hb hX hbl hbA hS (zi2 hi hL) dL_law_793 ?_
  refine lv_topi (fun x_4 ex_4 => ?_)
  obtain rfl : x_4 = iZ z2 := ex_4.trans hz2
  refine CKV2 (As := [.int (iZ z1), .int (iZ z2)]) (rest := []) (tl := (GB k a IB LB FB QB VB r) ++ ((GC k a IC LC FC QC VC r) ++ ((GD k a ID LD FD QD VD r) ++ ((GR k a IR LR FR QR VR r) ++ (r.tl))))) hx hb hml hown hts hKK hP hD hS hA (p_ice l D k (a 0) (a 1) (a 2) (a 3) (a 4) (a 5) (a 6) (a 7) (a 8) (a 9) (a 10) (a 11) (IA 0) (IA 1) (IA 2) (LA 0) (LA 1) ([.ref (a 26), .ref (a 27), .ref (a 28), .int (iZ (IA 3)), .int (iZ (IA 4)), .int (iZ (IA 5)), .int (iZ (IA 6))]) (a 23) (a 27) (a 28) (a 24) (a 25) (IA 3) (IA 4) (IA 5) (FA 0) (FA 1) z1 z2 rfl rfl rfl rfl rfl (by first | with_reducible assumption | omega) hx0 (by first | with_reducible assumption | omega) (by first | with_reducible assumption | omega) (by first | with_reducible assumption | omega) ⟨hz1a, hz1b⟩ ⟨hz2a, hz2b⟩) ci_X11_ice qm_L_76 ⟨Nat.le_of_ble_eq_true rfl, Nat.le_of_ble_eq_true rfl⟩ (lroom _) [0, 1, 2, 6, 7] [3, 4, 5, 8, 9, 10, 11, 12, 13, 14, 15, 16, 17, 18, 19, 20, 21, 22, 23, 24, 25] rfl rfl rfl (by decide +kernel) (by decide +kernel) (by decide +kernel) 0 rfl rfl rfl hl.1 rfl (Nat.le_of_ble_eq_true rfl) dL_law_794 (fun u_5 H locs hφ hP hD hS => ?_)
  have p_6 : (((0 ≤ z1 ∧ z1 < (IA 4)) ∧ (0 ≤ z2 ∧ z2 ≤ 3)) ∧ (u_5.1.1 : Int) = gz (FA 1) ((z1 * 4) + z2)) ∨ (¬ ((0 ≤ z1 ∧ z1 < (IA 4)) ∧ (0 ≤ z2 ∧ z2 ≤ 3)) ∧ (u_5.1.1 : Int) = -1) := hφ
  obtain ⟨hP, hD⟩ := PD.by3 (is := [21, 22, 23, 0, 1, 2, 24, 25, 3, 4, 5, 6, 7, 8, 9, 10, 11, 12, 13, 14, 15, 16, 17, 18, 19, 20]) (y := (GA k a (u9 IA 2 u_5.1.2) LA FA QA VA r)) ⟨hP, hD⟩ (by decide +kernel) rfl rfl
  refine W.eq (g2 := F0 m 797 ls [.int (iZ u_5.1.1)]) rfl ?_
  refine lv_pop hx hb dL_law_797 rfl ?_
  refine lv_aload_n hx hb dL_law_798 rfl (lv_at hl 1 rfl) ?_
  refine lv_aload_n hx hb dL_law_799 rfl (lv_at hl 3 rfl) ?_
  refine lv_iload_n hx hb dL_law_800 rfl (lv_at hl 0 rfl) ?_
  refine lv_iconst (v := iZ 1) hx hb dL_law_801 rfl ?_
  refine lv_iadd hx hb dL_law_802 ?_
  refine lv_topi (fun x_7 ex_7 => ?_)
  obtain rfl : x_7 = iZ (i + 1) := ex_7.trans (iZ_add i 1)
  refine va_sld hx hb hX hbl hbA hS (zi1 hi hL) dL_law_803 ?_
  refine lv_topi (fun x_8 ex_8 => ?_)
  obtain rfl : x_8 = iZ z1 := ex_8.trans hz1
  refine lv_aload_n hx hb dL_law_804 rfl (lv_at hl 3 rfl) ?_
  refine lv_iload_n hx hb dL_law_805 rfl (lv_at hl 0 rfl) ?_
  refine lv_iconst (v := iZ 2) hx hb dL_law_806 rfl ?_
  refine lv_iadd hx hb dL_law_807 ?_
  refine lv_topi (fun x_9 ex_9 => ?_)
  obtain rfl : x_9 = iZ (i + 2) := ex_9.trans (iZ_add i 2)
  refine va_sld hx hb hX hbl hbA hS (zi2 hi hL) dL_law_808 ?_
  refine lv_topi (fun x_10 ex_10 => ?_)
  obtain rfl : x_10 = iZ z2 := ex_10.trans hz2
  obtain ⟨hP, hD⟩ := PD.fr5 ⟨hP, hD⟩
  refine CKV2 (As := [.int (iZ z1), .int (iZ z2)]) (rest := []) (tl := (GA k a (u9 IA 2 u_5.1.2) LA FA QA VA r) ++ ((GB k a IB LB FB QB VB r) ++ ((GC k a IC LC FC QC VC r) ++ ((GD k a ID LD FD QD VD r) ++ (r.tl))))) hx hb hml hown hts hKK hP hD hS hA (q_ice l D k (a 106) (a 107) (a 108) (a 109) (a 110) (a 111) (a 112) (a 113) (a 114) (a 115) (a 116) (a 117) (a 118) (a 119) (a 120) (a 121) (a 122) (IR 0) (IR 1) (IR 2) (IR 3) (IR 4) (IR 5) (IR 6) (IR 7) (IR 8) (IR 9) (IR 10) (IR 11) (IR 12) (IR 13) (IR 14) (IR 15) (IR 16) (IR 17) (LR 0) (LR 1) (FR 0) z1 z2 hM ⟨hz1a, hz1b⟩ ⟨hz2a, hz2b⟩) ci_X12_ice qm_L_79 ⟨Nat.le_of_ble_eq_true rfl, Nat.le_of_ble_eq_true rfl⟩ (lroom _) [0, 1] [2, 3, 4, 5, 6, 7, 8, 9, 10, 11, 12, 13, 14, 15, 16] rfl rfl rfl (by decide +kernel) (by decide +kernel) (by decide +kernel) 0 rfl rfl rfl hl.1 rfl (Nat.le_of_ble_eq_true rfl) dL_law_809 (fun u_11 H locs hφ hP hD hS => ?_)
  have p_12 : (((0 ≤ z1 ∧ z1 < (gz (FR 0) 1)) ∧ (0 ≤ z2 ∧ z2 ≤ 3)) ∧ (u_11.1.1 : Int) = gz (FR 0) ((46 + (4 * z1)) + z2)) ∨ (¬ ((0 ≤ z1 ∧ z1 < (gz (FR 0) 1)) ∧ (0 ≤ z2 ∧ z2 ≤ 3)) ∧ (u_11.1.1 : Int) = -1) := hφ
  obtain ⟨hP, hD⟩ := PD.by3 (is := [15, 16, 0, 1, 2, 3, 4, 5, 6, 7, 8, 9, 10, 11, 12, 13, 14]) (y := (GR k a (u9 IR 0 u_11.1.2) LR FR QR VR r)) ⟨hP, hD⟩ (by decide +kernel) rfl rfl
  refine W.eq (g2 := F0 m 812 ls [.int (iZ u_11.1.1)]) rfl ?_
  refine lv_pop hx hb dL_law_812 rfl ?_
  refine lv_goto (tgt := 2846) hx hb dL_law_813 rfl ?_
  obtain ⟨hP, hD⟩ := PD.fr5 ⟨hP, hD⟩
  obtain ⟨hP, hD⟩ := PD.fr5 ⟨hP, hD⟩
  obtain ⟨hP, hD⟩ := PD.fr5 ⟨hP, hD⟩
  obtain ⟨hP, hD⟩ := PD.fr5 ⟨hP, hD⟩
  exact hk a (u9 IA 2 u_5.1.2) LA FA QA VA IB LB FB QB VB IC LC FC QC VC ID LD FD QD VD (u9 IR 0 u_11.1.2) LR FR QR VR r H locs ls (show INV _ _ _ _ _ _ _ _ _ _ _ _ _ _ _ from ⟨hWI, hWI_0, hWI_1, hWI_2, hrd, htr0, htr1, htr2, htr3, hrgk, hrgt, hdrc, hev, hmk, hM, hMK, hTI, hFS, htd, hlt, rgH, rgS, rgY, hdr, hit, hmmk, heq, htq, hrel, hbf, htb, hkw, hSK, hSK0, hSK1, hSK2, hNE, hNE0, hNE1, hNE2, hLE, hYE, hQE, hLE0, hLE1, hLE2, hYE0, hYE1, hYE2⟩) hRT hP hD hS (lv_sub hl [0, 1, 2, 3] rfl)
set_option maxHeartbeats 40000000 in
set_option maxRecDepth 100000 in
theorem law_c14 {p : Program} {e : Env} {s : State} {m : MethodId} {below : List Frame} {meth : Method} {c : Code} (l : Launch) {b L : Nat} {xs : Nat → Int32} {A : Nat → Prop} {D : va_G} {k : Nat → ClassId} {sa sv : Nat} {i : Int} (C : LFX p s m meth c b L xs A D k sa sv) (hi : 0 ≤ i ∧ i + 6 ≤ (L : Int)) (hk : LAT p l e s m below meth c b A D k 2846 i) : LAT p l e s m below meth c b A D k 816 i := by
  obtain ⟨hx, hb, hr, hml, hown, hts, hKK, hX, hbl, hbA, hA, hAf, hlocks, hSY, hRR, hL⟩ := id C
  intro a IA LA FA QA VA IB LB FB QB VB IC LC FC QC VC ID LD FD QD VD IR LR FR QR VR r H locs ls hI hRT hP hD hS hl
  have hK := hKK.1
  obtain ⟨hP, hD⟩ : PD D A ((GA k a IA LA FA QA VA r) ++ ((GB k a IB LB FB QB VB r) ++ ((GC k a IC LC FC QC VC r) ++ ((GD k a ID LD FD QD VD r) ++ ((GR k a IR LR FR QR VR r) ++ (r.tl)))))) H := ⟨hP, hD⟩
  obtain ⟨hWI, hWI_0, hWI_1, hWI_2, hrd, htr0, htr1, htr2, htr3, hrgk, hrgt, hdrc, hev, hmk, hM, hMK, hTI, hFS, htd, hlt, rgH, rgS, rgY, hdr, hit, hmmk, heq, htq, hrel, hbf, htb, hkw, hSK, hSK0, hSK1, hSK2, hNE, hNE0, hNE1, hNE2, hLE, hYE, hQE, hLE0, hLE1, hLE2, hYE0, hYE1, hYE2⟩ := id hI
  obtain ⟨gw1, gw2, gw3, gw4, gw5, gw6, gw7, gw8, gw9, gw10, gw11⟩ := id hWI
  have hx0 := gw9
  have hYI := gw11
  have hpf : rgI (FR 3) (-128) 127 900 := fun e h1 h2 => by rw [← htb e h1 h2]; exact hbf e h1 h2
  obtain ⟨z1, hz1, hz1a, hz1b⟩ := i32_z (xs (iZ (i + 1)).toNatClampNeg)
  obtain ⟨z2, hz2, hz2a, hz2b⟩ := i32_z (xs (iZ (i + 2)).toNatClampNeg)
  obtain ⟨z3, hz3, hz3a, hz3b⟩ := i32_z (xs (iZ (i + 3)).toNatClampNeg)
  obtain ⟨z4, hz4, hz4a, hz4b⟩ := i32_z (xs (iZ (i + 4)).toNatClampNeg)
  obtain ⟨z5, hz5, hz5a, hz5b⟩ := i32_z (xs (iZ (i + 5)).toNatClampNeg)
  have hl : lv_has ls 4 [(3, .int (iZ i)), (2, .ref (a 106)), (1, .ref (a 0)), (0, .ref b)] := hl
  have hls := hQE.1
  replace hls : _ := hls
  refine lv_aload_n hx hb dL_law_816 rfl (lv_at hl 2 rfl) ?_
  refine lv_aload_n hx hb dL_law_817 rfl (lv_at hl 3 rfl) ?_
  refine lv_iload_n hx hb dL_law_818 rfl (lv_at hl 0 rfl) ?_
  refine lv_iconst (v := iZ 1) hx hb dL_law_819 rfl ?_
  refine lv_iadd hx hb dL_law_820 ?_
  refine lv_topi (fun x_1 ex_1 => ?_)
  obtain rfl : x_1 = iZ (i + 1) := ex_1.trans (iZ_add i 1)
  refine va_sld hx hb hX hbl hbA hS (zi1 hi hL) dL_law_821 ?_
  refine lv_topi (fun x_2 ex_2 => ?_)
  obtain rfl : x_2 = iZ z1 := ex_2.trans hz1
  refine lv_aload_n hx hb dL_law_822 rfl (lv_at hl 3 rfl) ?_
  refine lv_iload_n hx hb dL_law_823 rfl (lv_at hl 0 rfl) ?_
  refine lv_iconst (v := iZ 2) hx hb dL_law_824 rfl ?_
  refine lv_iadd hx hb dL_law_825 ?_
  refine lv_topi (fun x_3 ex_3 => ?_)
  obtain rfl : x_3 = iZ (i + 2) := ex_3.trans (iZ_add i 2)
  refine va_sld hx hb hX hbl hbA hS (zi2 hi hL) dL_law_826 ?_
  refine lv_topi (fun x_4 ex_4 => ?_)
  obtain rfl : x_4 = iZ z2 := ex_4.trans hz2
  refine CKV2 (As := [.int (iZ z1), .int (iZ z2)]) (rest := []) (tl := (GB k a IB LB FB QB VB r) ++ ((GC k a IC LC FC QC VC r) ++ ((GD k a ID LD FD QD VD r) ++ ((GR k a IR LR FR QR VR r) ++ (r.tl))))) hx hb hml hown hts hKK hP hD hS hA (p_direction l D k (a 0) (a 1) (a 2) (a 3) (a 4) (a 5) (a 6) (a 7) (a 8) (a 9) (a 10) (a 11) (IA 0) (IA 1) (IA 2) (LA 0) (LA 1) ([.ref (a 26), .ref (a 27), .ref (a 28), .int (iZ (IA 3)), .int (iZ (IA 4)), .int (iZ (IA 5)), .int (iZ (IA 6))]) (a 23) (a 27) (a 28) (a 24) (a 25) (IA 3) (IA 4) (IA 5) (FA 0) (FA 1) z1 z2 rfl rfl rfl rfl rfl (by first | with_reducible assumption | omega) hx0 (by first | with_reducible assumption | omega) (by first | with_reducible assumption | omega) (by first | with_reducible assumption | omega) ⟨hz1a, hz1b⟩ ⟨hz2a, hz2b⟩) ci_X11_direction qm_L_80 ⟨Nat.le_of_ble_eq_true rfl, Nat.le_of_ble_eq_true rfl⟩ (lroom _) [0, 1, 2, 6, 7] [3, 4, 5, 8, 9, 10, 11, 12, 13, 14, 15, 16, 17, 18, 19, 20, 21, 22, 23, 24, 25] rfl rfl rfl (by decide +kernel) (by decide +kernel) (by decide +kernel) 0 rfl rfl rfl hl.1 rfl (Nat.le_of_ble_eq_true rfl) dL_law_827 (fun u_5 H locs hφ hP hD hS => ?_)
  have p_6 : (((0 ≤ z1 ∧ z1 < (IA 3)) ∧ (0 ≤ z2 ∧ z2 ≤ 500)) ∧ (u_5.1.1 : Int) = hd (FA 0) z1 z2) ∨ (¬ ((0 ≤ z1 ∧ z1 < (IA 3)) ∧ (0 ≤ z2 ∧ z2 ≤ 500)) ∧ (u_5.1.1 : Int) = -1) := hφ
  obtain ⟨hP, hD⟩ := PD.by3 (is := [21, 22, 23, 0, 1, 2, 24, 25, 3, 4, 5, 6, 7, 8, 9, 10, 11, 12, 13, 14, 15, 16, 17, 18, 19, 20]) (y := (GA k a (u9 IA 2 u_5.1.2) LA FA QA VA r)) ⟨hP, hD⟩ (by decide +kernel) rfl rfl
  refine W.eq (g2 := F0 m 830 ls [.int (iZ u_5.1.1)]) rfl ?_
  refine lv_pop hx hb dL_law_830 rfl ?_
  refine lv_aload_n hx hb dL_law_831 rfl (lv_at hl 1 rfl) ?_
  refine lv_aload_n hx hb dL_law_832 rfl (lv_at hl 3 rfl) ?_
  refine lv_iload_n hx hb dL_law_833 rfl (lv_at hl 0 rfl) ?_
  refine lv_iconst (v := iZ 1) hx hb dL_law_834 rfl ?_
  refine lv_iadd hx hb dL_law_835 ?_
  refine lv_topi (fun x_7 ex_7 => ?_)
  obtain rfl : x_7 = iZ (i + 1) := ex_7.trans (iZ_add i 1)
  refine va_sld hx hb hX hbl hbA hS (zi1 hi hL) dL_law_836 ?_
  refine lv_topi (fun x_8 ex_8 => ?_)
  obtain rfl : x_8 = iZ z1 := ex_8.trans hz1
  refine lv_aload_n hx hb dL_law_837 rfl (lv_at hl 3 rfl) ?_
  refine lv_iload_n hx hb dL_law_838 rfl (lv_at hl 0 rfl) ?_
  refine lv_iconst (v := iZ 2) hx hb dL_law_839 rfl ?_
  refine lv_iadd hx hb dL_law_840 ?_
  refine lv_topi (fun x_9 ex_9 => ?_)
  obtain rfl : x_9 = iZ (i + 2) := ex_9.trans (iZ_add i 2)
  refine va_sld hx hb hX hbl hbA hS (zi2 hi hL) dL_law_841 ?_
  refine lv_topi (fun x_10 ex_10 => ?_)
  obtain rfl : x_10 = iZ z2 := ex_10.trans hz2
  obtain ⟨hP, hD⟩ := PD.fr5 ⟨hP, hD⟩
  refine CKV2 (As := [.int (iZ z1), .int (iZ z2)]) (rest := []) (tl := (GA k a (u9 IA 2 u_5.1.2) LA FA QA VA r) ++ ((GB k a IB LB FB QB VB r) ++ ((GC k a IC LC FC QC VC r) ++ ((GD k a ID LD FD QD VD r) ++ (r.tl))))) hx hb hml hown hts hKK hP hD hS hA (q_direction l D k (a 106) (a 107) (a 108) (a 109) (a 110) (a 111) (a 112) (a 113) (a 114) (a 115) (a 116) (a 117) (a 118) (a 119) (a 120) (a 121) (a 122) (IR 0) (IR 1) (IR 2) (IR 3) (IR 4) (IR 5) (IR 6) (IR 7) (IR 8) (IR 9) (IR 10) (IR 11) (IR 12) (IR 13) (IR 14) (IR 15) (IR 16) (IR 17) (LR 0) (LR 1) (FR 0) z1 z2 hM ⟨hz1a, hz1b⟩ ⟨hz2a, hz2b⟩) ci_X12_direction qm_L_83 ⟨Nat.le_of_ble_eq_true rfl, Nat.le_of_ble_eq_true rfl⟩ (lroom _) [0, 1] [2, 3, 4, 5, 6, 7, 8, 9, 10, 11, 12, 13, 14, 15, 16] rfl rfl rfl (by decide +kernel) (by decide +kernel) (by decide +kernel) 0 rfl rfl rfl hl.1 rfl (Nat.le_of_ble_eq_true rfl) dL_law_842 (fun u_11 H locs hφ hP hD hS => ?_)
  have p_12 : (((0 ≤ z1 ∧ z1 < (gz (FR 0) 0)) ∧ (0 ≤ z2 ∧ z2 ≤ 500)) ∧ (u_11.1.1 : Int) = hd (sh (FR 0) 10) z1 z2) ∨ (¬ ((0 ≤ z1 ∧ z1 < (gz (FR 0) 0)) ∧ (0 ≤ z2 ∧ z2 ≤ 500)) ∧ (u_11.1.1 : Int) = -1) := hφ
  obtain ⟨hP, hD⟩ := PD.by3 (is := [15, 16, 0, 1, 2, 3, 4, 5, 6, 7, 8, 9, 10, 11, 12, 13, 14]) (y := (GR k a (u9 IR 0 u_11.1.2) LR FR QR VR r)) ⟨hP, hD⟩ (by decide +kernel) rfl rfl
  refine W.eq (g2 := F0 m 845 ls [.int (iZ u_11.1.1)]) rfl ?_
  refine lv_pop hx hb dL_law_845 rfl ?_
  refine lv_goto (tgt := 2846) hx hb dL_law_846 rfl ?_
  obtain ⟨hP, hD⟩ := PD.fr5 ⟨hP, hD⟩
  obtain ⟨hP, hD⟩ := PD.fr5 ⟨hP, hD⟩
  obtain ⟨hP, hD⟩ := PD.fr5 ⟨hP, hD⟩
  obtain ⟨hP, hD⟩ := PD.fr5 ⟨hP, hD⟩
  exact hk a (u9 IA 2 u_5.1.2) LA FA QA VA IB LB FB QB VB IC LC FC QC VC ID LD FD QD VD (u9 IR 0 u_11.1.2) LR FR QR VR r H locs ls (show INV _ _ _ _ _ _ _ _ _ _ _ _ _ _ _ from ⟨hWI, hWI_0, hWI_1, hWI_2, hrd, htr0, htr1, htr2, htr3, hrgk, hrgt, hdrc, hev, hmk, hM, hMK, hTI, hFS, htd, hlt, rgH, rgS, rgY, hdr, hit, hmmk, heq, htq, hrel, hbf, htb, hkw, hSK, hSK0, hSK1, hSK2, hNE, hNE0, hNE1, hNE2, hLE, hYE, hQE, hLE0, hLE1, hLE2, hYE0, hYE1, hYE2⟩) hRT hP hD hS (lv_sub hl [0, 1, 2, 3] rfl)
set_option maxHeartbeats 40000000 in
set_option maxRecDepth 100000 in
theorem law_c15 {p : Program} {e : Env} {s : State} {m : MethodId} {below : List Frame} {meth : Method} {c : Code} (l : Launch) {b L : Nat} {xs : Nat → Int32} {A : Nat → Prop} {D : va_G} {k : Nat → ClassId} {sa sv : Nat} {i : Int} (C : LFX p s m meth c b L xs A D k sa sv) (hi : 0 ≤ i ∧ i + 6 ≤ (L : Int)) (hk : LAT p l e s m below meth c b A D k 2846 i) : LAT p l e s m below meth c b A D k 849 i := by
  obtain ⟨hx, hb, hr, hml, hown, hts, hKK, hX, hbl, hbA, hA, hAf, hlocks, hSY, hRR, hL⟩ := id C
  intro a IA LA FA QA VA IB LB FB QB VB IC LC FC QC VC ID LD FD QD VD IR LR FR QR VR r H locs ls hI hRT hP hD hS hl
  have hK := hKK.1
  obtain ⟨hP, hD⟩ : PD D A ((GA k a IA LA FA QA VA r) ++ ((GB k a IB LB FB QB VB r) ++ ((GC k a IC LC FC QC VC r) ++ ((GD k a ID LD FD QD VD r) ++ ((GR k a IR LR FR QR VR r) ++ (r.tl)))))) H := ⟨hP, hD⟩
  obtain ⟨hWI, hWI_0, hWI_1, hWI_2, hrd, htr0, htr1, htr2, htr3, hrgk, hrgt, hdrc, hev, hmk, hM, hMK, hTI, hFS, htd, hlt, rgH, rgS, rgY, hdr, hit, hmmk, heq, htq, hrel, hbf, htb, hkw, hSK, hSK0, hSK1, hSK2, hNE, hNE0, hNE1, hNE2, hLE, hYE, hQE, hLE0, hLE1, hLE2, hYE0, hYE1, hYE2⟩ := id hI
  obtain ⟨gw1, gw2, gw3, gw4, gw5, gw6, gw7, gw8, gw9, gw10, gw11⟩ := id hWI
  have hx0 := gw9
  have hYI := gw11
  have hpf : rgI (FR 3) (-128) 127 900 := fun e h1 h2 => by rw [← htb e h1 h2]; exact hbf e h1 h2
  obtain ⟨z1, hz1, hz1a, hz1b⟩ := i32_z (xs (iZ (i + 1)).toNatClampNeg)
  obtain ⟨z2, hz2, hz2a, hz2b⟩ := i32_z (xs (iZ (i + 2)).toNatClampNeg)
  obtain ⟨z3, hz3, hz3a, hz3b⟩ := i32_z (xs (iZ (i + 3)).toNatClampNeg)
  obtain ⟨z4, hz4, hz4a, hz4b⟩ := i32_z (xs (iZ (i + 4)).toNatClampNeg)
  obtain ⟨z5, hz5, hz5a, hz5b⟩ := i32_z (xs (iZ (i + 5)).toNatClampNeg)
  have hl : lv_has ls 4 [(3, .int (iZ i)), (2, .ref (a 106)), (1, .ref (a 0)), (0, .ref b)] := hl
  have hls := hQE.1
  replace hls : _ := hls
  refine lv_aload_n hx hb dL_law_849 rfl (lv_at hl 2 rfl) ?_
  refine lv_aload_n hx hb dL_law_850 rfl (lv_at hl 3 rfl) ?_
  refine lv_iload_n hx hb dL_law_851 rfl (lv_at hl 0 rfl) ?_
  refine lv_iconst (v := iZ 1) hx hb dL_law_852 rfl ?_
  refine lv_iadd hx hb dL_law_853 ?_
  refine lv_topi (fun x_1 ex_1 => ?_)
  obtain rfl : x_1 = iZ (i + 1) := ex_1.trans (iZ_add i 1)
  refine va_sld hx hb hX hbl hbA hS (zi1 hi hL) dL_law_854 ?_
  refine lv_topi (fun x_2 ex_2 => ?_)
  obtain rfl : x_2 = iZ z1 := ex_2.trans hz1
  refine lv_aload_n hx hb dL_law_855 rfl (lv_at hl 3 rfl) ?_
  refine lv_iload_n hx hb dL_law_856 rfl (lv_at hl 0 rfl) ?_
  refine lv_iconst (v := iZ 2) hx hb dL_law_857 rfl ?_
  refine lv_iadd hx hb dL_law_858 ?_
  refine lv_topi (fun x_3 ex_3 => ?_)
  obtain rfl : x_3 = iZ (i + 2) := ex_3.trans (iZ_add i 2)
  refine va_sld hx hb hX hbl hbA hS (zi2 hi hL) dL_law_859 ?_
  refine lv_topi (fun x_4 ex_4 => ?_)
  obtain rfl : x_4 = iZ z2 := ex_4.trans hz2
  refine lv_aload_n hx hb dL_law_860 rfl (lv_at hl 3 rfl) ?_
  refine lv_iload_n hx hb dL_law_861 rfl (lv_at hl 0 rfl) ?_
  refine lv_iconst (v := iZ 3) hx hb dL_law_862 rfl ?_
  refine lv_iadd hx hb dL_law_863 ?_
  refine lv_topi (fun x_5 ex_5 => ?_)
  obtain rfl : x_5 = iZ (i + 3) := ex_5.trans (iZ_add i 3)
  refine va_sld hx hb hX hbl hbA hS (zi3 hi hL) dL_law_864 ?_
  refine lv_topi (fun x_6 ex_6 => ?_)
  obtain rfl : x_6 = iZ z3 := ex_6.trans hz3
  refine lv_aload_n hx hb dL_law_865 rfl (lv_at hl 3 rfl) ?_
  refine lv_iload_n hx hb dL_law_866 rfl (lv_at hl 0 rfl) ?_
  refine lv_iconst (v := iZ 4) hx hb dL_law_867 rfl ?_
  refine lv_iadd hx hb dL_law_868 ?_
  refine lv_topi (fun x_7 ex_7 => ?_)
  obtain rfl : x_7 = iZ (i + 4) := ex_7.trans (iZ_add i 4)
  refine va_sld hx hb hX hbl hbA hS (zi4 hi hL) dL_law_869 ?_
  refine lv_topi (fun x_8 ex_8 => ?_)
  obtain rfl : x_8 = iZ z4 := ex_8.trans hz4
  refine CKV2 (As := [.int (iZ z1), .int (iZ z2), .int (iZ z3), .int (iZ z4)]) (rest := []) (tl := (GB k a IB LB FB QB VB r) ++ ((GC k a IC LC FC QC VC r) ++ ((GD k a ID LD FD QD VD r) ++ ((GR k a IR LR FR QR VR r) ++ (r.tl))))) hx hb hml hown hts hKK hP hD hS hA (p_light l D k (a 0) (a 1) (a 2) (a 3) (a 4) (a 5) (a 6) (a 7) (a 8) (a 9) (a 10) (a 11) (IA 0) (IA 1) (IA 2) (LA 0) (LA 1) ([.ref (a 26), .ref (a 27), .ref (a 28), .int (iZ (IA 3)), .int (iZ (IA 4)), .int (iZ (IA 5)), .int (iZ (IA 6))]) (a 23) (a 27) (a 28) (a 24) (a 25) (IA 3) (IA 4) (IA 5) (FA 0) (FA 1) z1 z2 z3 z4 rfl rfl rfl rfl rfl (by first | with_reducible assumption | omega) hx0 (by first | with_reducible assumption | omega) (by first | with_reducible assumption | omega) (by first | with_reducible assumption | omega) ⟨hz1a, hz1b⟩ ⟨hz2a, hz2b⟩ ⟨hz3a, hz3b⟩ ⟨hz4a, hz4b⟩) ci_X11_light qm_L_84 ⟨Nat.le_of_ble_eq_true rfl, Nat.le_of_ble_eq_true rfl⟩ (lroom _) [0, 1, 2, 6, 7] [3, 4, 5, 8, 9, 10, 11, 12, 13, 14, 15, 16, 17, 18, 19, 20, 21, 22, 23, 24, 25] rfl rfl rfl (by decide +kernel) (by decide +kernel) (by decide +kernel) 0 rfl rfl rfl hl.1 rfl (Nat.le_of_ble_eq_true rfl) dL_law_870 (fun u_9 H locs hφ hP hD hS => ?_)
  have p_10 : (((0 ≤ z1 ∧ z1 < (IA 3)) ∧ (0 ≤ z3 ∧ z3 < (IA 3)) ∧ (0 ≤ z2 ∧ z2 ≤ 500) ∧ (0 ≤ z4 ∧ z4 ≤ 500)) ∧ (u_9.1.1 : Int) = lt (FA 0) z1 z2 z3 z4) ∨ (¬ ((0 ≤ z1 ∧ z1 < (IA 3)) ∧ (0 ≤ z3 ∧ z3 < (IA 3)) ∧ (0 ≤ z2 ∧ z2 ≤ 500) ∧ (0 ≤ z4 ∧ z4 ≤ 500)) ∧ (u_9.1.1 : Int) = -1) := hφ
  obtain ⟨hP, hD⟩ := PD.by3 (is := [21, 22, 23, 0, 1, 2, 24, 25, 3, 4, 5, 6, 7, 8, 9, 10, 11, 12, 13, 14, 15, 16, 17, 18, 19, 20]) (y := (GA k a (u9 IA 2 u_9.1.2) LA FA QA VA r)) ⟨hP, hD⟩ (by decide +kernel) rfl rfl
  refine W.eq (g2 := F0 m 873 ls [.int (iZ u_9.1.1)]) rfl ?_
  refine lv_pop hx hb dL_law_873 rfl ?_
  refine lv_aload_n hx hb dL_law_874 rfl (lv_at hl 1 rfl) ?_
  refine lv_aload_n hx hb dL_law_875 rfl (lv_at hl 3 rfl) ?_
  refine lv_iload_n hx hb dL_law_876 rfl (lv_at hl 0 rfl) ?_
  refine lv_iconst (v := iZ 1) hx hb dL_law_877 rfl ?_
  refine lv_iadd hx hb dL_law_878 ?_
  refine lv_topi (fun x_11 ex_11 => ?_)
  obtain rfl : x_11 = iZ (i + 1) := ex_11.trans (iZ_add i 1)
  refine va_sld hx hb hX hbl hbA hS (zi1 hi hL) dL_law_879 ?_
  refine lv_topi (fun x_12 ex_12 => ?_)
  obtain rfl : x_12 = iZ z1 := ex_12.trans hz1
  refine lv_aload_n hx hb dL_law_880 rfl (lv_at hl 3 rfl) ?_
  refine lv_iload_n hx hb dL_law_881 rfl (lv_at hl 0 rfl) ?_
  refine lv_iconst (v := iZ 2) hx hb dL_law_882 rfl ?_
  refine lv_iadd hx hb dL_law_883 ?_
  refine lv_topi (fun x_13 ex_13 => ?_)
  obtain rfl : x_13 = iZ (i + 2) := ex_13.trans (iZ_add i 2)
  refine va_sld hx hb hX hbl hbA hS (zi2 hi hL) dL_law_884 ?_
  refine lv_topi (fun x_14 ex_14 => ?_)
  obtain rfl : x_14 = iZ z2 := ex_14.trans hz2
  refine lv_aload_n hx hb dL_law_885 rfl (lv_at hl 3 rfl) ?_
  refine lv_iload_n hx hb dL_law_886 rfl (lv_at hl 0 rfl) ?_
  refine lv_iconst (v := iZ 3) hx hb dL_law_887 rfl ?_
  refine lv_iadd hx hb dL_law_888 ?_
  refine lv_topi (fun x_15 ex_15 => ?_)
  obtain rfl : x_15 = iZ (i + 3) := ex_15.trans (iZ_add i 3)
  refine va_sld hx hb hX hbl hbA hS (zi3 hi hL) dL_law_889 ?_
  refine lv_topi (fun x_16 ex_16 => ?_)
  obtain rfl : x_16 = iZ z3 := ex_16.trans hz3
  refine lv_aload_n hx hb dL_law_890 rfl (lv_at hl 3 rfl) ?_
  refine lv_iload_n hx hb dL_law_891 rfl (lv_at hl 0 rfl) ?_
  refine lv_iconst (v := iZ 4) hx hb dL_law_892 rfl ?_
  refine lv_iadd hx hb dL_law_893 ?_
  refine lv_topi (fun x_17 ex_17 => ?_)
  obtain rfl : x_17 = iZ (i + 4) := ex_17.trans (iZ_add i 4)
  refine va_sld hx hb hX hbl hbA hS (zi4 hi hL) dL_law_894 ?_
  refine lv_topi (fun x_18 ex_18 => ?_)
  obtain rfl : x_18 = iZ z4 := ex_18.trans hz4
  obtain ⟨hP, hD⟩ := PD.fr5 ⟨hP, hD⟩
  refine CKV2 (As := [.int (iZ z1), .int (iZ z2), .int (iZ z3), .int (iZ z4)]) (rest := []) (tl := (GA k a (u9 IA 2 u_9.1.2) LA FA QA VA r) ++ ((GB k a IB LB FB QB VB r) ++ ((GC k a IC LC FC QC VC r) ++ ((GD k a ID LD FD QD VD r) ++ (r.tl))))) hx hb hml hown hts hKK hP hD hS hA (q_light l D k (a 106) (a 107) (a 108) (a 109) (a 110) (a 111) (a 112) (a 113) (a 114) (a 115) (a 116) (a 117) (a 118) (a 119) (a 120) (a 121) (a 122) (IR 0) (IR 1) (IR 2) (IR 3) (IR 4) (IR 5) (IR 6) (IR 7) (IR 8) (IR 9) (IR 10) (IR 11) (IR 12) (IR 13) (IR 14) (IR 15) (IR 16) (IR 17) (LR 0) (LR 1) (FR 0) z1 z2 z3 z4 hM ⟨hz1a, hz1b⟩ ⟨hz2a, hz2b⟩ ⟨hz3a, hz3b⟩ ⟨hz4a, hz4b⟩) ci_X12_light qm_L_88 ⟨Nat.le_of_ble_eq_true rfl, Nat.le_of_ble_eq_true rfl⟩ (lroom _) [0, 1] [2, 3, 4, 5, 6, 7, 8, 9, 10, 11, 12, 13, 14, 15, 16] rfl rfl rfl (by decide +kernel) (by decide +kernel) (by decide +kernel) 0 rfl rfl rfl hl.1 rfl (Nat.le_of_ble_eq_true rfl) dL_law_895 (fun u_19 H locs hφ hP hD hS => ?_)
  have p_20 : (((0 ≤ z1 ∧ z1 < (gz (FR 0) 0)) ∧ (0 ≤ z3 ∧ z3 < (gz (FR 0) 0)) ∧ (0 ≤ z2 ∧ z2 ≤ 500) ∧ (0 ≤ z4 ∧ z4 ≤ 500)) ∧ (u_19.1.1 : Int) = lt (sh (FR 0) 10) z1 z2 z3 z4) ∨ (¬ ((0 ≤ z1 ∧ z1 < (gz (FR 0) 0)) ∧ (0 ≤ z3 ∧ z3 < (gz (FR 0) 0)) ∧ (0 ≤ z2 ∧ z2 ≤ 500) ∧ (0 ≤ z4 ∧ z4 ≤ 500)) ∧ (u_19.1.1 : Int) = -1) := hφ
  obtain ⟨hP, hD⟩ := PD.by3 (is := [15, 16, 0, 1, 2, 3, 4, 5, 6, 7, 8, 9, 10, 11, 12, 13, 14]) (y := (GR k a (u9 IR 0 u_19.1.2) LR FR QR VR r)) ⟨hP, hD⟩ (by decide +kernel) rfl rfl
  refine W.eq (g2 := F0 m 898 ls [.int (iZ u_19.1.1)]) rfl ?_
  refine lv_pop hx hb dL_law_898 rfl ?_
  refine lv_goto (tgt := 2846) hx hb dL_law_899 rfl ?_
  obtain ⟨hP, hD⟩ := PD.fr5 ⟨hP, hD⟩
  obtain ⟨hP, hD⟩ := PD.fr5 ⟨hP, hD⟩
  obtain ⟨hP, hD⟩ := PD.fr5 ⟨hP, hD⟩
  obtain ⟨hP, hD⟩ := PD.fr5 ⟨hP, hD⟩
  exact hk a (u9 IA 2 u_9.1.2) LA FA QA VA IB LB FB QB VB IC LC FC QC VC ID LD FD QD VD (u9 IR 0 u_19.1.2) LR FR QR VR r H locs ls (show INV _ _ _ _ _ _ _ _ _ _ _ _ _ _ _ from ⟨hWI, hWI_0, hWI_1, hWI_2, hrd, htr0, htr1, htr2, htr3, hrgk, hrgt, hdrc, hev, hmk, hM, hMK, hTI, hFS, htd, hlt, rgH, rgS, rgY, hdr, hit, hmmk, heq, htq, hrel, hbf, htb, hkw, hSK, hSK0, hSK1, hSK2, hNE, hNE0, hNE1, hNE2, hLE, hYE, hQE, hLE0, hLE1, hLE2, hYE0, hYE1, hYE2⟩) hRT hP hD hS (lv_sub hl [0, 1, 2, 3] rfl)
end
