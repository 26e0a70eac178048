theorem qc_X11_sky : Cond.code yX11_sky cX11_sky 3 (some .int) ∈ gw := tbt (tb3 (List.mem_of_getElem? (i := 88) rfl)) rfl
theorem qi_yX11_sky : Cond.instanceMethod yX11_sky ∈ gw := tbt (tb3 (List.mem_of_getElem? (i := 86) rfl)) rfl
theorem qs_X11_sky : Cond.selects (yX11_sky).cls yX11_sky yX11_sky ∈ gw := tbt (tb3 (List.mem_of_getElem? (i := 87) rfl)) rfl
theorem ci_X11_sky : CIv yX11_sky cX11_sky 3 (some .int) 1 := ⟨qc_X11_sky, qi_yX11_sky, qs_X11_sky, qz_X11, by decide +kernel⟩
theorem qm_L_54 : Cond.methodLink RL 54 yX11_sky ∈ gw := tbt (tb3 (List.mem_of_getElem? (i := 85) rfl)) rfl
theorem qc_X12_sky : Cond.code yX12_sky cX12_sky 4 (some .int) ∈ gw := tbt (tb6 (List.mem_of_getElem? (i := 211) rfl)) rfl
theorem qi_yX12_sky : Cond.instanceMethod yX12_sky ∈ gw := tbt (tb6 (List.mem_of_getElem? (i := 209) rfl)) rfl
theorem qs_X12_sky : Cond.selects (yX12_sky).cls yX12_sky yX12_sky ∈ gw := tbt (tb6 (List.mem_of_getElem? (i := 210) rfl)) rfl
theorem ci_X12_sky : CIv yX12_sky cX12_sky 4 (some .int) 1 := ⟨qc_X12_sky, qi_yX12_sky, qs_X12_sky, qz_X12, by decide +kernel⟩
theorem qm_L_58 : Cond.methodLink RL 58 yX12_sky ∈ gw := tbt (tb6 (List.mem_of_getElem? (i := 208) rfl)) rfl
theorem qc_X11_years : Cond.code yX11_years cX11_years 3 (some .int) ∈ gw := tbt (tb3 (List.mem_of_getElem? (i := 208) rfl)) rfl
theorem qi_yX11_years : Cond.instanceMethod yX11_years ∈ gw := tbt (tb3 (List.mem_of_getElem? (i := 206) rfl)) rfl
theorem qs_X11_years : Cond.selects (yX11_years).cls yX11_years yX11_years ∈ gw := tbt (tb3 (List.mem_of_getElem? (i := 207) rfl)) rfl
theorem ci_X11_years : CIv yX11_years cX11_years 3 (some .int) 1 := ⟨qc_X11_years, qi_yX11_years, qs_X11_years, qz_X11, by decide +kernel⟩
theorem qm_L_59 : Cond.methodLink RL 59 yX11_years ∈ gw := tbt (tb3 (List.mem_of_getElem? (i := 205) rfl)) rfl
theorem qc_X12_years : Cond.code yX12_years cX12_years 4 (some .int) ∈ gw := tbt (tb7 (List.mem_of_getElem? (i := 70) rfl)) rfl
theorem qi_yX12_years : Cond.instanceMethod yX12_years ∈ gw := tbt (tb7 (List.mem_of_getElem? (i := 68) rfl)) rfl
theorem qs_X12_years : Cond.selects (yX12_years).cls yX12_years yX12_years ∈ gw := tbt (tb7 (List.mem_of_getElem? (i := 69) rfl)) rfl
theorem ci_X12_years : CIv yX12_years cX12_years 4 (some .int) 1 := ⟨qc_X12_years, qi_yX12_years, qs_X12_years, qz_X12, by decide +kernel⟩
theorem qm_L_62 : Cond.methodLink RL 62 yX12_years ∈ gw := tbt (tb7 (List.mem_of_getElem? (i := 67) rfl)) rfl
theorem qc_X11_fault : Cond.code yX11_fault cX11_fault 2 (some .int) ∈ gw := tbt (tb4 (List.mem_of_getElem? (i := 16) rfl)) rfl
theorem qi_yX11_fault : Cond.instanceMethod yX11_fault ∈ gw := tbt (tb4 (List.mem_of_getElem? (i := 14) rfl)) rfl
theorem qs_X11_fault : Cond.selects (yX11_fault).cls yX11_fault yX11_fault ∈ gw := tbt (tb4 (List.mem_of_getElem? (i := 15) rfl)) rfl
theorem ci_X11_fault : CIv yX11_fault cX11_fault 2 (some .int) 1 := ⟨qc_X11_fault, qi_yX11_fault, qs_X11_fault, qz_X11, by decide +kernel⟩
theorem qm_L_63 : Cond.methodLink RL 63 yX11_fault ∈ gw := tbt (tb4 (List.mem_of_getElem? (i := 13) rfl)) rfl
theorem qc_X12_fault : Cond.code yX12_fault cX12_fault 2 (some .int) ∈ gw := tbt (tb6 (List.mem_of_getElem? (i := 207) rfl)) rfl
theorem qi_yX12_fault : Cond.instanceMethod yX12_fault ∈ gw := tbt (tb6 (List.mem_of_getElem? (i := 205) rfl)) rfl
theorem qs_X12_fault : Cond.selects (yX12_fault).cls yX12_fault yX12_fault ∈ gw := tbt (tb6 (List.mem_of_getElem? (i := 206) rfl)) rfl
theorem ci_X12_fault : CIv yX12_fault cX12_fault 2 (some .int) 1 := ⟨qc_X12_fault, qi_yX12_fault, qs_X12_fault, qz_X12, by decide +kernel⟩
theorem qm_L_66 : Cond.methodLink RL 66 yX12_fault ∈ gw := tbt (tb6 (List.mem_of_getElem? (i := 204) rfl)) rfl
theorem qc_X11_told : Cond.code yX11_told cX11_told 2 (some .int) ∈ gw := tbt (tb4 (List.mem_of_getElem? (i := 20) rfl)) rfl
theorem qi_yX11_told : Cond.instanceMethod yX11_told ∈ gw := tbt (tb4 (List.mem_of_getElem? (i := 18) rfl)) rfl
theorem qs_X11_told : Cond.selects (yX11_told).cls yX11_told yX11_told ∈ gw := tbt (tb4 (List.mem_of_getElem? (i := 19) rfl)) rfl
theorem ci_X11_told : CIv yX11_told cX11_told 2 (some .int) 1 := ⟨qc_X11_told, qi_yX11_told, qs_X11_told, qz_X11, by decide +kernel⟩
theorem qm_L_67 : Cond.methodLink RL 67 yX11_told ∈ gw := tbt (tb4 (List.mem_of_getElem? (i := 17) rfl)) rfl
theorem qc_X12_told : Cond.code yX12_told cX12_told 2 (some .int) ∈ gw := tbt (tb7 (List.mem_of_getElem? (i := 90) rfl)) rfl
theorem qi_yX12_told : Cond.instanceMethod yX12_told ∈ gw := tbt (tb7 (List.mem_of_getElem? (i := 88) rfl)) rfl
theorem qs_X12_told : Cond.selects (yX12_told).cls yX12_told yX12_told ∈ gw := tbt (tb7 (List.mem_of_getElem? (i := 89) rfl)) rfl
theorem ci_X12_told : CIv yX12_told cX12_told 2 (some .int) 1 := ⟨qc_X12_told, qi_yX12_told, qs_X12_told, qz_X12, by decide +kernel⟩
theorem qm_L_70 : Cond.methodLink RL 70 yX12_told ∈ gw := tbt (tb7 (List.mem_of_getElem? (i := 87) rfl)) rfl
theorem qc_X11_rock : Cond.code yX11_rock cX11_rock 3 (some .int) ∈ gw := tbt (tb4 (List.mem_of_getElem? (i := 28) rfl)) rfl
theorem qi_yX11_rock : Cond.instanceMethod yX11_rock ∈ gw := tbt (tb4 (List.mem_of_getElem? (i := 26) rfl)) rfl
theorem qs_X11_rock : Cond.selects (yX11_rock).cls yX11_rock yX11_rock ∈ gw := tbt (tb4 (List.mem_of_getElem? (i := 27) rfl)) rfl
theorem ci_X11_rock : CIv yX11_rock cX11_rock 3 (some .int) 2 := ⟨qc_X11_rock, qi_yX11_rock, qs_X11_rock, qz_X11, by decide +kernel⟩
theorem qm_L_71 : Cond.methodLink RL 71 yX11_rock ∈ gw := tbt (tb4 (List.mem_of_getElem? (i := 25) rfl)) rfl
theorem qc_X12_rock : Cond.code yX12_rock cX12_rock 3 (some .int) ∈ gw := tbt (tb7 (List.mem_of_getElem? (i := 94) rfl)) rfl
theorem qi_yX12_rock : Cond.instanceMethod yX12_rock ∈ gw := tbt (tb7 (List.mem_of_getElem? (i := 92) rfl)) rfl
theorem qs_X12_rock : Cond.selects (yX12_rock).cls yX12_rock yX12_rock ∈ gw := tbt (tb7 (List.mem_of_getElem? (i := 93) rfl)) rfl
theorem ci_X12_rock : CIv yX12_rock cX12_rock 3 (some .int) 2 := ⟨qc_X12_rock, qi_yX12_rock, qs_X12_rock, qz_X12, by decide +kernel⟩
theorem qm_L_75 : Cond.methodLink RL 75 yX12_rock ∈ gw := tbt (tb7 (List.mem_of_getElem? (i := 91) rfl)) rfl
theorem qc_X11_ice : Cond.code yX11_ice cX11_ice 3 (some .int) ∈ gw := tbt (tb4 (List.mem_of_getElem? (i := 40) rfl)) rfl
theorem qi_yX11_ice : Cond.instanceMethod yX11_ice ∈ gw := tbt (tb4 (List.mem_of_getElem? (i := 38) rfl)) rfl
theorem qs_X11_ice : Cond.selects (yX11_ice).cls yX11_ice yX11_ice ∈ gw := tbt (tb4 (List.mem_of_getElem? (i := 39) rfl)) rfl
theorem ci_X11_ice : CIv yX11_ice cX11_ice 3 (some .int) 2 := ⟨qc_X11_ice, qi_yX11_ice, qs_X11_ice, qz_X11, by decide +kernel⟩
theorem qm_L_76 : Cond.methodLink RL 76 yX11_ice ∈ gw := tbt (tb4 (List.mem_of_getElem? (i := 37) rfl)) rfl
theorem qc_X12_ice : Cond.code yX12_ice cX12_ice 3 (some .int) ∈ gw := tbt (tb7 (List.mem_of_getElem? (i := 105) rfl)) rfl
theorem qi_yX12_ice : Cond.instanceMethod yX12_ice ∈ gw := tbt (tb7 (List.mem_of_getElem? (i := 103) rfl)) rfl
theorem qs_X12_ice : Cond.selects (yX12_ice).cls yX12_ice yX12_ice ∈ gw := tbt (tb7 (List.mem_of_getElem? (i := 104) rfl)) rfl
theorem ci_X12_ice : CIv yX12_ice cX12_ice 3 (some .int) 2 := ⟨qc_X12_ice, qi_yX12_ice, qs_X12_ice, qz_X12, by decide +kernel⟩
theorem qm_L_79 : Cond.methodLink RL 79 yX12_ice ∈ gw := tbt (tb7 (List.mem_of_getElem? (i := 102) rfl)) rfl
theorem qc_X11_direction : Cond.code yX11_direction cX11_direction 3 (some .int) ∈ gw := tbt (tb4 (List.mem_of_getElem? (i := 44) rfl)) rfl
theorem qi_yX11_direction : Cond.instanceMethod yX11_direction ∈ gw := tbt (tb4 (List.mem_of_getElem? (i := 42) rfl)) rfl
theorem qs_X11_direction : Cond.selects (yX11_direction).cls yX11_direction yX11_direction ∈ gw := tbt (tb4 (List.mem_of_getElem? (i := 43) rfl)) rfl
theorem ci_X11_direction : CIv yX11_direction cX11_direction 3 (some .int) 2 := ⟨qc_X11_direction, qi_yX11_direction, qs_X11_direction, qz_X11, by decide +kernel⟩
theorem qm_L_80 : Cond.methodLink RL 80 yX11_direction ∈ gw := tbt (tb4 (List.mem_of_getElem? (i := 41) rfl)) rfl
theorem qc_X12_direction : Cond.code yX12_direction cX12_direction 3 (some .int) ∈ gw := tbt (tb7 (List.mem_of_getElem? (i := 109) rfl)) rfl
theorem qi_yX12_direction : Cond.instanceMethod yX12_direction ∈ gw := tbt (tb7 (List.mem_of_getElem? (i := 107) rfl)) rfl
theorem qs_X12_direction : Cond.selects (yX12_direction).cls yX12_direction yX12_direction ∈ gw := tbt (tb7 (List.mem_of_getElem? (i := 108) rfl)) rfl
theorem ci_X12_direction : CIv yX12_direction cX12_direction 3 (some .int) 2 := ⟨qc_X12_direction, qi_yX12_direction, qs_X12_direction, qz_X12, by decide +kernel⟩
theorem qm_L_83 : Cond.methodLink RL 83 yX12_direction ∈ gw := tbt (tb7 (List.mem_of_getElem? (i := 106) rfl)) rfl
theorem qc_X11_light : Cond.code yX11_light cX11_light 5 (some .int) ∈ gw := tbt (tb4 (List.mem_of_getElem? (i := 52) rfl)) rfl
theorem qi_yX11_light : Cond.instanceMethod yX11_light ∈ gw := tbt (tb4 (List.mem_of_getElem? (i := 50) rfl)) rfl
theorem qs_X11_light : Cond.selects (yX11_light).cls yX11_light yX11_light ∈ gw := tbt (tb4 (List.mem_of_getElem? (i := 51) rfl)) rfl
theorem ci_X11_light : CIv yX11_light cX11_light 5 (some .int) 4 := ⟨qc_X11_light, qi_yX11_light, qs_X11_light, qz_X11, by decide +kernel⟩
theorem qm_L_84 : Cond.methodLink RL 84 yX11_light ∈ gw := tbt (tb4 (List.mem_of_getElem? (i := 49) rfl)) rfl
theorem qc_X12_light : Cond.code yX12_light cX12_light 5 (some .int) ∈ gw := tbt (tb7 (List.mem_of_getElem? (i := 120) rfl)) rfl
theorem qi_yX12_light : Cond.instanceMethod yX12_light ∈ gw := tbt (tb7 (List.mem_of_getElem? (i := 118) rfl)) rfl
theorem qs_X12_light : Cond.selects (yX12_light).cls yX12_light yX12_light ∈ gw := tbt (tb7 (List.mem_of_getElem? (i := 119) rfl)) rfl
theorem ci_X12_light : CIv yX12_light cX12_light 5 (some .int) 4 := ⟨qc_X12_light, qi_yX12_light, qs_X12_light, qz_X12, by decide +kernel⟩
theorem qm_L_88 : Cond.methodLink RL 88 yX12_light ∈ gw := tbt (tb7 (List.mem_of_getElem? (i := 117) rfl)) rfl
theorem dL_law_658 : decode cL_law 658 = .ok (.aload_n 1, 1) := fq1_43 (fl_10 (j := 18) rfl rfl)
theorem dL_law_659 : decode cL_law 659 = .ok (.aload_n 0, 1) := fq1_42 (fl_10 (j := 19) rfl rfl)
theorem dL_law_660 : decode cL_law 660 = .ok (.iload_n 3, 1) := fq1_29 (fl_10 (j := 20) rfl rfl)
theorem dL_law_661 : decode cL_law 661 = .ok (.iconst 1, 1) := fq1_4 (fl_10 (j := 21) rfl rfl)
theorem dL_law_662 : decode cL_law 662 = .ok (.iadd, 1) := fq1_96 (fl_10 (j := 22) rfl rfl)
theorem dL_law_663 : decode cL_law 663 = .ok (.iaload, 1) := fq1_46 (fl_10 (j := 23) rfl rfl)
theorem dL_law_664 : decode cL_law 664 = .ok (.invokevirtual 54, 3) := fq3_182 (fl_10 (j := 24) rfl rfl) (fl_10 (j := 25) rfl rfl) (fl_10 (j := 26) rfl rfl) (by decide)
theorem dL_law_667 : decode cL_law 667 = .ok (.pop, 1) := fq1_87 (fl_10 (j := 27) rfl rfl)
theorem dL_law_668 : decode cL_law 668 = .ok (.aload_n 2, 1) := fq1_44 (fl_10 (j := 28) rfl rfl)
theorem dL_law_669 : decode cL_law 669 = .ok (.aload_n 0, 1) := fq1_42 (fl_10 (j := 29) rfl rfl)
theorem dL_law_670 : decode cL_law 670 = .ok (.iload_n 3, 1) := fq1_29 (fl_10 (j := 30) rfl rfl)
theorem dL_law_671 : decode cL_law 671 = .ok (.iconst 1, 1) := fq1_4 (fl_10 (j := 31) rfl rfl)
theorem dL_law_672 : decode cL_law 672 = .ok (.iadd, 1) := fq1_96 (fl_10 (j := 32) rfl rfl)
theorem dL_law_673 : decode cL_law 673 = .ok (.iaload, 1) := fq1_46 (fl_10 (j := 33) rfl rfl)
theorem dL_law_674 : decode cL_law 674 = .ok (.invokevirtual 58, 3) := fq3_182 (fl_10 (j := 34) rfl rfl) (fl_10 (j := 35) rfl rfl) (fl_10 (j := 36) rfl rfl) (by decide)
theorem dL_law_677 : decode cL_law 677 = .ok (.pop, 1) := fq1_87 (fl_10 (j := 37) rfl rfl)
theorem dL_law_678 : decode cL_law 678 = .ok (.goto 2168, 3) := fq3_167 (fl_10 (j := 38) rfl rfl) (fl_10 (j := 39) rfl rfl) (fl_10 (j := 40) rfl rfl) (by decide)
theorem dL_law_681 : decode cL_law 681 = .ok (.aload_n 1, 1) := fq1_43 (fl_10 (j := 41) rfl rfl)
theorem dL_law_682 : decode cL_law 682 = .ok (.aload_n 0, 1) := fq1_42 (fl_10 (j := 42) rfl rfl)
theorem dL_law_683 : decode cL_law 683 = .ok (.iload_n 3, 1) := fq1_29 (fl_10 (j := 43) rfl rfl)
theorem dL_law_684 : decode cL_law 684 = .ok (.iconst 1, 1) := fq1_4 (fl_10 (j := 44) rfl rfl)
theorem dL_law_685 : decode cL_law 685 = .ok (.iadd, 1) := fq1_96 (fl_10 (j := 45) rfl rfl)
theorem dL_law_686 : decode cL_law 686 = .ok (.iaload, 1) := fq1_46 (fl_10 (j := 46) rfl rfl)
theorem dL_law_687 : decode cL_law 687 = .ok (.invokevirtual 59, 3) := fq3_182 (fl_10 (j := 47) rfl rfl) (fl_10 (j := 48) rfl rfl) (fl_10 (j := 49) rfl rfl) (by decide)
theorem dL_law_690 : decode cL_law 690 = .ok (.pop, 1) := fq1_87 (fl_10 (j := 50) rfl rfl)
theorem dL_law_691 : decode cL_law 691 = .ok (.aload_n 2, 1) := fq1_44 (fl_10 (j := 51) rfl rfl)
theorem dL_law_692 : decode cL_law 692 = .ok (.aload_n 0, 1) := fq1_42 (fl_10 (j := 52) rfl rfl)
theorem dL_law_693 : decode cL_law 693 = .ok (.iload_n 3, 1) := fq1_29 (fl_10 (j := 53) rfl rfl)
theorem dL_law_694 : decode cL_law 694 = .ok (.iconst 1, 1) := fq1_4 (fl_10 (j := 54) rfl rfl)
theorem dL_law_695 : decode cL_law 695 = .ok (.iadd, 1) := fq1_96 (fl_10 (j := 55) rfl rfl)
theorem dL_law_696 : decode cL_law 696 = .ok (.iaload, 1) := fq1_46 (fl_10 (j := 56) rfl rfl)
theorem dL_law_697 : decode cL_law 697 = .ok (.invokevirtual 62, 3) := fq3_182 (fl_10 (j := 57) rfl rfl) (fl_10 (j := 58) rfl rfl) (fl_10 (j := 59) rfl rfl) (by decide)
theorem dL_law_700 : decode cL_law 700 = .ok (.pop, 1) := fq1_87 (fl_10 (j := 60) rfl rfl)
theorem dL_law_701 : decode cL_law 701 = .ok (.goto 2145, 3) := fq3_167 (fl_10 (j := 61) rfl rfl) (fl_10 (j := 62) rfl rfl) (fl_10 (j := 63) rfl rfl) (by decide)
theorem dL_law_704 : decode cL_law 704 = .ok (.aload_n 1, 1) := fq1_43 (fl_11 (j := 0) rfl rfl)
theorem dL_law_705 : decode cL_law 705 = .ok (.aload_n 0, 1) := fq1_42 (fl_11 (j := 1) rfl rfl)
theorem dL_law_706 : decode cL_law 706 = .ok (.iload_n 3, 1) := fq1_29 (fl_11 (j := 2) rfl rfl)
theorem dL_law_707 : decode cL_law 707 = .ok (.iconst 1, 1) := fq1_4 (fl_11 (j := 3) rfl rfl)
theorem dL_law_708 : decode cL_law 708 = .ok (.iadd, 1) := fq1_96 (fl_11 (j := 4) rfl rfl)
theorem dL_law_709 : decode cL_law 709 = .ok (.iaload, 1) := fq1_46 (fl_11 (j := 5) rfl rfl)
theorem dL_law_710 : decode cL_law 710 = .ok (.invokevirtual 63, 3) := fq3_182 (fl_11 (j := 6) rfl rfl) (fl_11 (j := 7) rfl rfl) (fl_11 (j := 8) rfl rfl) (by decide)
theorem dL_law_713 : decode cL_law 713 = .ok (.pop, 1) := fq1_87 (fl_11 (j := 9) rfl rfl)
theorem dL_law_714 : decode cL_law 714 = .ok (.aload_n 2, 1) := fq1_44 (fl_11 (j := 10) rfl rfl)
theorem dL_law_715 : decode cL_law 715 = .ok (.aload_n 0, 1) := fq1_42 (fl_11 (j := 11) rfl rfl)
theorem dL_law_716 : decode cL_law 716 = .ok (.iload_n 3, 1) := fq1_29 (fl_11 (j := 12) rfl rfl)
theorem dL_law_717 : decode cL_law 717 = .ok (.iconst 1, 1) := fq1_4 (fl_11 (j := 13) rfl rfl)
theorem dL_law_718 : decode cL_law 718 = .ok (.iadd, 1) := fq1_96 (fl_11 (j := 14) rfl rfl)
theorem dL_law_719 : decode cL_law 719 = .ok (.iaload, 1) := fq1_46 (fl_11 (j := 15) rfl rfl)
theorem dL_law_720 : decode cL_law 720 = .ok (.invokevirtual 66, 3) := fq3_182 (fl_11 (j := 16) rfl rfl) (fl_11 (j := 17) rfl rfl) (fl_11 (j := 18) rfl rfl) (by decide)
theorem dL_law_723 : decode cL_law 723 = .ok (.pop, 1) := fq1_87 (fl_11 (j := 19) rfl rfl)
theorem dL_law_724 : decode cL_law 724 = .ok (.goto 2122, 3) := fq3_167 (fl_11 (j := 20) rfl rfl) (fl_11 (j := 21) rfl rfl) (fl_11 (j := 22) rfl rfl) (by decide)
theorem dL_law_727 : decode cL_law 727 = .ok (.aload_n 1, 1) := fq1_43 (fl_11 (j := 23) rfl rfl)
theorem dL_law_728 : decode cL_law 728 = .ok (.aload_n 0, 1) := fq1_42 (fl_11 (j := 24) rfl rfl)
theorem dL_law_729 : decode cL_law 729 = .ok (.iload_n 3, 1) := fq1_29 (fl_11 (j := 25) rfl rfl)
theorem dL_law_730 : decode cL_law 730 = .ok (.iconst 1, 1) := fq1_4 (fl_11 (j := 26) rfl rfl)
theorem dL_law_731 : decode cL_law 731 = .ok (.iadd, 1) := fq1_96 (fl_11 (j := 27) rfl rfl)
theorem dL_law_732 : decode cL_law 732 = .ok (.iaload, 1) := fq1_46 (fl_11 (j := 28) rfl rfl)
theorem dL_law_733 : decode cL_law 733 = .ok (.invokevirtual 67, 3) := fq3_182 (fl_11 (j := 29) rfl rfl) (fl_11 (j := 30) rfl rfl) (fl_11 (j := 31) rfl rfl) (by decide)
theorem dL_law_736 : decode cL_law 736 = .ok (.pop, 1) := fq1_87 (fl_11 (j := 32) rfl rfl)
theorem dL_law_737 : decode cL_law 737 = .ok (.aload_n 2, 1) := fq1_44 (fl_11 (j := 33) rfl rfl)
theorem dL_law_738 : decode cL_law 738 = .ok (.aload_n 0, 1) := fq1_42 (fl_11 (j := 34) rfl rfl)
theorem dL_law_739 : decode cL_law 739 = .ok (.iload_n 3, 1) := fq1_29 (fl_11 (j := 35) rfl rfl)
theorem dL_law_740 : decode cL_law 740 = .ok (.iconst 1, 1) := fq1_4 (fl_11 (j := 36) rfl rfl)
theorem dL_law_741 : decode cL_law 741 = .ok (.iadd, 1) := fq1_96 (fl_11 (j := 37) rfl rfl)
theorem dL_law_742 : decode cL_law 742 = .ok (.iaload, 1) := fq1_46 (fl_11 (j := 38) rfl rfl)
theorem dL_law_743 : decode cL_law 743 = .ok (.invokevirtual 70, 3) := fq3_182 (fl_11 (j := 39) rfl rfl) (fl_11 (j := 40) rfl rfl) (fl_11 (j := 41) rfl rfl) (by decide)
theorem dL_law_746 : decode cL_law 746 = .ok (.pop, 1) := fq1_87 (fl_11 (j := 42) rfl rfl)
theorem dL_law_747 : decode cL_law 747 = .ok (.goto 2099, 3) := fq3_167 (fl_11 (j := 43) rfl rfl) (fl_11 (j := 44) rfl rfl) (fl_11 (j := 45) rfl rfl) (by decide)
theorem dL_law_750 : decode cL_law 750 = .ok (.aload_n 1, 1) := fq1_43 (fl_11 (j := 46) rfl rfl)
theorem dL_law_751 : decode cL_law 751 = .ok (.aload_n 0, 1) := fq1_42 (fl_11 (j := 47) rfl rfl)
theorem dL_law_752 : decode cL_law 752 = .ok (.iload_n 3, 1) := fq1_29 (fl_11 (j := 48) rfl rfl)
theorem dL_law_753 : decode cL_law 753 = .ok (.iconst 1, 1) := fq1_4 (fl_11 (j := 49) rfl rfl)
theorem dL_law_754 : decode cL_law 754 = .ok (.iadd, 1) := fq1_96 (fl_11 (j := 50) rfl rfl)
theorem dL_law_755 : decode cL_law 755 = .ok (.iaload, 1) := fq1_46 (fl_11 (j := 51) rfl rfl)
theorem dL_law_756 : decode cL_law 756 = .ok (.aload_n 0, 1) := fq1_42 (fl_11 (j := 52) rfl rfl)
theorem dL_law_757 : decode cL_law 757 = .ok (.iload_n 3, 1) := fq1_29 (fl_11 (j := 53) rfl rfl)
theorem dL_law_758 : decode cL_law 758 = .ok (.iconst 2, 1) := fq1_5 (fl_11 (j := 54) rfl rfl)
theorem dL_law_759 : decode cL_law 759 = .ok (.iadd, 1) := fq1_96 (fl_11 (j := 55) rfl rfl)
theorem dL_law_760 : decode cL_law 760 = .ok (.iaload, 1) := fq1_46 (fl_11 (j := 56) rfl rfl)
theorem dL_law_761 : decode cL_law 761 = .ok (.invokevirtual 71, 3) := fq3_182 (fl_11 (j := 57) rfl rfl) (fl_11 (j := 58) rfl rfl) (fl_11 (j := 59) rfl rfl) (by decide)
theorem dL_law_764 : decode cL_law 764 = .ok (.pop, 1) := fq1_87 (fl_11 (j := 60) rfl rfl)
theorem dL_law_765 : decode cL_law 765 = .ok (.aload_n 2, 1) := fq1_44 (fl_11 (j := 61) rfl rfl)
theorem dL_law_766 : decode cL_law 766 = .ok (.aload_n 0, 1) := fq1_42 (fl_11 (j := 62) rfl rfl)
theorem dL_law_767 : decode cL_law 767 = .ok (.iload_n 3, 1) := fq1_29 (fl_11 (j := 63) rfl rfl)
theorem dL_law_768 : decode cL_law 768 = .ok (.iconst 1, 1) := fq1_4 (fl_12 (j := 0) rfl rfl)
theorem dL_law_769 : decode cL_law 769 = .ok (.iadd, 1) := fq1_96 (fl_12 (j := 1) rfl rfl)
theorem dL_law_770 : decode cL_law 770 = .ok (.iaload, 1) := fq1_46 (fl_12 (j := 2) rfl rfl)
theorem dL_law_771 : decode cL_law 771 = .ok (.aload_n 0, 1) := fq1_42 (fl_12 (j := 3) rfl rfl)
theorem dL_law_772 : decode cL_law 772 = .ok (.iload_n 3, 1) := fq1_29 (fl_12 (j := 4) rfl rfl)
theorem dL_law_773 : decode cL_law 773 = .ok (.iconst 2, 1) := fq1_5 (fl_12 (j := 5) rfl rfl)
theorem dL_law_774 : decode cL_law 774 = .ok (.iadd, 1) := fq1_96 (fl_12 (j := 6) rfl rfl)
theorem dL_law_775 : decode cL_law 775 = .ok (.iaload, 1) := fq1_46 (fl_12 (j := 7) rfl rfl)
theorem dL_law_776 : decode cL_law 776 = .ok (.invokevirtual 75, 3) := fq3_182 (fl_12 (j := 8) rfl rfl) (fl_12 (j := 9) rfl rfl) (fl_12 (j := 10) rfl rfl) (by decide)
theorem dL_law_779 : decode cL_law 779 = .ok (.pop, 1) := fq1_87 (fl_12 (j := 11) rfl rfl)
theorem dL_law_780 : decode cL_law 780 = .ok (.goto 2066, 3) := fq3_167 (fl_12 (j := 12) rfl rfl) (fl_12 (j := 13) rfl rfl) (fl_12 (j := 14) rfl rfl) (by decide)
theorem dL_law_783 : decode cL_law 783 = .ok (.aload_n 1, 1) := fq1_43 (fl_12 (j := 15) rfl rfl)
theorem dL_law_784 : decode cL_law 784 = .ok (.aload_n 0, 1) := fq1_42 (fl_12 (j := 16) rfl rfl)
theorem dL_law_785 : decode cL_law 785 = .ok (.iload_n 3, 1) := fq1_29 (fl_12 (j := 17) rfl rfl)
theorem dL_law_786 : decode cL_law 786 = .ok (.iconst 1, 1) := fq1_4 (fl_12 (j := 18) rfl rfl)
theorem dL_law_787 : decode cL_law 787 = .ok (.iadd, 1) := fq1_96 (fl_12 (j := 19) rfl rfl)
theorem dL_law_788 : decode cL_law 788 = .ok (.iaload, 1) := fq1_46 (fl_12 (j := 20) rfl rfl)
theorem dL_law_789 : decode cL_law 789 = .ok (.aload_n 0, 1) := fq1_42 (fl_12 (j := 21) rfl rfl)
theorem dL_law_790 : decode cL_law 790 = .ok (.iload_n 3, 1) := fq1_29 (fl_12 (j := 22) rfl rfl)
theorem dL_law_791 : decode cL_law 791 = .ok (.iconst 2, 1) := fq1_5 (fl_12 (j := 23) rfl rfl)
theorem dL_law_792 : decode cL_law 792 = .ok (.iadd, 1) := fq1_96 (fl_12 (j := 24) rfl rfl)
theorem dL_law_793 : decode cL_law 793 = .ok (.iaload, 1) := fq1_46 (fl_12 (j := 25) rfl rfl)
theorem dL_law_794 : decode cL_law 794 = .ok (.invokevirtual 76, 3) := fq3_182 (fl_12 (j := 26) rfl rfl) (fl_12 (j := 27) rfl rfl) (fl_12 (j := 28) rfl rfl) (by decide)
theorem dL_law_797 : decode cL_law 797 = .ok (.pop, 1) := fq1_87 (fl_12 (j := 29) rfl rfl)
theorem dL_law_798 : decode cL_law 798 = .ok (.aload_n 2, 1) := fq1_44 (fl_12 (j := 30) rfl rfl)
theorem dL_law_799 : decode cL_law 799 = .ok (.aload_n 0, 1) := fq1_42 (fl_12 (j := 31) rfl rfl)
theorem dL_law_800 : decode cL_law 800 = .ok (.iload_n 3, 1) := fq1_29 (fl_12 (j := 32) rfl rfl)
theorem dL_law_801 : decode cL_law 801 = .ok (.iconst 1, 1) := fq1_4 (fl_12 (j := 33) rfl rfl)
theorem dL_law_802 : decode cL_law 802 = .ok (.iadd, 1) := fq1_96 (fl_12 (j := 34) rfl rfl)
theorem dL_law_803 : decode cL_law 803 = .ok (.iaload, 1) := fq1_46 (fl_12 (j := 35) rfl rfl)
theorem dL_law_804 : decode cL_law 804 = .ok (.aload_n 0, 1) := fq1_42 (fl_12 (j := 36) rfl rfl)
theorem dL_law_805 : decode cL_law 805 = .ok (.iload_n 3, 1) := fq1_29 (fl_12 (j := 37) rfl rfl)
theorem dL_law_806 : decode cL_law 806 = .ok (.iconst 2, 1) := fq1_5 (fl_12 (j := 38) rfl rfl)
theorem dL_law_807 : decode cL_law 807 = .ok (.iadd, 1) := fq1_96 (fl_12 (j := 39) rfl rfl)
theorem dL_law_808 : decode cL_law 808 = .ok (.iaload, 1) := fq1_46 (fl_12 (j := 40) rfl rfl)
theorem dL_law_809 : decode cL_law 809 = .ok (.invokevirtual 79, 3) := fq3_182 (fl_12 (j := 41) rfl rfl) (fl_12 (j := 42) rfl rfl) (fl_12 (j := 43) rfl rfl) (by decide)
theorem dL_law_812 : decode cL_law 812 = .ok (.pop, 1) := fq1_87 (fl_12 (j := 44) rfl rfl)
theorem dL_law_813 : decode cL_law 813 = .ok (.goto 2033, 3) := fq3_167 (fl_12 (j := 45) rfl rfl) (fl_12 (j := 46) rfl rfl) (fl_12 (j := 47) rfl rfl) (by decide)
theorem dL_law_816 : decode cL_law 816 = .ok (.aload_n 1, 1) := fq1_43 (fl_12 (j := 48) rfl rfl)
theorem dL_law_817 : decode cL_law 817 = .ok (.aload_n 0, 1) := fq1_42 (fl_12 (j := 49) rfl rfl)
theorem dL_law_818 : decode cL_law 818 = .ok (.iload_n 3, 1) := fq1_29 (fl_12 (j := 50) rfl rfl)
theorem dL_law_819 : decode cL_law 819 = .ok (.iconst 1, 1) := fq1_4 (fl_12 (j := 51) rfl rfl)
theorem dL_law_820 : decode cL_law 820 = .ok (.iadd, 1) := fq1_96 (fl_12 (j := 52) rfl rfl)
theorem dL_law_821 : decode cL_law 821 = .ok (.iaload, 1) := fq1_46 (fl_12 (j := 53) rfl rfl)
theorem dL_law_822 : decode cL_law 822 = .ok (.aload_n 0, 1) := fq1_42 (fl_12 (j := 54) rfl rfl)
theorem dL_law_823 : decode cL_law 823 = .ok (.iload_n 3, 1) := fq1_29 (fl_12 (j := 55) rfl rfl)
theorem dL_law_824 : decode cL_law 824 = .ok (.iconst 2, 1) := fq1_5 (fl_12 (j := 56) rfl rfl)
theorem dL_law_825 : decode cL_law 825 = .ok (.iadd, 1) := fq1_96 (fl_12 (j := 57) rfl rfl)
theorem dL_law_826 : decode cL_law 826 = .ok (.iaload, 1) := fq1_46 (fl_12 (j := 58) rfl rfl)
theorem dL_law_827 : decode cL_law 827 = .ok (.invokevirtual 80, 3) := fq3_182 (fl_12 (j := 59) rfl rfl) (fl_12 (j := 60) rfl rfl) (fl_12 (j := 61) rfl rfl) (by decide)
theorem dL_law_830 : decode cL_law 830 = .ok (.pop, 1) := fq1_87 (fl_12 (j := 62) rfl rfl)
theorem dL_law_831 : decode cL_law 831 = .ok (.aload_n 2, 1) := fq1_44 (fl_12 (j := 63) rfl rfl)
theorem dL_law_832 : decode cL_law 832 = .ok (.aload_n 0, 1) := fq1_42 (fl_13 (j := 0) rfl rfl)
theorem dL_law_833 : decode cL_law 833 = .ok (.iload_n 3, 1) := fq1_29 (fl_13 (j := 1) rfl rfl)
theorem dL_law_834 : decode cL_law 834 = .ok (.iconst 1, 1) := fq1_4 (fl_13 (j := 2) rfl rfl)
theorem dL_law_835 : decode cL_law 835 = .ok (.iadd, 1) := fq1_96 (fl_13 (j := 3) rfl rfl)
theorem dL_law_836 : decode cL_law 836 = .ok (.iaload, 1) := fq1_46 (fl_13 (j := 4) rfl rfl)
theorem dL_law_837 : decode cL_law 837 = .ok (.aload_n 0, 1) := fq1_42 (fl_13 (j := 5) rfl rfl)
theorem dL_law_838 : decode cL_law 838 = .ok (.iload_n 3, 1) := fq1_29 (fl_13 (j := 6) rfl rfl)
theorem dL_law_839 : decode cL_law 839 = .ok (.iconst 2, 1) := fq1_5 (fl_13 (j := 7) rfl rfl)
theorem dL_law_840 : decode cL_law 840 = .ok (.iadd, 1) := fq1_96 (fl_13 (j := 8) rfl rfl)
theorem dL_law_841 : decode cL_law 841 = .ok (.iaload, 1) := fq1_46 (fl_13 (j := 9) rfl rfl)
theorem dL_law_842 : decode cL_law 842 = .ok (.invokevirtual 83, 3) := fq3_182 (fl_13 (j := 10) rfl rfl) (fl_13 (j := 11) rfl rfl) (fl_13 (j := 12) rfl rfl) (by decide)
theorem dL_law_845 : decode cL_law 845 = .ok (.pop, 1) := fq1_87 (fl_13 (j := 13) rfl rfl)
theorem dL_law_846 : decode cL_law 846 = .ok (.goto 2000, 3) := fq3_167 (fl_13 (j := 14) rfl rfl) (fl_13 (j := 15) rfl rfl) (fl_13 (j := 16) rfl rfl) (by decide)
theorem dL_law_849 : decode cL_law 849 = .ok (.aload_n 1, 1) := fq1_43 (fl_13 (j := 17) rfl rfl)
theorem dL_law_850 : decode cL_law 850 = .ok (.aload_n 0, 1) := fq1_42 (fl_13 (j := 18) rfl rfl)
theorem dL_law_851 : decode cL_law 851 = .ok (.iload_n 3, 1) := fq1_29 (fl_13 (j := 19) rfl rfl)
theorem dL_law_852 : decode cL_law 852 = .ok (.iconst 1, 1) := fq1_4 (fl_13 (j := 20) rfl rfl)
theorem dL_law_853 : decode cL_law 853 = .ok (.iadd, 1) := fq1_96 (fl_13 (j := 21) rfl rfl)
theorem dL_law_854 : decode cL_law 854 = .ok (.iaload, 1) := fq1_46 (fl_13 (j := 22) rfl rfl)
theorem dL_law_855 : decode cL_law 855 = .ok (.aload_n 0, 1) := fq1_42 (fl_13 (j := 23) rfl rfl)
theorem dL_law_856 : decode cL_law 856 = .ok (.iload_n 3, 1) := fq1_29 (fl_13 (j := 24) rfl rfl)
theorem dL_law_857 : decode cL_law 857 = .ok (.iconst 2, 1) := fq1_5 (fl_13 (j := 25) rfl rfl)
theorem dL_law_858 : decode cL_law 858 = .ok (.iadd, 1) := fq1_96 (fl_13 (j := 26) rfl rfl)
theorem dL_law_859 : decode cL_law 859 = .ok (.iaload, 1) := fq1_46 (fl_13 (j := 27) rfl rfl)
theorem dL_law_860 : decode cL_law 860 = .ok (.aload_n 0, 1) := fq1_42 (fl_13 (j := 28) rfl rfl)
theorem dL_law_861 : decode cL_law 861 = .ok (.iload_n 3, 1) := fq1_29 (fl_13 (j := 29) rfl rfl)
theorem dL_law_862 : decode cL_law 862 = .ok (.iconst 3, 1) := fq1_6 (fl_13 (j := 30) rfl rfl)
theorem dL_law_863 : decode cL_law 863 = .ok (.iadd, 1) := fq1_96 (fl_13 (j := 31) rfl rfl)
theorem dL_law_864 : decode cL_law 864 = .ok (.iaload, 1) := fq1_46 (fl_13 (j := 32) rfl rfl)
theorem dL_law_865 : decode cL_law 865 = .ok (.aload_n 0, 1) := fq1_42 (fl_13 (j := 33) rfl rfl)
theorem dL_law_866 : decode cL_law 866 = .ok (.iload_n 3, 1) := fq1_29 (fl_13 (j := 34) rfl rfl)
theorem dL_law_867 : decode cL_law 867 = .ok (.iconst 4, 1) := fq1_7 (fl_13 (j := 35) rfl rfl)
theorem dL_law_868 : decode cL_law 868 = .ok (.iadd, 1) := fq1_96 (fl_13 (j := 36) rfl rfl)
theorem dL_law_869 : decode cL_law 869 = .ok (.iaload, 1) := fq1_46 (fl_13 (j := 37) rfl rfl)
theorem dL_law_870 : decode cL_law 870 = .ok (.invokevirtual 84, 3) := fq3_182 (fl_13 (j := 38) rfl rfl) (fl_13 (j := 39) rfl rfl) (fl_13 (j := 40) rfl rfl) (by decide)
theorem dL_law_873 : decode cL_law 873 = .ok (.pop, 1) := fq1_87 (fl_13 (j := 41) rfl rfl)
theorem dL_law_874 : decode cL_law 874 = .ok (.aload_n 2, 1) := fq1_44 (fl_13 (j := 42) rfl rfl)
theorem dL_law_875 : decode cL_law 875 = .ok (.aload_n 0, 1) := fq1_42 (fl_13 (j := 43) rfl rfl)
theorem dL_law_876 : decode cL_law 876 = .ok (.iload_n 3, 1) := fq1_29 (fl_13 (j := 44) rfl rfl)
theorem dL_law_877 : decode cL_law 877 = .ok (.iconst 1, 1) := fq1_4 (fl_13 (j := 45) rfl rfl)
theorem dL_law_878 : decode cL_law 878 = .ok (.iadd, 1) := fq1_96 (fl_13 (j := 46) rfl rfl)
theorem dL_law_879 : decode cL_law 879 = .ok (.iaload, 1) := fq1_46 (fl_13 (j := 47) rfl rfl)
theorem dL_law_880 : decode cL_law 880 = .ok (.aload_n 0, 1) := fq1_42 (fl_13 (j := 48) rfl rfl)
theorem dL_law_881 : decode cL_law 881 = .ok (.iload_n 3, 1) := fq1_29 (fl_13 (j := 49) rfl rfl)
theorem dL_law_882 : decode cL_law 882 = .ok (.iconst 2, 1) := fq1_5 (fl_13 (j := 50) rfl rfl)
theorem dL_law_883 : decode cL_law 883 = .ok (.iadd, 1) := fq1_96 (fl_13 (j := 51) rfl rfl)
theorem dL_law_884 : decode cL_law 884 = .ok (.iaload, 1) := fq1_46 (fl_13 (j := 52) rfl rfl)
theorem dL_law_885 : decode cL_law 885 = .ok (.aload_n 0, 1) := fq1_42 (fl_13 (j := 53) rfl rfl)
theorem dL_law_886 : decode cL_law 886 = .ok (.iload_n 3, 1) := fq1_29 (fl_13 (j := 54) rfl rfl)
theorem dL_law_887 : decode cL_law 887 = .ok (.iconst 3, 1) := fq1_6 (fl_13 (j := 55) rfl rfl)
theorem dL_law_888 : decode cL_law 888 = .ok (.iadd, 1) := fq1_96 (fl_13 (j := 56) rfl rfl)
theorem dL_law_889 : decode cL_law 889 = .ok (.iaload, 1) := fq1_46 (fl_13 (j := 57) rfl rfl)
theorem dL_law_890 : decode cL_law 890 = .ok (.aload_n 0, 1) := fq1_42 (fl_13 (j := 58) rfl rfl)
theorem dL_law_891 : decode cL_law 891 = .ok (.iload_n 3, 1) := fq1_29 (fl_13 (j := 59) rfl rfl)
theorem dL_law_892 : decode cL_law 892 = .ok (.iconst 4, 1) := fq1_7 (fl_13 (j := 60) rfl rfl)
theorem dL_law_893 : decode cL_law 893 = .ok (.iadd, 1) := fq1_96 (fl_13 (j := 61) rfl rfl)
theorem dL_law_894 : decode cL_law 894 = .ok (.iaload, 1) := fq1_46 (fl_13 (j := 62) rfl rfl)
theorem dL_law_895 : decode cL_law 895 = .ok (.invokevirtual 88, 3) := fq3_182 (fl_13 (j := 63) rfl rfl) (fl_14 (j := 0) rfl rfl) (fl_14 (j := 1) rfl rfl) (by decide)
theorem dL_law_898 : decode cL_law 898 = .ok (.pop, 1) := fq1_87 (fl_14 (j := 2) rfl rfl)
theorem dL_law_899 : decode cL_law 899 = .ok (.goto 1947, 3) := fq3_167 (fl_14 (j := 3) rfl rfl) (fl_14 (j := 4) rfl rfl) (fl_14 (j := 5) rfl rfl) (by decide)
