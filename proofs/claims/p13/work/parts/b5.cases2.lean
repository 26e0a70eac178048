section
theorem qc_X11_iced : Cond.code yX11_iced cX11_iced 4 (some .int) ∈ gw := tbt (tb4 (List.mem_of_getElem? (i := 65) rfl)) rfl
theorem qi_yX11_iced : Cond.instanceMethod yX11_iced ∈ gw := tbt (tb4 (List.mem_of_getElem? (i := 63) rfl)) rfl
theorem qs_X11_iced : Cond.selects (yX11_iced).cls yX11_iced yX11_iced ∈ gw := tbt (tb4 (List.mem_of_getElem? (i := 64) rfl)) rfl
theorem ci_X11_iced : CIv yX11_iced cX11_iced 4 (some .int) 3 := ⟨qc_X11_iced, qi_yX11_iced, qs_X11_iced, qz_X11, by decide +kernel⟩
theorem qm_L_89 : Cond.methodLink RL 89 yX11_iced ∈ gw := tbt (tb4 (List.mem_of_getElem? (i := 62) rfl)) rfl
theorem qc_X12_iced : Cond.code yX12_iced cX12_iced 4 (some .int) ∈ gw := tbt (tb7 (List.mem_of_getElem? (i := 132) rfl)) rfl
theorem qi_yX12_iced : Cond.instanceMethod yX12_iced ∈ gw := tbt (tb7 (List.mem_of_getElem? (i := 130) rfl)) rfl
theorem qs_X12_iced : Cond.selects (yX12_iced).cls yX12_iced yX12_iced ∈ gw := tbt (tb7 (List.mem_of_getElem? (i := 131) rfl)) rfl
theorem ci_X12_iced : CIv yX12_iced cX12_iced 4 (some .int) 3 := ⟨qc_X12_iced, qi_yX12_iced, qs_X12_iced, qz_X12, by decide +kernel⟩
theorem qm_L_93 : Cond.methodLink RL 93 yX12_iced ∈ gw := tbt (tb7 (List.mem_of_getElem? (i := 129) rfl)) rfl
theorem qc_X11_arrives : Cond.code yX11_arrives cX11_arrives 4 (some .int) ∈ gw := tbt (tb4 (List.mem_of_getElem? (i := 80) rfl)) rfl
theorem qi_yX11_arrives : Cond.instanceMethod yX11_arrives ∈ gw := tbt (tb4 (List.mem_of_getElem? (i := 78) rfl)) rfl
theorem qs_X11_arrives : Cond.selects (yX11_arrives).cls yX11_arrives yX11_arrives ∈ gw := tbt (tb4 (List.mem_of_getElem? (i := 79) rfl)) rfl
theorem ci_X11_arrives : CIv yX11_arrives cX11_arrives 4 (some .int) 3 := ⟨qc_X11_arrives, qi_yX11_arrives, qs_X11_arrives, qz_X11, by decide +kernel⟩
theorem qm_L_94 : Cond.methodLink RL 94 yX11_arrives ∈ gw := tbt (tb4 (List.mem_of_getElem? (i := 77) rfl)) rfl
theorem qc_X12_arrives : Cond.code yX12_arrives cX12_arrives 4 (some .int) ∈ gw := tbt (tb7 (List.mem_of_getElem? (i := 147) rfl)) rfl
theorem qi_yX12_arrives : Cond.instanceMethod yX12_arrives ∈ gw := tbt (tb7 (List.mem_of_getElem? (i := 145) rfl)) rfl
theorem qs_X12_arrives : Cond.selects (yX12_arrives).cls yX12_arrives yX12_arrives ∈ gw := tbt (tb7 (List.mem_of_getElem? (i := 146) rfl)) rfl
theorem ci_X12_arrives : CIv yX12_arrives cX12_arrives 4 (some .int) 3 := ⟨qc_X12_arrives, qi_yX12_arrives, qs_X12_arrives, qz_X12, by decide +kernel⟩
theorem qm_L_97 : Cond.methodLink RL 97 yX12_arrives ∈ gw := tbt (tb7 (List.mem_of_getElem? (i := 144) rfl)) rfl
theorem qc_X11_ship : Cond.code yX11_ship cX11_ship 4 (some .int) ∈ gw := tbt (tb4 (List.mem_of_getElem? (i := 99) rfl)) rfl
theorem qi_yX11_ship : Cond.instanceMethod yX11_ship ∈ gw := tbt (tb4 (List.mem_of_getElem? (i := 97) rfl)) rfl
theorem qs_X11_ship : Cond.selects (yX11_ship).cls yX11_ship yX11_ship ∈ gw := tbt (tb4 (List.mem_of_getElem? (i := 98) rfl)) rfl
theorem ci_X11_ship : CIv yX11_ship cX11_ship 4 (some .int) 3 := ⟨qc_X11_ship, qi_yX11_ship, qs_X11_ship, qz_X11, by decide +kernel⟩
theorem qm_L_98 : Cond.methodLink RL 98 yX11_ship ∈ gw := tbt (tb4 (List.mem_of_getElem? (i := 96) rfl)) rfl
theorem qc_X12_ship : Cond.code yX12_ship cX12_ship 4 (some .int) ∈ gw := tbt (tb7 (List.mem_of_getElem? (i := 168) rfl)) rfl
theorem qi_yX12_ship : Cond.instanceMethod yX12_ship ∈ gw := tbt (tb7 (List.mem_of_getElem? (i := 166) rfl)) rfl
theorem qs_X12_ship : Cond.selects (yX12_ship).cls yX12_ship yX12_ship ∈ gw := tbt (tb7 (List.mem_of_getElem? (i := 167) rfl)) rfl
theorem ci_X12_ship : CIv yX12_ship cX12_ship 4 (some .int) 3 := ⟨qc_X12_ship, qi_yX12_ship, qs_X12_ship, qz_X12, by decide +kernel⟩
theorem qm_L_101 : Cond.methodLink RL 101 yX12_ship ∈ gw := tbt (tb7 (List.mem_of_getElem? (i := 165) rfl)) rfl
theorem qc_X11_sees : Cond.code yX11_sees cX11_sees 4 (some .int) ∈ gw := tbt (tb4 (List.mem_of_getElem? (i := 107) rfl)) rfl
theorem qi_yX11_sees : Cond.instanceMethod yX11_sees ∈ gw := tbt (tb4 (List.mem_of_getElem? (i := 105) rfl)) rfl
theorem qs_X11_sees : Cond.selects (yX11_sees).cls yX11_sees yX11_sees ∈ gw := tbt (tb4 (List.mem_of_getElem? (i := 106) rfl)) rfl
theorem ci_X11_sees : CIv yX11_sees cX11_sees 4 (some .int) 3 := ⟨qc_X11_sees, qi_yX11_sees, qs_X11_sees, qz_X11, by decide +kernel⟩
theorem qm_L_102 : Cond.methodLink RL 102 yX11_sees ∈ gw := tbt (tb4 (List.mem_of_getElem? (i := 104) rfl)) rfl
theorem qc_X12_sees : Cond.code yX12_sees cX12_sees 4 (some .int) ∈ gw := tbt (tb7 (List.mem_of_getElem? (i := 172) rfl)) rfl
theorem qi_yX12_sees : Cond.instanceMethod yX12_sees ∈ gw := tbt (tb7 (List.mem_of_getElem? (i := 170) rfl)) rfl
theorem qs_X12_sees : Cond.selects (yX12_sees).cls yX12_sees yX12_sees ∈ gw := tbt (tb7 (List.mem_of_getElem? (i := 171) rfl)) rfl
theorem ci_X12_sees : CIv yX12_sees cX12_sees 4 (some .int) 3 := ⟨qc_X12_sees, qi_yX12_sees, qs_X12_sees, qz_X12, by decide +kernel⟩
theorem qm_L_105 : Cond.methodLink RL 105 yX12_sees ∈ gw := tbt (tb7 (List.mem_of_getElem? (i := 169) rfl)) rfl
theorem qc_X11_nearest : Cond.code yX11_nearest cX11_nearest 7 (some .int) ∈ gw := tbt (tb4 (List.mem_of_getElem? (i := 119) rfl)) rfl
theorem qi_yX11_nearest : Cond.instanceMethod yX11_nearest ∈ gw := tbt (tb4 (List.mem_of_getElem? (i := 117) rfl)) rfl
theorem qs_X11_nearest : Cond.selects (yX11_nearest).cls yX11_nearest yX11_nearest ∈ gw := tbt (tb4 (List.mem_of_getElem? (i := 118) rfl)) rfl
theorem ci_X11_nearest : CIv yX11_nearest cX11_nearest 7 (some .int) 2 := ⟨qc_X11_nearest, qi_yX11_nearest, qs_X11_nearest, qz_X11, by decide +kernel⟩
theorem qm_L_106 : Cond.methodLink RL 106 yX11_nearest ∈ gw := tbt (tb4 (List.mem_of_getElem? (i := 116) rfl)) rfl
theorem qc_X12_nearest : Cond.code yX12_nearest cX12_nearest 5 (some .int) ∈ gw := tbt (tb7 (List.mem_of_getElem? (i := 184) rfl)) rfl
theorem qi_yX12_nearest : Cond.instanceMethod yX12_nearest ∈ gw := tbt (tb7 (List.mem_of_getElem? (i := 182) rfl)) rfl
theorem qs_X12_nearest : Cond.selects (yX12_nearest).cls yX12_nearest yX12_nearest ∈ gw := tbt (tb7 (List.mem_of_getElem? (i := 183) rfl)) rfl
theorem ci_X12_nearest : CIv yX12_nearest cX12_nearest 5 (some .int) 2 := ⟨qc_X12_nearest, qi_yX12_nearest, qs_X12_nearest, qz_X12, by decide +kernel⟩
theorem qm_L_109 : Cond.methodLink RL 109 yX12_nearest ∈ gw := tbt (tb7 (List.mem_of_getElem? (i := 181) rfl)) rfl
theorem qc_X11_meetings : Cond.code yX11_meetings cX11_meetings 7 (some .int) ∈ gw := tbt (tb4 (List.mem_of_getElem? (i := 123) rfl)) rfl
theorem qi_yX11_meetings : Cond.instanceMethod yX11_meetings ∈ gw := tbt (tb4 (List.mem_of_getElem? (i := 121) rfl)) rfl
theorem qs_X11_meetings : Cond.selects (yX11_meetings).cls yX11_meetings yX11_meetings ∈ gw := tbt (tb4 (List.mem_of_getElem? (i := 122) rfl)) rfl
theorem ci_X11_meetings : CIv yX11_meetings cX11_meetings 7 (some .int) 4 := ⟨qc_X11_meetings, qi_yX11_meetings, qs_X11_meetings, qz_X11, by decide +kernel⟩
theorem qm_L_110 : Cond.methodLink RL 110 yX11_meetings ∈ gw := tbt (tb4 (List.mem_of_getElem? (i := 120) rfl)) rfl
theorem qc_X12_meetings : Cond.code yX12_meetings cX12_meetings 7 (some .int) ∈ gw := tbt (tb7 (List.mem_of_getElem? (i := 188) rfl)) rfl
theorem qi_yX12_meetings : Cond.instanceMethod yX12_meetings ∈ gw := tbt (tb7 (List.mem_of_getElem? (i := 186) rfl)) rfl
theorem qs_X12_meetings : Cond.selects (yX12_meetings).cls yX12_meetings yX12_meetings ∈ gw := tbt (tb7 (List.mem_of_getElem? (i := 187) rfl)) rfl
theorem ci_X12_meetings : CIv yX12_meetings cX12_meetings 7 (some .int) 4 := ⟨qc_X12_meetings, qi_yX12_meetings, qs_X12_meetings, qz_X12, by decide +kernel⟩
theorem qm_L_113 : Cond.methodLink RL 113 yX12_meetings ∈ gw := tbt (tb7 (List.mem_of_getElem? (i := 185) rfl)) rfl
theorem qc_X11_span : Cond.code yX11_span cX11_span 5 (some .int) ∈ gw := tbt (tb4 (List.mem_of_getElem? (i := 127) rfl)) rfl
theorem qi_yX11_span : Cond.instanceMethod yX11_span ∈ gw := tbt (tb4 (List.mem_of_getElem? (i := 125) rfl)) rfl
theorem qs_X11_span : Cond.selects (yX11_span).cls yX11_span yX11_span ∈ gw := tbt (tb4 (List.mem_of_getElem? (i := 126) rfl)) rfl
theorem ci_X11_span : CIv yX11_span cX11_span 5 (some .int) 1 := ⟨qc_X11_span, qi_yX11_span, qs_X11_span, qz_X11, by decide +kernel⟩
theorem qm_L_114 : Cond.methodLink RL 114 yX11_span ∈ gw := tbt (tb4 (List.mem_of_getElem? (i := 124) rfl)) rfl
theorem qc_X12_span : Cond.code yX12_span cX12_span 5 (some .int) ∈ gw := tbt (tb7 (List.mem_of_getElem? (i := 200) rfl)) rfl
theorem qi_yX12_span : Cond.instanceMethod yX12_span ∈ gw := tbt (tb7 (List.mem_of_getElem? (i := 198) rfl)) rfl
theorem qs_X12_span : Cond.selects (yX12_span).cls yX12_span yX12_span ∈ gw := tbt (tb7 (List.mem_of_getElem? (i := 199) rfl)) rfl
theorem ci_X12_span : CIv yX12_span cX12_span 5 (some .int) 1 := ⟨qc_X12_span, qi_yX12_span, qs_X12_span, qz_X12, by decide +kernel⟩
theorem qm_L_117 : Cond.methodLink RL 117 yX12_span ∈ gw := tbt (tb7 (List.mem_of_getElem? (i := 197) rfl)) rfl
theorem qc_X11_stale : Cond.code yX11_stale cX11_stale 5 (some .int) ∈ gw := tbt (tb4 (List.mem_of_getElem? (i := 132) rfl)) rfl
theorem qi_yX11_stale : Cond.instanceMethod yX11_stale ∈ gw := tbt (tb4 (List.mem_of_getElem? (i := 130) rfl)) rfl
theorem qs_X11_stale : Cond.selects (yX11_stale).cls yX11_stale yX11_stale ∈ gw := tbt (tb4 (List.mem_of_getElem? (i := 131) rfl)) rfl
theorem ci_X11_stale : CIv yX11_stale cX11_stale 5 (some .int) 3 := ⟨qc_X11_stale, qi_yX11_stale, qs_X11_stale, qz_X11, by decide +kernel⟩
theorem qm_L_118 : Cond.methodLink RL 118 yX11_stale ∈ gw := tbt (tb4 (List.mem_of_getElem? (i := 129) rfl)) rfl
theorem qc_X12_stale : Cond.code yX12_stale cX12_stale 5 (some .int) ∈ gw := tbt (tb7 (List.mem_of_getElem? (i := 204) rfl)) rfl
theorem qi_yX12_stale : Cond.instanceMethod yX12_stale ∈ gw := tbt (tb7 (List.mem_of_getElem? (i := 202) rfl)) rfl
theorem qs_X12_stale : Cond.selects (yX12_stale).cls yX12_stale yX12_stale ∈ gw := tbt (tb7 (List.mem_of_getElem? (i := 203) rfl)) rfl
theorem ci_X12_stale : CIv yX12_stale cX12_stale 5 (some .int) 3 := ⟨qc_X12_stale, qi_yX12_stale, qs_X12_stale, qz_X12, by decide +kernel⟩
theorem qm_L_121 : Cond.methodLink RL 121 yX12_stale ∈ gw := tbt (tb7 (List.mem_of_getElem? (i := 201) rfl)) rfl
theorem dL_law_902 : decode cL_law 902 = .ok (.aload_n 1, 1) := fq1_43 (fl_14 (j := 6) rfl rfl)
theorem dL_law_903 : decode cL_law 903 = .ok (.aload_n 0, 1) := fq1_42 (fl_14 (j := 7) rfl rfl)
theorem dL_law_904 : decode cL_law 904 = .ok (.iload_n 3, 1) := fq1_29 (fl_14 (j := 8) rfl rfl)
theorem dL_law_905 : decode cL_law 905 = .ok (.iconst 1, 1) := fq1_4 (fl_14 (j := 9) rfl rfl)
theorem dL_law_906 : decode cL_law 906 = .ok (.iadd, 1) := fq1_96 (fl_14 (j := 10) rfl rfl)
theorem dL_law_907 : decode cL_law 907 = .ok (.iaload, 1) := fq1_46 (fl_14 (j := 11) rfl rfl)
theorem dL_law_908 : decode cL_law 908 = .ok (.aload_n 0, 1) := fq1_42 (fl_14 (j := 12) rfl rfl)
theorem dL_law_909 : decode cL_law 909 = .ok (.iload_n 3, 1) := fq1_29 (fl_14 (j := 13) rfl rfl)
theorem dL_law_910 : decode cL_law 910 = .ok (.iconst 2, 1) := fq1_5 (fl_14 (j := 14) rfl rfl)
theorem dL_law_911 : decode cL_law 911 = .ok (.iadd, 1) := fq1_96 (fl_14 (j := 15) rfl rfl)
theorem dL_law_912 : decode cL_law 912 = .ok (.iaload, 1) := fq1_46 (fl_14 (j := 16) rfl rfl)
theorem dL_law_913 : decode cL_law 913 = .ok (.aload_n 0, 1) := fq1_42 (fl_14 (j := 17) rfl rfl)
theorem dL_law_914 : decode cL_law 914 = .ok (.iload_n 3, 1) := fq1_29 (fl_14 (j := 18) rfl rfl)
theorem dL_law_915 : decode cL_law 915 = .ok (.iconst 3, 1) := fq1_6 (fl_14 (j := 19) rfl rfl)
theorem dL_law_916 : decode cL_law 916 = .ok (.iadd, 1) := fq1_96 (fl_14 (j := 20) rfl rfl)
theorem dL_law_917 : decode cL_law 917 = .ok (.iaload, 1) := fq1_46 (fl_14 (j := 21) rfl rfl)
theorem dL_law_918 : decode cL_law 918 = .ok (.invokevirtual 89, 3) := fq3_182 (fl_14 (j := 22) rfl rfl) (fl_14 (j := 23) rfl rfl) (fl_14 (j := 24) rfl rfl) rfl
theorem dL_law_921 : decode cL_law 921 = .ok (.pop, 1) := fq1_87 (fl_14 (j := 25) rfl rfl)
theorem dL_law_922 : decode cL_law 922 = .ok (.aload_n 2, 1) := fq1_44 (fl_14 (j := 26) rfl rfl)
theorem dL_law_923 : decode cL_law 923 = .ok (.aload_n 0, 1) := fq1_42 (fl_14 (j := 27) rfl rfl)
theorem dL_law_924 : decode cL_law 924 = .ok (.iload_n 3, 1) := fq1_29 (fl_14 (j := 28) rfl rfl)
theorem dL_law_925 : decode cL_law 925 = .ok (.iconst 1, 1) := fq1_4 (fl_14 (j := 29) rfl rfl)
theorem dL_law_926 : decode cL_law 926 = .ok (.iadd, 1) := fq1_96 (fl_14 (j := 30) rfl rfl)
theorem dL_law_927 : decode cL_law 927 = .ok (.iaload, 1) := fq1_46 (fl_14 (j := 31) rfl rfl)
theorem dL_law_928 : decode cL_law 928 = .ok (.aload_n 0, 1) := fq1_42 (fl_14 (j := 32) rfl rfl)
theorem dL_law_929 : decode cL_law 929 = .ok (.iload_n 3, 1) := fq1_29 (fl_14 (j := 33) rfl rfl)
theorem dL_law_930 : decode cL_law 930 = .ok (.iconst 2, 1) := fq1_5 (fl_14 (j := 34) rfl rfl)
theorem dL_law_931 : decode cL_law 931 = .ok (.iadd, 1) := fq1_96 (fl_14 (j := 35) rfl rfl)
theorem dL_law_932 : decode cL_law 932 = .ok (.iaload, 1) := fq1_46 (fl_14 (j := 36) rfl rfl)
theorem dL_law_933 : decode cL_law 933 = .ok (.aload_n 0, 1) := fq1_42 (fl_14 (j := 37) rfl rfl)
theorem dL_law_934 : decode cL_law 934 = .ok (.iload_n 3, 1) := fq1_29 (fl_14 (j := 38) rfl rfl)
theorem dL_law_935 : decode cL_law 935 = .ok (.iconst 3, 1) := fq1_6 (fl_14 (j := 39) rfl rfl)
theorem dL_law_936 : decode cL_law 936 = .ok (.iadd, 1) := fq1_96 (fl_14 (j := 40) rfl rfl)
theorem dL_law_937 : decode cL_law 937 = .ok (.iaload, 1) := fq1_46 (fl_14 (j := 41) rfl rfl)
theorem dL_law_938 : decode cL_law 938 = .ok (.invokevirtual 93, 3) := fq3_182 (fl_14 (j := 42) rfl rfl) (fl_14 (j := 43) rfl rfl) (fl_14 (j := 44) rfl rfl) rfl
theorem dL_law_941 : decode cL_law 941 = .ok (.pop, 1) := fq1_87 (fl_14 (j := 45) rfl rfl)
theorem dL_law_942 : decode cL_law 942 = .ok (.goto 1904, 3) := fq3_167 (fl_14 (j := 46) rfl rfl) (fl_14 (j := 47) rfl rfl) (fl_14 (j := 48) rfl rfl) (s2p rfl (bl rfl))
theorem dL_law_945 : decode cL_law 945 = .ok (.aload_n 1, 1) := fq1_43 (fl_14 (j := 49) rfl rfl)
theorem dL_law_946 : decode cL_law 946 = .ok (.aload_n 0, 1) := fq1_42 (fl_14 (j := 50) rfl rfl)
theorem dL_law_947 : decode cL_law 947 = .ok (.iload_n 3, 1) := fq1_29 (fl_14 (j := 51) rfl rfl)
theorem dL_law_948 : decode cL_law 948 = .ok (.iconst 1, 1) := fq1_4 (fl_14 (j := 52) rfl rfl)
theorem dL_law_949 : decode cL_law 949 = .ok (.iadd, 1) := fq1_96 (fl_14 (j := 53) rfl rfl)
theorem dL_law_950 : decode cL_law 950 = .ok (.iaload, 1) := fq1_46 (fl_14 (j := 54) rfl rfl)
theorem dL_law_951 : decode cL_law 951 = .ok (.aload_n 0, 1) := fq1_42 (fl_14 (j := 55) rfl rfl)
theorem dL_law_952 : decode cL_law 952 = .ok (.iload_n 3, 1) := fq1_29 (fl_14 (j := 56) rfl rfl)
theorem dL_law_953 : decode cL_law 953 = .ok (.iconst 2, 1) := fq1_5 (fl_14 (j := 57) rfl rfl)
theorem dL_law_954 : decode cL_law 954 = .ok (.iadd, 1) := fq1_96 (fl_14 (j := 58) rfl rfl)
theorem dL_law_955 : decode cL_law 955 = .ok (.iaload, 1) := fq1_46 (fl_14 (j := 59) rfl rfl)
theorem dL_law_956 : decode cL_law 956 = .ok (.aload_n 0, 1) := fq1_42 (fl_14 (j := 60) rfl rfl)
theorem dL_law_957 : decode cL_law 957 = .ok (.iload_n 3, 1) := fq1_29 (fl_14 (j := 61) rfl rfl)
theorem dL_law_958 : decode cL_law 958 = .ok (.iconst 3, 1) := fq1_6 (fl_14 (j := 62) rfl rfl)
theorem dL_law_959 : decode cL_law 959 = .ok (.iadd, 1) := fq1_96 (fl_14 (j := 63) rfl rfl)
theorem dL_law_960 : decode cL_law 960 = .ok (.iaload, 1) := fq1_46 (fl_15 (j := 0) rfl rfl)
theorem dL_law_961 : decode cL_law 961 = .ok (.invokevirtual 94, 3) := fq3_182 (fl_15 (j := 1) rfl rfl) (fl_15 (j := 2) rfl rfl) (fl_15 (j := 3) rfl rfl) rfl
theorem dL_law_964 : decode cL_law 964 = .ok (.pop, 1) := fq1_87 (fl_15 (j := 4) rfl rfl)
theorem dL_law_965 : decode cL_law 965 = .ok (.aload_n 2, 1) := fq1_44 (fl_15 (j := 5) rfl rfl)
theorem dL_law_966 : decode cL_law 966 = .ok (.aload_n 0, 1) := fq1_42 (fl_15 (j := 6) rfl rfl)
theorem dL_law_967 : decode cL_law 967 = .ok (.iload_n 3, 1) := fq1_29 (fl_15 (j := 7) rfl rfl)
theorem dL_law_968 : decode cL_law 968 = .ok (.iconst 1, 1) := fq1_4 (fl_15 (j := 8) rfl rfl)
theorem dL_law_969 : decode cL_law 969 = .ok (.iadd, 1) := fq1_96 (fl_15 (j := 9) rfl rfl)
theorem dL_law_970 : decode cL_law 970 = .ok (.iaload, 1) := fq1_46 (fl_15 (j := 10) rfl rfl)
theorem dL_law_971 : decode cL_law 971 = .ok (.aload_n 0, 1) := fq1_42 (fl_15 (j := 11) rfl rfl)
theorem dL_law_972 : decode cL_law 972 = .ok (.iload_n 3, 1) := fq1_29 (fl_15 (j := 12) rfl rfl)
theorem dL_law_973 : decode cL_law 973 = .ok (.iconst 2, 1) := fq1_5 (fl_15 (j := 13) rfl rfl)
theorem dL_law_974 : decode cL_law 974 = .ok (.iadd, 1) := fq1_96 (fl_15 (j := 14) rfl rfl)
theorem dL_law_975 : decode cL_law 975 = .ok (.iaload, 1) := fq1_46 (fl_15 (j := 15) rfl rfl)
theorem dL_law_976 : decode cL_law 976 = .ok (.aload_n 0, 1) := fq1_42 (fl_15 (j := 16) rfl rfl)
theorem dL_law_977 : decode cL_law 977 = .ok (.iload_n 3, 1) := fq1_29 (fl_15 (j := 17) rfl rfl)
theorem dL_law_978 : decode cL_law 978 = .ok (.iconst 3, 1) := fq1_6 (fl_15 (j := 18) rfl rfl)
theorem dL_law_979 : decode cL_law 979 = .ok (.iadd, 1) := fq1_96 (fl_15 (j := 19) rfl rfl)
theorem dL_law_980 : decode cL_law 980 = .ok (.iaload, 1) := fq1_46 (fl_15 (j := 20) rfl rfl)
theorem dL_law_981 : decode cL_law 981 = .ok (.invokevirtual 97, 3) := fq3_182 (fl_15 (j := 21) rfl rfl) (fl_15 (j := 22) rfl rfl) (fl_15 (j := 23) rfl rfl) rfl
theorem dL_law_984 : decode cL_law 984 = .ok (.pop, 1) := fq1_87 (fl_15 (j := 24) rfl rfl)
theorem dL_law_985 : decode cL_law 985 = .ok (.goto 1861, 3) := fq3_167 (fl_15 (j := 25) rfl rfl) (fl_15 (j := 26) rfl rfl) (fl_15 (j := 27) rfl rfl) (s2p rfl (bl rfl))
theorem dL_law_988 : decode cL_law 988 = .ok (.aload_n 1, 1) := fq1_43 (fl_15 (j := 28) rfl rfl)
theorem dL_law_989 : decode cL_law 989 = .ok (.aload_n 0, 1) := fq1_42 (fl_15 (j := 29) rfl rfl)
theorem dL_law_990 : decode cL_law 990 = .ok (.iload_n 3, 1) := fq1_29 (fl_15 (j := 30) rfl rfl)
theorem dL_law_991 : decode cL_law 991 = .ok (.iconst 1, 1) := fq1_4 (fl_15 (j := 31) rfl rfl)
theorem dL_law_992 : decode cL_law 992 = .ok (.iadd, 1) := fq1_96 (fl_15 (j := 32) rfl rfl)
theorem dL_law_993 : decode cL_law 993 = .ok (.iaload, 1) := fq1_46 (fl_15 (j := 33) rfl rfl)
theorem dL_law_994 : decode cL_law 994 = .ok (.aload_n 0, 1) := fq1_42 (fl_15 (j := 34) rfl rfl)
theorem dL_law_995 : decode cL_law 995 = .ok (.iload_n 3, 1) := fq1_29 (fl_15 (j := 35) rfl rfl)
theorem dL_law_996 : decode cL_law 996 = .ok (.iconst 2, 1) := fq1_5 (fl_15 (j := 36) rfl rfl)
theorem dL_law_997 : decode cL_law 997 = .ok (.iadd, 1) := fq1_96 (fl_15 (j := 37) rfl rfl)
theorem dL_law_998 : decode cL_law 998 = .ok (.iaload, 1) := fq1_46 (fl_15 (j := 38) rfl rfl)
theorem dL_law_999 : decode cL_law 999 = .ok (.aload_n 0, 1) := fq1_42 (fl_15 (j := 39) rfl rfl)
theorem dL_law_1000 : decode cL_law 1000 = .ok (.iload_n 3, 1) := fq1_29 (fl_15 (j := 40) rfl rfl)
theorem dL_law_1001 : decode cL_law 1001 = .ok (.iconst 3, 1) := fq1_6 (fl_15 (j := 41) rfl rfl)
theorem dL_law_1002 : decode cL_law 1002 = .ok (.iadd, 1) := fq1_96 (fl_15 (j := 42) rfl rfl)
theorem dL_law_1003 : decode cL_law 1003 = .ok (.iaload, 1) := fq1_46 (fl_15 (j := 43) rfl rfl)
theorem dL_law_1004 : decode cL_law 1004 = .ok (.invokevirtual 98, 3) := fq3_182 (fl_15 (j := 44) rfl rfl) (fl_15 (j := 45) rfl rfl) (fl_15 (j := 46) rfl rfl) rfl
theorem dL_law_1007 : decode cL_law 1007 = .ok (.pop, 1) := fq1_87 (fl_15 (j := 47) rfl rfl)
theorem dL_law_1008 : decode cL_law 1008 = .ok (.aload_n 2, 1) := fq1_44 (fl_15 (j := 48) rfl rfl)
theorem dL_law_1009 : decode cL_law 1009 = .ok (.aload_n 0, 1) := fq1_42 (fl_15 (j := 49) rfl rfl)
theorem dL_law_1010 : decode cL_law 1010 = .ok (.iload_n 3, 1) := fq1_29 (fl_15 (j := 50) rfl rfl)
theorem dL_law_1011 : decode cL_law 1011 = .ok (.iconst 1, 1) := fq1_4 (fl_15 (j := 51) rfl rfl)
theorem dL_law_1012 : decode cL_law 1012 = .ok (.iadd, 1) := fq1_96 (fl_15 (j := 52) rfl rfl)
theorem dL_law_1013 : decode cL_law 1013 = .ok (.iaload, 1) := fq1_46 (fl_15 (j := 53) rfl rfl)
theorem dL_law_1014 : decode cL_law 1014 = .ok (.aload_n 0, 1) := fq1_42 (fl_15 (j := 54) rfl rfl)
theorem dL_law_1015 : decode cL_law 1015 = .ok (.iload_n 3, 1) := fq1_29 (fl_15 (j := 55) rfl rfl)
theorem dL_law_1016 : decode cL_law 1016 = .ok (.iconst 2, 1) := fq1_5 (fl_15 (j := 56) rfl rfl)
theorem dL_law_1017 : decode cL_law 1017 = .ok (.iadd, 1) := fq1_96 (fl_15 (j := 57) rfl rfl)
theorem dL_law_1018 : decode cL_law 1018 = .ok (.iaload, 1) := fq1_46 (fl_15 (j := 58) rfl rfl)
theorem dL_law_1019 : decode cL_law 1019 = .ok (.aload_n 0, 1) := fq1_42 (fl_15 (j := 59) rfl rfl)
theorem dL_law_1020 : decode cL_law 1020 = .ok (.iload_n 3, 1) := fq1_29 (fl_15 (j := 60) rfl rfl)
theorem dL_law_1021 : decode cL_law 1021 = .ok (.iconst 3, 1) := fq1_6 (fl_15 (j := 61) rfl rfl)
theorem dL_law_1022 : decode cL_law 1022 = .ok (.iadd, 1) := fq1_96 (fl_15 (j := 62) rfl rfl)
theorem dL_law_1023 : decode cL_law 1023 = .ok (.iaload, 1) := fq1_46 (fl_15 (j := 63) rfl rfl)
theorem dL_law_1024 : decode cL_law 1024 = .ok (.invokevirtual 101, 3) := fq3_182 (fl_16 (j := 0) rfl rfl) (fl_16 (j := 1) rfl rfl) (fl_16 (j := 2) rfl rfl) rfl
theorem dL_law_1027 : decode cL_law 1027 = .ok (.pop, 1) := fq1_87 (fl_16 (j := 3) rfl rfl)
theorem dL_law_1028 : decode cL_law 1028 = .ok (.goto 1818, 3) := fq3_167 (fl_16 (j := 4) rfl rfl) (fl_16 (j := 5) rfl rfl) (fl_16 (j := 6) rfl rfl) (s2p rfl (bl rfl))
theorem dL_law_1031 : decode cL_law 1031 = .ok (.aload_n 1, 1) := fq1_43 (fl_16 (j := 7) rfl rfl)
theorem dL_law_1032 : decode cL_law 1032 = .ok (.aload_n 0, 1) := fq1_42 (fl_16 (j := 8) rfl rfl)
theorem dL_law_1033 : decode cL_law 1033 = .ok (.iload_n 3, 1) := fq1_29 (fl_16 (j := 9) rfl rfl)
theorem dL_law_1034 : decode cL_law 1034 = .ok (.iconst 1, 1) := fq1_4 (fl_16 (j := 10) rfl rfl)
theorem dL_law_1035 : decode cL_law 1035 = .ok (.iadd, 1) := fq1_96 (fl_16 (j := 11) rfl rfl)
theorem dL_law_1036 : decode cL_law 1036 = .ok (.iaload, 1) := fq1_46 (fl_16 (j := 12) rfl rfl)
theorem dL_law_1037 : decode cL_law 1037 = .ok (.aload_n 0, 1) := fq1_42 (fl_16 (j := 13) rfl rfl)
theorem dL_law_1038 : decode cL_law 1038 = .ok (.iload_n 3, 1) := fq1_29 (fl_16 (j := 14) rfl rfl)
theorem dL_law_1039 : decode cL_law 1039 = .ok (.iconst 2, 1) := fq1_5 (fl_16 (j := 15) rfl rfl)
theorem dL_law_1040 : decode cL_law 1040 = .ok (.iadd, 1) := fq1_96 (fl_16 (j := 16) rfl rfl)
theorem dL_law_1041 : decode cL_law 1041 = .ok (.iaload, 1) := fq1_46 (fl_16 (j := 17) rfl rfl)
theorem dL_law_1042 : decode cL_law 1042 = .ok (.aload_n 0, 1) := fq1_42 (fl_16 (j := 18) rfl rfl)
theorem dL_law_1043 : decode cL_law 1043 = .ok (.iload_n 3, 1) := fq1_29 (fl_16 (j := 19) rfl rfl)
theorem dL_law_1044 : decode cL_law 1044 = .ok (.iconst 3, 1) := fq1_6 (fl_16 (j := 20) rfl rfl)
theorem dL_law_1045 : decode cL_law 1045 = .ok (.iadd, 1) := fq1_96 (fl_16 (j := 21) rfl rfl)
theorem dL_law_1046 : decode cL_law 1046 = .ok (.iaload, 1) := fq1_46 (fl_16 (j := 22) rfl rfl)
theorem dL_law_1047 : decode cL_law 1047 = .ok (.invokevirtual 102, 3) := fq3_182 (fl_16 (j := 23) rfl rfl) (fl_16 (j := 24) rfl rfl) (fl_16 (j := 25) rfl rfl) rfl
theorem dL_law_1050 : decode cL_law 1050 = .ok (.pop, 1) := fq1_87 (fl_16 (j := 26) rfl rfl)
theorem dL_law_1051 : decode cL_law 1051 = .ok (.aload_n 2, 1) := fq1_44 (fl_16 (j := 27) rfl rfl)
theorem dL_law_1052 : decode cL_law 1052 = .ok (.aload_n 0, 1) := fq1_42 (fl_16 (j := 28) rfl rfl)
theorem dL_law_1053 : decode cL_law 1053 = .ok (.iload_n 3, 1) := fq1_29 (fl_16 (j := 29) rfl rfl)
theorem dL_law_1054 : decode cL_law 1054 = .ok (.iconst 1, 1) := fq1_4 (fl_16 (j := 30) rfl rfl)
theorem dL_law_1055 : decode cL_law 1055 = .ok (.iadd, 1) := fq1_96 (fl_16 (j := 31) rfl rfl)
theorem dL_law_1056 : decode cL_law 1056 = .ok (.iaload, 1) := fq1_46 (fl_16 (j := 32) rfl rfl)
theorem dL_law_1057 : decode cL_law 1057 = .ok (.aload_n 0, 1) := fq1_42 (fl_16 (j := 33) rfl rfl)
theorem dL_law_1058 : decode cL_law 1058 = .ok (.iload_n 3, 1) := fq1_29 (fl_16 (j := 34) rfl rfl)
theorem dL_law_1059 : decode cL_law 1059 = .ok (.iconst 2, 1) := fq1_5 (fl_16 (j := 35) rfl rfl)
theorem dL_law_1060 : decode cL_law 1060 = .ok (.iadd, 1) := fq1_96 (fl_16 (j := 36) rfl rfl)
theorem dL_law_1061 : decode cL_law 1061 = .ok (.iaload, 1) := fq1_46 (fl_16 (j := 37) rfl rfl)
theorem dL_law_1062 : decode cL_law 1062 = .ok (.aload_n 0, 1) := fq1_42 (fl_16 (j := 38) rfl rfl)
theorem dL_law_1063 : decode cL_law 1063 = .ok (.iload_n 3, 1) := fq1_29 (fl_16 (j := 39) rfl rfl)
theorem dL_law_1064 : decode cL_law 1064 = .ok (.iconst 3, 1) := fq1_6 (fl_16 (j := 40) rfl rfl)
theorem dL_law_1065 : decode cL_law 1065 = .ok (.iadd, 1) := fq1_96 (fl_16 (j := 41) rfl rfl)
theorem dL_law_1066 : decode cL_law 1066 = .ok (.iaload, 1) := fq1_46 (fl_16 (j := 42) rfl rfl)
theorem dL_law_1067 : decode cL_law 1067 = .ok (.invokevirtual 105, 3) := fq3_182 (fl_16 (j := 43) rfl rfl) (fl_16 (j := 44) rfl rfl) (fl_16 (j := 45) rfl rfl) rfl
theorem dL_law_1070 : decode cL_law 1070 = .ok (.pop, 1) := fq1_87 (fl_16 (j := 46) rfl rfl)
theorem dL_law_1071 : decode cL_law 1071 = .ok (.goto 1775, 3) := fq3_167 (fl_16 (j := 47) rfl rfl) (fl_16 (j := 48) rfl rfl) (fl_16 (j := 49) rfl rfl) (s2p rfl (bl rfl))
theorem dL_law_1074 : decode cL_law 1074 = .ok (.aload_n 1, 1) := fq1_43 (fl_16 (j := 50) rfl rfl)
theorem dL_law_1075 : decode cL_law 1075 = .ok (.aload_n 0, 1) := fq1_42 (fl_16 (j := 51) rfl rfl)
theorem dL_law_1076 : decode cL_law 1076 = .ok (.iload_n 3, 1) := fq1_29 (fl_16 (j := 52) rfl rfl)
theorem dL_law_1077 : decode cL_law 1077 = .ok (.iconst 1, 1) := fq1_4 (fl_16 (j := 53) rfl rfl)
theorem dL_law_1078 : decode cL_law 1078 = .ok (.iadd, 1) := fq1_96 (fl_16 (j := 54) rfl rfl)
theorem dL_law_1079 : decode cL_law 1079 = .ok (.iaload, 1) := fq1_46 (fl_16 (j := 55) rfl rfl)
theorem dL_law_1080 : decode cL_law 1080 = .ok (.aload_n 0, 1) := fq1_42 (fl_16 (j := 56) rfl rfl)
theorem dL_law_1081 : decode cL_law 1081 = .ok (.iload_n 3, 1) := fq1_29 (fl_16 (j := 57) rfl rfl)
theorem dL_law_1082 : decode cL_law 1082 = .ok (.iconst 2, 1) := fq1_5 (fl_16 (j := 58) rfl rfl)
theorem dL_law_1083 : decode cL_law 1083 = .ok (.iadd, 1) := fq1_96 (fl_16 (j := 59) rfl rfl)
theorem dL_law_1084 : decode cL_law 1084 = .ok (.iaload, 1) := fq1_46 (fl_16 (j := 60) rfl rfl)
theorem dL_law_1085 : decode cL_law 1085 = .ok (.invokevirtual 106, 3) := fq3_182 (fl_16 (j := 61) rfl rfl) (fl_16 (j := 62) rfl rfl) (fl_16 (j := 63) rfl rfl) rfl
theorem dL_law_1088 : decode cL_law 1088 = .ok (.pop, 1) := fq1_87 (fl_17 (j := 0) rfl rfl)
theorem dL_law_1089 : decode cL_law 1089 = .ok (.aload_n 2, 1) := fq1_44 (fl_17 (j := 1) rfl rfl)
theorem dL_law_1090 : decode cL_law 1090 = .ok (.aload_n 0, 1) := fq1_42 (fl_17 (j := 2) rfl rfl)
theorem dL_law_1091 : decode cL_law 1091 = .ok (.iload_n 3, 1) := fq1_29 (fl_17 (j := 3) rfl rfl)
theorem dL_law_1092 : decode cL_law 1092 = .ok (.iconst 1, 1) := fq1_4 (fl_17 (j := 4) rfl rfl)
theorem dL_law_1093 : decode cL_law 1093 = .ok (.iadd, 1) := fq1_96 (fl_17 (j := 5) rfl rfl)
theorem dL_law_1094 : decode cL_law 1094 = .ok (.iaload, 1) := fq1_46 (fl_17 (j := 6) rfl rfl)
theorem dL_law_1095 : decode cL_law 1095 = .ok (.aload_n 0, 1) := fq1_42 (fl_17 (j := 7) rfl rfl)
theorem dL_law_1096 : decode cL_law 1096 = .ok (.iload_n 3, 1) := fq1_29 (fl_17 (j := 8) rfl rfl)
theorem dL_law_1097 : decode cL_law 1097 = .ok (.iconst 2, 1) := fq1_5 (fl_17 (j := 9) rfl rfl)
theorem dL_law_1098 : decode cL_law 1098 = .ok (.iadd, 1) := fq1_96 (fl_17 (j := 10) rfl rfl)
theorem dL_law_1099 : decode cL_law 1099 = .ok (.iaload, 1) := fq1_46 (fl_17 (j := 11) rfl rfl)
theorem dL_law_1100 : decode cL_law 1100 = .ok (.invokevirtual 109, 3) := fq3_182 (fl_17 (j := 12) rfl rfl) (fl_17 (j := 13) rfl rfl) (fl_17 (j := 14) rfl rfl) rfl
theorem dL_law_1103 : decode cL_law 1103 = .ok (.pop, 1) := fq1_87 (fl_17 (j := 15) rfl rfl)
theorem dL_law_1104 : decode cL_law 1104 = .ok (.goto 1742, 3) := fq3_167 (fl_17 (j := 16) rfl rfl) (fl_17 (j := 17) rfl rfl) (fl_17 (j := 18) rfl rfl) (s2p rfl (bl rfl))
theorem dL_law_1107 : decode cL_law 1107 = .ok (.aload_n 1, 1) := fq1_43 (fl_17 (j := 19) rfl rfl)
theorem dL_law_1108 : decode cL_law 1108 = .ok (.aload_n 0, 1) := fq1_42 (fl_17 (j := 20) rfl rfl)
theorem dL_law_1109 : decode cL_law 1109 = .ok (.iload_n 3, 1) := fq1_29 (fl_17 (j := 21) rfl rfl)
theorem dL_law_1110 : decode cL_law 1110 = .ok (.iconst 1, 1) := fq1_4 (fl_17 (j := 22) rfl rfl)
theorem dL_law_1111 : decode cL_law 1111 = .ok (.iadd, 1) := fq1_96 (fl_17 (j := 23) rfl rfl)
theorem dL_law_1112 : decode cL_law 1112 = .ok (.iaload, 1) := fq1_46 (fl_17 (j := 24) rfl rfl)
theorem dL_law_1113 : decode cL_law 1113 = .ok (.aload_n 0, 1) := fq1_42 (fl_17 (j := 25) rfl rfl)
theorem dL_law_1114 : decode cL_law 1114 = .ok (.iload_n 3, 1) := fq1_29 (fl_17 (j := 26) rfl rfl)
theorem dL_law_1115 : decode cL_law 1115 = .ok (.iconst 2, 1) := fq1_5 (fl_17 (j := 27) rfl rfl)
theorem dL_law_1116 : decode cL_law 1116 = .ok (.iadd, 1) := fq1_96 (fl_17 (j := 28) rfl rfl)
theorem dL_law_1117 : decode cL_law 1117 = .ok (.iaload, 1) := fq1_46 (fl_17 (j := 29) rfl rfl)
theorem dL_law_1118 : decode cL_law 1118 = .ok (.aload_n 0, 1) := fq1_42 (fl_17 (j := 30) rfl rfl)
theorem dL_law_1119 : decode cL_law 1119 = .ok (.iload_n 3, 1) := fq1_29 (fl_17 (j := 31) rfl rfl)
theorem dL_law_1120 : decode cL_law 1120 = .ok (.iconst 3, 1) := fq1_6 (fl_17 (j := 32) rfl rfl)
theorem dL_law_1121 : decode cL_law 1121 = .ok (.iadd, 1) := fq1_96 (fl_17 (j := 33) rfl rfl)
theorem dL_law_1122 : decode cL_law 1122 = .ok (.iaload, 1) := fq1_46 (fl_17 (j := 34) rfl rfl)
theorem dL_law_1123 : decode cL_law 1123 = .ok (.aload_n 0, 1) := fq1_42 (fl_17 (j := 35) rfl rfl)
theorem dL_law_1124 : decode cL_law 1124 = .ok (.iload_n 3, 1) := fq1_29 (fl_17 (j := 36) rfl rfl)
theorem dL_law_1125 : decode cL_law 1125 = .ok (.iconst 4, 1) := fq1_7 (fl_17 (j := 37) rfl rfl)
theorem dL_law_1126 : decode cL_law 1126 = .ok (.iadd, 1) := fq1_96 (fl_17 (j := 38) rfl rfl)
theorem dL_law_1127 : decode cL_law 1127 = .ok (.iaload, 1) := fq1_46 (fl_17 (j := 39) rfl rfl)
theorem dL_law_1128 : decode cL_law 1128 = .ok (.invokevirtual 110, 3) := fq3_182 (fl_17 (j := 40) rfl rfl) (fl_17 (j := 41) rfl rfl) (fl_17 (j := 42) rfl rfl) rfl
theorem dL_law_1131 : decode cL_law 1131 = .ok (.pop, 1) := fq1_87 (fl_17 (j := 43) rfl rfl)
theorem dL_law_1132 : decode cL_law 1132 = .ok (.aload_n 2, 1) := fq1_44 (fl_17 (j := 44) rfl rfl)
theorem dL_law_1133 : decode cL_law 1133 = .ok (.aload_n 0, 1) := fq1_42 (fl_17 (j := 45) rfl rfl)
theorem dL_law_1134 : decode cL_law 1134 = .ok (.iload_n 3, 1) := fq1_29 (fl_17 (j := 46) rfl rfl)
theorem dL_law_1135 : decode cL_law 1135 = .ok (.iconst 1, 1) := fq1_4 (fl_17 (j := 47) rfl rfl)
theorem dL_law_1136 : decode cL_law 1136 = .ok (.iadd, 1) := fq1_96 (fl_17 (j := 48) rfl rfl)
theorem dL_law_1137 : decode cL_law 1137 = .ok (.iaload, 1) := fq1_46 (fl_17 (j := 49) rfl rfl)
theorem dL_law_1138 : decode cL_law 1138 = .ok (.aload_n 0, 1) := fq1_42 (fl_17 (j := 50) rfl rfl)
theorem dL_law_1139 : decode cL_law 1139 = .ok (.iload_n 3, 1) := fq1_29 (fl_17 (j := 51) rfl rfl)
theorem dL_law_1140 : decode cL_law 1140 = .ok (.iconst 2, 1) := fq1_5 (fl_17 (j := 52) rfl rfl)
theorem dL_law_1141 : decode cL_law 1141 = .ok (.iadd, 1) := fq1_96 (fl_17 (j := 53) rfl rfl)
theorem dL_law_1142 : decode cL_law 1142 = .ok (.iaload, 1) := fq1_46 (fl_17 (j := 54) rfl rfl)
theorem dL_law_1143 : decode cL_law 1143 = .ok (.aload_n 0, 1) := fq1_42 (fl_17 (j := 55) rfl rfl)
theorem dL_law_1144 : decode cL_law 1144 = .ok (.iload_n 3, 1) := fq1_29 (fl_17 (j := 56) rfl rfl)
theorem dL_law_1145 : decode cL_law 1145 = .ok (.iconst 3, 1) := fq1_6 (fl_17 (j := 57) rfl rfl)
theorem dL_law_1146 : decode cL_law 1146 = .ok (.iadd, 1) := fq1_96 (fl_17 (j := 58) rfl rfl)
theorem dL_law_1147 : decode cL_law 1147 = .ok (.iaload, 1) := fq1_46 (fl_17 (j := 59) rfl rfl)
theorem dL_law_1148 : decode cL_law 1148 = .ok (.aload_n 0, 1) := fq1_42 (fl_17 (j := 60) rfl rfl)
theorem dL_law_1149 : decode cL_law 1149 = .ok (.iload_n 3, 1) := fq1_29 (fl_17 (j := 61) rfl rfl)
theorem dL_law_1150 : decode cL_law 1150 = .ok (.iconst 4, 1) := fq1_7 (fl_17 (j := 62) rfl rfl)
theorem dL_law_1151 : decode cL_law 1151 = .ok (.iadd, 1) := fq1_96 (fl_17 (j := 63) rfl rfl)
theorem dL_law_1152 : decode cL_law 1152 = .ok (.iaload, 1) := fq1_46 (fl_18 (j := 0) rfl rfl)
theorem dL_law_1153 : decode cL_law 1153 = .ok (.invokevirtual 113, 3) := fq3_182 (fl_18 (j := 1) rfl rfl) (fl_18 (j := 2) rfl rfl) (fl_18 (j := 3) rfl rfl) rfl
theorem dL_law_1156 : decode cL_law 1156 = .ok (.pop, 1) := fq1_87 (fl_18 (j := 4) rfl rfl)
theorem dL_law_1157 : decode cL_law 1157 = .ok (.goto 1689, 3) := fq3_167 (fl_18 (j := 5) rfl rfl) (fl_18 (j := 6) rfl rfl) (fl_18 (j := 7) rfl rfl) (s2p rfl (bl rfl))
theorem dL_law_1160 : decode cL_law 1160 = .ok (.aload_n 1, 1) := fq1_43 (fl_18 (j := 8) rfl rfl)
theorem dL_law_1161 : decode cL_law 1161 = .ok (.aload_n 0, 1) := fq1_42 (fl_18 (j := 9) rfl rfl)
theorem dL_law_1162 : decode cL_law 1162 = .ok (.iload_n 3, 1) := fq1_29 (fl_18 (j := 10) rfl rfl)
theorem dL_law_1163 : decode cL_law 1163 = .ok (.iconst 1, 1) := fq1_4 (fl_18 (j := 11) rfl rfl)
theorem dL_law_1164 : decode cL_law 1164 = .ok (.iadd, 1) := fq1_96 (fl_18 (j := 12) rfl rfl)
theorem dL_law_1165 : decode cL_law 1165 = .ok (.iaload, 1) := fq1_46 (fl_18 (j := 13) rfl rfl)
theorem dL_law_1166 : decode cL_law 1166 = .ok (.invokevirtual 114, 3) := fq3_182 (fl_18 (j := 14) rfl rfl) (fl_18 (j := 15) rfl rfl) (fl_18 (j := 16) rfl rfl) rfl
theorem dL_law_1169 : decode cL_law 1169 = .ok (.pop, 1) := fq1_87 (fl_18 (j := 17) rfl rfl)
theorem dL_law_1170 : decode cL_law 1170 = .ok (.aload_n 2, 1) := fq1_44 (fl_18 (j := 18) rfl rfl)
theorem dL_law_1171 : decode cL_law 1171 = .ok (.aload_n 0, 1) := fq1_42 (fl_18 (j := 19) rfl rfl)
theorem dL_law_1172 : decode cL_law 1172 = .ok (.iload_n 3, 1) := fq1_29 (fl_18 (j := 20) rfl rfl)
theorem dL_law_1173 : decode cL_law 1173 = .ok (.iconst 1, 1) := fq1_4 (fl_18 (j := 21) rfl rfl)
theorem dL_law_1174 : decode cL_law 1174 = .ok (.iadd, 1) := fq1_96 (fl_18 (j := 22) rfl rfl)
theorem dL_law_1175 : decode cL_law 1175 = .ok (.iaload, 1) := fq1_46 (fl_18 (j := 23) rfl rfl)
theorem dL_law_1176 : decode cL_law 1176 = .ok (.invokevirtual 117, 3) := fq3_182 (fl_18 (j := 24) rfl rfl) (fl_18 (j := 25) rfl rfl) (fl_18 (j := 26) rfl rfl) rfl
theorem dL_law_1179 : decode cL_law 1179 = .ok (.pop, 1) := fq1_87 (fl_18 (j := 27) rfl rfl)
theorem dL_law_1180 : decode cL_law 1180 = .ok (.goto 1666, 3) := fq3_167 (fl_18 (j := 28) rfl rfl) (fl_18 (j := 29) rfl rfl) (fl_18 (j := 30) rfl rfl) (s2p rfl (bl rfl))
theorem dL_law_1183 : decode cL_law 1183 = .ok (.aload_n 1, 1) := fq1_43 (fl_18 (j := 31) rfl rfl)
theorem dL_law_1184 : decode cL_law 1184 = .ok (.aload_n 0, 1) := fq1_42 (fl_18 (j := 32) rfl rfl)
theorem dL_law_1185 : decode cL_law 1185 = .ok (.iload_n 3, 1) := fq1_29 (fl_18 (j := 33) rfl rfl)
theorem dL_law_1186 : decode cL_law 1186 = .ok (.iconst 1, 1) := fq1_4 (fl_18 (j := 34) rfl rfl)
theorem dL_law_1187 : decode cL_law 1187 = .ok (.iadd, 1) := fq1_96 (fl_18 (j := 35) rfl rfl)
theorem dL_law_1188 : decode cL_law 1188 = .ok (.iaload, 1) := fq1_46 (fl_18 (j := 36) rfl rfl)
theorem dL_law_1189 : decode cL_law 1189 = .ok (.aload_n 0, 1) := fq1_42 (fl_18 (j := 37) rfl rfl)
theorem dL_law_1190 : decode cL_law 1190 = .ok (.iload_n 3, 1) := fq1_29 (fl_18 (j := 38) rfl rfl)
theorem dL_law_1191 : decode cL_law 1191 = .ok (.iconst 2, 1) := fq1_5 (fl_18 (j := 39) rfl rfl)
theorem dL_law_1192 : decode cL_law 1192 = .ok (.iadd, 1) := fq1_96 (fl_18 (j := 40) rfl rfl)
theorem dL_law_1193 : decode cL_law 1193 = .ok (.iaload, 1) := fq1_46 (fl_18 (j := 41) rfl rfl)
theorem dL_law_1194 : decode cL_law 1194 = .ok (.aload_n 0, 1) := fq1_42 (fl_18 (j := 42) rfl rfl)
theorem dL_law_1195 : decode cL_law 1195 = .ok (.iload_n 3, 1) := fq1_29 (fl_18 (j := 43) rfl rfl)
theorem dL_law_1196 : decode cL_law 1196 = .ok (.iconst 3, 1) := fq1_6 (fl_18 (j := 44) rfl rfl)
theorem dL_law_1197 : decode cL_law 1197 = .ok (.iadd, 1) := fq1_96 (fl_18 (j := 45) rfl rfl)
theorem dL_law_1198 : decode cL_law 1198 = .ok (.iaload, 1) := fq1_46 (fl_18 (j := 46) rfl rfl)
theorem dL_law_1199 : decode cL_law 1199 = .ok (.invokevirtual 118, 3) := fq3_182 (fl_18 (j := 47) rfl rfl) (fl_18 (j := 48) rfl rfl) (fl_18 (j := 49) rfl rfl) rfl
theorem dL_law_1202 : decode cL_law 1202 = .ok (.pop, 1) := fq1_87 (fl_18 (j := 50) rfl rfl)
theorem dL_law_1203 : decode cL_law 1203 = .ok (.aload_n 2, 1) := fq1_44 (fl_18 (j := 51) rfl rfl)
theorem dL_law_1204 : decode cL_law 1204 = .ok (.aload_n 0, 1) := fq1_42 (fl_18 (j := 52) rfl rfl)
theorem dL_law_1205 : decode cL_law 1205 = .ok (.iload_n 3, 1) := fq1_29 (fl_18 (j := 53) rfl rfl)
theorem dL_law_1206 : decode cL_law 1206 = .ok (.iconst 1, 1) := fq1_4 (fl_18 (j := 54) rfl rfl)
theorem dL_law_1207 : decode cL_law 1207 = .ok (.iadd, 1) := fq1_96 (fl_18 (j := 55) rfl rfl)
theorem dL_law_1208 : decode cL_law 1208 = .ok (.iaload, 1) := fq1_46 (fl_18 (j := 56) rfl rfl)
theorem dL_law_1209 : decode cL_law 1209 = .ok (.aload_n 0, 1) := fq1_42 (fl_18 (j := 57) rfl rfl)
theorem dL_law_1210 : decode cL_law 1210 = .ok (.iload_n 3, 1) := fq1_29 (fl_18 (j := 58) rfl rfl)
theorem dL_law_1211 : decode cL_law 1211 = .ok (.iconst 2, 1) := fq1_5 (fl_18 (j := 59) rfl rfl)
theorem dL_law_1212 : decode cL_law 1212 = .ok (.iadd, 1) := fq1_96 (fl_18 (j := 60) rfl rfl)
theorem dL_law_1213 : decode cL_law 1213 = .ok (.iaload, 1) := fq1_46 (fl_18 (j := 61) rfl rfl)
theorem dL_law_1214 : decode cL_law 1214 = .ok (.aload_n 0, 1) := fq1_42 (fl_18 (j := 62) rfl rfl)
theorem dL_law_1215 : decode cL_law 1215 = .ok (.iload_n 3, 1) := fq1_29 (fl_18 (j := 63) rfl rfl)
theorem dL_law_1216 : decode cL_law 1216 = .ok (.iconst 3, 1) := fq1_6 (fl_19 (j := 0) rfl rfl)
theorem dL_law_1217 : decode cL_law 1217 = .ok (.iadd, 1) := fq1_96 (fl_19 (j := 1) rfl rfl)
theorem dL_law_1218 : decode cL_law 1218 = .ok (.iaload, 1) := fq1_46 (fl_19 (j := 2) rfl rfl)
theorem dL_law_1219 : decode cL_law 1219 = .ok (.invokevirtual 121, 3) := fq3_182 (fl_19 (j := 3) rfl rfl) (fl_19 (j := 4) rfl rfl) (fl_19 (j := 5) rfl rfl) rfl
theorem dL_law_1222 : decode cL_law 1222 = .ok (.pop, 1) := fq1_87 (fl_19 (j := 6) rfl rfl)
theorem dL_law_1223 : decode cL_law 1223 = .ok (.goto 1623, 3) := fq3_167 (fl_19 (j := 7) rfl rfl) (fl_19 (j := 8) rfl rfl) (fl_19 (j := 9) rfl rfl) (s2p rfl (bl rfl))
end

section
set_option maxHeartbeats 40000000 in
set_option maxRecDepth 100000 in
theorem law_c16 {p : Program} {e : Env} {s : State} {m : MethodId} {below : List Frame} {meth : Method} {c : Code} (l : Launch) {b L : Nat} {xs : Nat → Int32} {A : Nat → Prop} {D : va_G} {k : Nat → ClassId} {sa sv : Nat} {i : Int} (C : LFX p s m meth c b L xs A D k sa sv) (hi : 0 ≤ i ∧ i + 6 ≤ (L : Int)) (hk : LAT p l e s m below meth c b A D k 2846 i) : LAT p l e s m below meth c b A D k 902 i := by
  obtain ⟨hx, hb, hr, hml, hown, hts, hKK, hX, hbl, hbA, hA, hAf, hlocks, hSY, hRR, hL⟩ := id C
  intro a IA LA FA QA VA IB LB FB QB VB IC LC FC QC VC ID LD FD QD VD IR LR FR QR VR r H locs ls hI hRT hP hD hS hl
  have hK := hKK.1
  obtain ⟨hP, hD⟩ : PD D A ((GA k a IA LA FA QA VA r) ++ ((GB k a IB LB FB QB VB r) ++ ((GC k a IC LC FC QC VC r) ++ ((GD k a ID LD FD QD VD r) ++ ((GR k a IR LR FR QR VR r) ++ (r.tl)))))) H := ⟨hP, hD⟩
  obtain ⟨hWI, hWI_0, hWI_1, hWI_2, hrd, htr0, htr1, htr2, htr3, hrgk, hrgt, hdrc, hev, hmk, hM, hMK, hTI, hFS, htd, hlt, rgH, rgS, rgY, hdr, hit, hmmk, heq, htq, hrel, hbf, htb, hkw, hSK, hSK0, hSK1, hSK2, hNE, hNE0, hNE1, hNE2, hLE, hYE, hQE, hLE0, hLE1, hLE2, hYE0, hYE1, hYE2⟩ := id hI
  obtain ⟨gw1, gw2, gw3, gw4, gw5, gw6, gw7, gw8, gw9, gw10, gw11⟩ := id hWI
  have hx0 := gw9
  have hYI := gw11
  have hpf : rgI (FR 3) (-128) 127 900 := fun e h1 h2 => by rw [← htb e h1 h2]; exact hbf e h1 h2
  obtain ⟨z1, hz1, hz1a, hz1b⟩ := i32_z (xs (iZ (i + 1)).toNatClampNeg)
  obtain ⟨z2, hz2, hz2a, hz2b⟩ := i32_z (xs (iZ (i + 2)).toNatClampNeg)
  obtain ⟨z3, hz3, hz3a, hz3b⟩ := i32_z (xs (iZ (i + 3)).toNatClampNeg)
  obtain ⟨z4, hz4, hz4a, hz4b⟩ := i32_z (xs (iZ (i + 4)).toNatClampNeg)
  obtain ⟨z5, hz5, hz5a, hz5b⟩ := i32_z (xs (iZ (i + 5)).toNatClampNeg)
  have hl : lv_has ls 4 [(3, .int (iZ i)), (2, .ref (a 106)), (1, .ref (a 0)), (0, .ref b)] := hl
  have hls := hQE.1
  replace hls : _ := hls
  refine lv_aload_n hx hb dL_law_902 rfl (lv_at hl 2 rfl) ?_
  refine lv_aload_n hx hb dL_law_903 rfl (lv_at hl 3 rfl) ?_
  refine lv_iload_n hx hb dL_law_904 rfl (lv_at hl 0 rfl) ?_
  refine lv_iconst (v := iZ 1) hx hb dL_law_905 rfl ?_
  refine lv_iadd hx hb dL_law_906 ?_
  refine lv_topi (fun x_1 ex_1 => ?_)
  obtain rfl : x_1 = iZ (i + 1) := ex_1.trans (iZ_add i 1)
  refine va_sld hx hb hX hbl hbA hS (zi1 hi hL) dL_law_907 ?_
  refine lv_topi (fun x_2 ex_2 => ?_)
  obtain rfl : x_2 = iZ z1 := ex_2.trans hz1
  refine lv_aload_n hx hb dL_law_908 rfl (lv_at hl 3 rfl) ?_
  refine lv_iload_n hx hb dL_law_909 rfl (lv_at hl 0 rfl) ?_
  refine lv_iconst (v := iZ 2) hx hb dL_law_910 rfl ?_
  refine lv_iadd hx hb dL_law_911 ?_
  refine lv_topi (fun x_3 ex_3 => ?_)
  obtain rfl : x_3 = iZ (i + 2) := ex_3.trans (iZ_add i 2)
  refine va_sld hx hb hX hbl hbA hS (zi2 hi hL) dL_law_912 ?_
  refine lv_topi (fun x_4 ex_4 => ?_)
  obtain rfl : x_4 = iZ z2 := ex_4.trans hz2
  refine lv_aload_n hx hb dL_law_913 rfl (lv_at hl 3 rfl) ?_
  refine lv_iload_n hx hb dL_law_914 rfl (lv_at hl 0 rfl) ?_
  refine lv_iconst (v := iZ 3) hx hb dL_law_915 rfl ?_
  refine lv_iadd hx hb dL_law_916 ?_
  refine lv_topi (fun x_5 ex_5 => ?_)
  obtain rfl : x_5 = iZ (i + 3) := ex_5.trans (iZ_add i 3)
  refine va_sld hx hb hX hbl hbA hS (zi3 hi hL) dL_law_917 ?_
  refine lv_topi (fun x_6 ex_6 => ?_)
  obtain rfl : x_6 = iZ z3 := ex_6.trans hz3
  refine CKV2 (As := [.int (iZ z1), .int (iZ z2), .int (iZ z3)]) (rest := []) (tl := (GB k a IB LB FB QB VB r) ++ ((GC k a IC LC FC QC VC r) ++ ((GD k a ID LD FD QD VD r) ++ ((GR k a IR LR FR QR VR r) ++ (r.tl))))) hx hb hml hown hts hKK hP hD hS hA (p_iced l D k (a 0) (a 1) (a 2) (a 3) (a 4) (a 5) (a 6) (a 7) (a 8) (a 9) (a 10) (a 11) (IA 0) (IA 1) (IA 2) (LA 0) (LA 1) ([.ref (a 26), .ref (a 27), .ref (a 28), .int (iZ (IA 3)), .int (iZ (IA 4)), .int (iZ (IA 5)), .int (iZ (IA 6))]) (a 23) (a 27) (a 28) (a 24) (a 25) (IA 3) (IA 4) (IA 5) (FA 0) (FA 1) z1 z2 z3 rfl rfl rfl rfl rfl (by first | with_reducible assumption | omega) hx0 (by first | with_reducible assumption | omega) (by first | with_reducible assumption | omega) (by first | with_reducible assumption | omega) ⟨hz1a, hz1b⟩ ⟨hz2a, hz2b⟩ ⟨hz3a, hz3b⟩) ci_X11_iced qm_L_89 ⟨Nat.le_of_ble_eq_true rfl, Nat.le_of_ble_eq_true rfl⟩ (lroom _) [0, 1, 2, 6, 7] [3, 4, 5, 8, 9, 10, 11, 12, 13, 14, 15, 16, 17, 18, 19, 20, 21, 22, 23, 24, 25] rfl rfl rfl (by decide +kernel) (by decide +kernel) (by decide +kernel) 0 rfl rfl rfl hl.1 rfl (Nat.le_of_ble_eq_true rfl) dL_law_918 (fun u_7 H locs hφ hP hD hS => ?_)
  have p_8 : (((0 ≤ z1 ∧ z1 < (IA 3)) ∧ (0 ≤ z2 ∧ z2 < (IA 3)) ∧ ¬ z1 = z2 ∧ (0 ≤ z3 ∧ z3 ≤ 400)) ∧ (u_7.1.1 : Int) = bz (isIc (FA 1) (IA 4) z1 z2 z3)) ∨ (¬ ((0 ≤ z1 ∧ z1 < (IA 3)) ∧ (0 ≤ z2 ∧ z2 < (IA 3)) ∧ ¬ z1 = z2 ∧ (0 ≤ z3 ∧ z3 ≤ 400)) ∧ (u_7.1.1 : Int) = -1) := hφ
  obtain ⟨hP, hD⟩ := PD.by3 (is := [21, 22, 23, 0, 1, 2, 24, 25, 3, 4, 5, 6, 7, 8, 9, 10, 11, 12, 13, 14, 15, 16, 17, 18, 19, 20]) (y := (GA k a (u9 IA 2 u_7.1.2) LA FA QA VA r)) ⟨hP, hD⟩ (by decide +kernel) rfl rfl
  refine W.eq (g2 := F0 m 921 ls [.int (iZ u_7.1.1)]) rfl ?_
  refine lv_pop hx hb dL_law_921 rfl ?_
  refine lv_aload_n hx hb dL_law_922 rfl (lv_at hl 1 rfl) ?_
  refine lv_aload_n hx hb dL_law_923 rfl (lv_at hl 3 rfl) ?_
  refine lv_iload_n hx hb dL_law_924 rfl (lv_at hl 0 rfl) ?_
  refine lv_iconst (v := iZ 1) hx hb dL_law_925 rfl ?_
  refine lv_iadd hx hb dL_law_926 ?_
  refine lv_topi (fun x_9 ex_9 => ?_)
  obtain rfl : x_9 = iZ (i + 1) := ex_9.trans (iZ_add i 1)
  refine va_sld hx hb hX hbl hbA hS (zi1 hi hL) dL_law_927 ?_
  refine lv_topi (fun x_10 ex_10 => ?_)
  obtain rfl : x_10 = iZ z1 := ex_10.trans hz1
  refine lv_aload_n hx hb dL_law_928 rfl (lv_at hl 3 rfl) ?_
  refine lv_iload_n hx hb dL_law_929 rfl (lv_at hl 0 rfl) ?_
  refine lv_iconst (v := iZ 2) hx hb dL_law_930 rfl ?_
  refine lv_iadd hx hb dL_law_931 ?_
  refine lv_topi (fun x_11 ex_11 => ?_)
  obtain rfl : x_11 = iZ (i + 2) := ex_11.trans (iZ_add i 2)
  refine va_sld hx hb hX hbl hbA hS (zi2 hi hL) dL_law_932 ?_
  refine lv_topi (fun x_12 ex_12 => ?_)
  obtain rfl : x_12 = iZ z2 := ex_12.trans hz2
  refine lv_aload_n hx hb dL_law_933 rfl (lv_at hl 3 rfl) ?_
  refine lv_iload_n hx hb dL_law_934 rfl (lv_at hl 0 rfl) ?_
  refine lv_iconst (v := iZ 3) hx hb dL_law_935 rfl ?_
  refine lv_iadd hx hb dL_law_936 ?_
  refine lv_topi (fun x_13 ex_13 => ?_)
  obtain rfl : x_13 = iZ (i + 3) := ex_13.trans (iZ_add i 3)
  refine va_sld hx hb hX hbl hbA hS (zi3 hi hL) dL_law_937 ?_
  refine lv_topi (fun x_14 ex_14 => ?_)
  obtain rfl : x_14 = iZ z3 := ex_14.trans hz3
  obtain ⟨hP, hD⟩ := PD.fr5 ⟨hP, hD⟩
  refine CKV2 (As := [.int (iZ z1), .int (iZ z2), .int (iZ z3)]) (rest := []) (tl := (GA k a (u9 IA 2 u_7.1.2) LA FA QA VA r) ++ ((GB k a IB LB FB QB VB r) ++ ((GC k a IC LC FC QC VC r) ++ ((GD k a ID LD FD QD VD r) ++ (r.tl))))) hx hb hml hown hts hKK hP hD hS hA (q_iced l D k (a 106) (a 107) (a 108) (a 109) (a 110) (a 111) (a 112) (a 113) (a 114) (a 115) (a 116) (a 117) (a 118) (a 119) (a 120) (a 121) (a 122) (IR 0) (IR 1) (IR 2) (IR 3) (IR 4) (IR 5) (IR 6) (IR 7) (IR 8) (IR 9) (IR 10) (IR 11) (IR 12) (IR 13) (IR 14) (IR 15) (IR 16) (IR 17) (LR 0) (LR 1) (FR 0) z1 z2 z3 hM ⟨hz1a, hz1b⟩ ⟨hz2a, hz2b⟩ ⟨hz3a, hz3b⟩) ci_X12_iced qm_L_93 ⟨Nat.le_of_ble_eq_true rfl, Nat.le_of_ble_eq_true rfl⟩ (lroom _) [0, 1] [2, 3, 4, 5, 6, 7, 8, 9, 10, 11, 12, 13, 14, 15, 16] rfl rfl rfl (by decide +kernel) (by decide +kernel) (by decide +kernel) 0 rfl rfl rfl hl.1 rfl (Nat.le_of_ble_eq_true rfl) dL_law_938 (fun u_15 H locs hφ hP hD hS => ?_)
  have p_16 : (((0 ≤ z1 ∧ z1 < (gz (FR 0) 0)) ∧ (0 ≤ z2 ∧ z2 < (gz (FR 0) 0)) ∧ ¬ z1 = z2 ∧ (0 ≤ z3 ∧ z3 ≤ 400)) ∧ (u_15.1.1 : Int) = bz (isIc (sh (FR 0) 46) (gz (FR 0) 1) z1 z2 z3)) ∨ (¬ ((0 ≤ z1 ∧ z1 < (gz (FR 0) 0)) ∧ (0 ≤ z2 ∧ z2 < (gz (FR 0) 0)) ∧ ¬ z1 = z2 ∧ (0 ≤ z3 ∧ z3 ≤ 400)) ∧ (u_15.1.1 : Int) = -1) := hφ
  obtain ⟨hP, hD⟩ := PD.by3 (is := [15, 16, 0, 1, 2, 3, 4, 5, 6, 7, 8, 9, 10, 11, 12, 13, 14]) (y := (GR k a (u9 IR 0 u_15.1.2) LR FR QR VR r)) ⟨hP, hD⟩ (by decide +kernel) rfl rfl
  refine W.eq (g2 := F0 m 941 ls [.int (iZ u_15.1.1)]) rfl ?_
  refine lv_pop hx hb dL_law_941 rfl ?_
  refine lv_goto (tgt := 2846) hx hb dL_law_942 rfl ?_
  obtain ⟨hP, hD⟩ := PD.fr5 ⟨hP, hD⟩
  obtain ⟨hP, hD⟩ := PD.fr5 ⟨hP, hD⟩
  obtain ⟨hP, hD⟩ := PD.fr5 ⟨hP, hD⟩
  obtain ⟨hP, hD⟩ := PD.fr5 ⟨hP, hD⟩
  exact hk a (u9 IA 2 u_7.1.2) LA FA QA VA IB LB FB QB VB IC LC FC QC VC ID LD FD QD VD (u9 IR 0 u_15.1.2) LR FR QR VR r H locs ls (show INV _ _ _ _ _ _ _ _ _ _ _ _ _ _ _ from ⟨hWI, hWI_0, hWI_1, hWI_2, hrd, htr0, htr1, htr2, htr3, hrgk, hrgt, hdrc, hev, hmk, hM, hMK, hTI, hFS, htd, hlt, rgH, rgS, rgY, hdr, hit, hmmk, heq, htq, hrel, hbf, htb, hkw, hSK, hSK0, hSK1, hSK2, hNE, hNE0, hNE1, hNE2, hLE, hYE, hQE, hLE0, hLE1, hLE2, hYE0, hYE1, hYE2⟩) hRT hP hD hS (lv_sub hl [0, 1, 2, 3] rfl)
set_option maxHeartbeats 40000000 in
set_option maxRecDepth 100000 in
theorem law_c17 {p : Program} {e : Env} {s : State} {m : MethodId} {below : List Frame} {meth : Method} {c : Code} (l : Launch) {b L : Nat} {xs : Nat → Int32} {A : Nat → Prop} {D : va_G} {k : Nat → ClassId} {sa sv : Nat} {i : Int} (C : LFX p s m meth c b L xs A D k sa sv) (hi : 0 ≤ i ∧ i + 6 ≤ (L : Int)) (hk : LAT p l e s m below meth c b A D k 2846 i) : LAT p l e s m below meth c b A D k 945 i := by
  obtain ⟨hx, hb, hr, hml, hown, hts, hKK, hX, hbl, hbA, hA, hAf, hlocks, hSY, hRR, hL⟩ := id C
  intro a IA LA FA QA VA IB LB FB QB VB IC LC FC QC VC ID LD FD QD VD IR LR FR QR VR r H locs ls hI hRT hP hD hS hl
  have hK := hKK.1
  obtain ⟨hP, hD⟩ : PD D A ((GA k a IA LA FA QA VA r) ++ ((GB k a IB LB FB QB VB r) ++ ((GC k a IC LC FC QC VC r) ++ ((GD k a ID LD FD QD VD r) ++ ((GR k a IR LR FR QR VR r) ++ (r.tl)))))) H := ⟨hP, hD⟩
  obtain ⟨hWI, hWI_0, hWI_1, hWI_2, hrd, htr0, htr1, htr2, htr3, hrgk, hrgt, hdrc, hev, hmk, hM, hMK, hTI, hFS, htd, hlt, rgH, rgS, rgY, hdr, hit, hmmk, heq, htq, hrel, hbf, htb, hkw, hSK, hSK0, hSK1, hSK2, hNE, hNE0, hNE1, hNE2, hLE, hYE, hQE, hLE0, hLE1, hLE2, hYE0, hYE1, hYE2⟩ := id hI
  obtain ⟨gw1, gw2, gw3, gw4, gw5, gw6, gw7, gw8, gw9, gw10, gw11⟩ := id hWI
  have hx0 := gw9
  have hYI := gw11
  have hpf : rgI (FR 3) (-128) 127 900 := fun e h1 h2 => by rw [← htb e h1 h2]; exact hbf e h1 h2
  obtain ⟨z1, hz1, hz1a, hz1b⟩ := i32_z (xs (iZ (i + 1)).toNatClampNeg)
  obtain ⟨z2, hz2, hz2a, hz2b⟩ := i32_z (xs (iZ (i + 2)).toNatClampNeg)
  obtain ⟨z3, hz3, hz3a, hz3b⟩ := i32_z (xs (iZ (i + 3)).toNatClampNeg)
  obtain ⟨z4, hz4, hz4a, hz4b⟩ := i32_z (xs (iZ (i + 4)).toNatClampNeg)
  obtain ⟨z5, hz5, hz5a, hz5b⟩ := i32_z (xs (iZ (i + 5)).toNatClampNeg)
  have hl : lv_has ls 4 [(3, .int (iZ i)), (2, .ref (a 106)), (1, .ref (a 0)), (0, .ref b)] := hl
  have hls := hQE.1
  replace hls : _ := hls
  refine lv_aload_n hx hb dL_law_945 rfl (lv_at hl 2 rfl) ?_
  refine lv_aload_n hx hb dL_law_946 rfl (lv_at hl 3 rfl) ?_
  refine lv_iload_n hx hb dL_law_947 rfl (lv_at hl 0 rfl) ?_
  refine lv_iconst (v := iZ 1) hx hb dL_law_948 rfl ?_
  refine lv_iadd hx hb dL_law_949 ?_
  refine lv_topi (fun x_1 ex_1 => ?_)
  obtain rfl : x_1 = iZ (i + 1) := ex_1.trans (iZ_add i 1)
  refine va_sld hx hb hX hbl hbA hS (zi1 hi hL) dL_law_950 ?_
  refine lv_topi (fun x_2 ex_2 => ?_)
  obtain rfl : x_2 = iZ z1 := ex_2.trans hz1
  refine lv_aload_n hx hb dL_law_951 rfl (lv_at hl 3 rfl) ?_
  refine lv_iload_n hx hb dL_law_952 rfl (lv_at hl 0 rfl) ?_
  refine lv_iconst (v := iZ 2) hx hb dL_law_953 rfl ?_
  refine lv_iadd hx hb dL_law_954 ?_
  refine lv_topi (fun x_3 ex_3 => ?_)
  obtain rfl : x_3 = iZ (i + 2) := ex_3.trans (iZ_add i 2)
  refine va_sld hx hb hX hbl hbA hS (zi2 hi hL) dL_law_955 ?_
  refine lv_topi (fun x_4 ex_4 => ?_)
  obtain rfl : x_4 = iZ z2 := ex_4.trans hz2
  refine lv_aload_n hx hb dL_law_956 rfl (lv_at hl 3 rfl) ?_
  refine lv_iload_n hx hb dL_law_957 rfl (lv_at hl 0 rfl) ?_
  refine lv_iconst (v := iZ 3) hx hb dL_law_958 rfl ?_
  refine lv_iadd hx hb dL_law_959 ?_
  refine lv_topi (fun x_5 ex_5 => ?_)
  obtain rfl : x_5 = iZ (i + 3) := ex_5.trans (iZ_add i 3)
  refine va_sld hx hb hX hbl hbA hS (zi3 hi hL) dL_law_960 ?_
  refine lv_topi (fun x_6 ex_6 => ?_)
  obtain rfl : x_6 = iZ z3 := ex_6.trans hz3
  obtain ⟨hP, hD⟩ := PD.mid4 ⟨hP, hD⟩
  refine CXM (mid := (GB k a IB LB FB QB VB r) ++ ((GC k a IC LC FC QC VC r) ++ ((GD k a ID LD FD QD VD r) ++ ((GR k a IR LR FR QR VR r))))) (c0 := 123) (s0 := 16705) (r := r) (As := [.int (iZ z1), .int (iZ z2), .int (iZ z3)]) (rest := []) hx hb hml hown hts hKK hP hD hS hA (p_arrives l D k (a 0) (a 1) (a 2) (a 3) (a 4) (a 5) (a 6) (a 7) (a 8) (a 9) (a 10) (a 11) (IA 0) (IA 1) (IA 2) (LA 0) (LA 1) ([.ref (a 26), .ref (a 27), .ref (a 28), .int (iZ (IA 3)), .int (iZ (IA 4)), .int (iZ (IA 5)), .int (iZ (IA 6))]) (a 23) (a 27) (a 28) (a 24) (a 25) (IA 3) (IA 4) (IA 5) (FA 0) (FA 1) z1 z2 z3 r hRT rfl rfl rfl rfl rfl (by first | with_reducible assumption | omega) hx0 (by first | with_reducible assumption | omega) (by first | with_reducible assumption | omega) (by first | with_reducible assumption | omega) ⟨hz1a, hz1b⟩ ⟨hz2a, hz2b⟩ ⟨hz3a, hz3b⟩) ci_X11_arrives qm_L_94 ⟨Nat.le_of_ble_eq_true rfl, Nat.le_of_ble_eq_true rfl⟩ ⟨Nat.le_of_ble_eq_true rfl, Nat.le_of_ble_eq_true rfl⟩ [0, 1, 17, 2, 6, 7] [3, 4, 5, 8, 9, 10, 11, 12, 13, 14, 15, 16, 18, 19, 20, 21, 22, 23, 24, 25] rfl rfl rfl (by decide +kernel) (by decide +kernel) (by decide +kernel) 0 rfl rfl rfl hl.1 rfl (Nat.le_of_ble_eq_true rfl) dL_law_961 (fun u_7 H locs hφ hP hD hS => ?_)
  obtain ⟨r_8, v_9⟩ := u_7
  obtain ⟨p_10, rtr_8⟩ : ((((0 ≤ z1 ∧ z1 < (IA 3)) ∧ (0 ≤ z3 ∧ z3 < (IA 3)) ∧ (0 ≤ z2 ∧ z2 ≤ 400)) ∧ (v_9.1.1 : Int) = arN (FA 0) (FA 1) (IA 4) z1 z2 z3) ∨ (¬ ((0 ≤ z1 ∧ z1 < (IA 3)) ∧ (0 ≤ z3 ∧ z3 < (IA 3)) ∧ (0 ≤ z2 ∧ z2 ≤ 400)) ∧ (v_9.1.1 : Int) = -1)) ∧ ((RT k) (RX (FA 0) (FA 1) (IA 3) (IA 4)) r_8) := hφ
  obtain ⟨hP, hD⟩ := PD.dim4 ⟨hP, hD⟩
  obtain ⟨hP, hD⟩ := PD.by3 (is := [20, 21, 23, 0, 1, 2, 24, 25, 3, 4, 5, 6, 7, 8, 9, 10, 11, 22, 12, 13, 14, 15, 16, 17, 18, 19]) (y := (GA k a (u9 IA 2 v_9.1.2) LA FA QA VA r_8)) ⟨hP, hD⟩ (by decide +kernel) rfl rfl
  refine W.ceq (cells' := 123 + cz true r_8.b) (slots' := 16705 + sz true r_8.b) rfl rfl ?_
  refine W.eq (g2 := F0 m 964 ls [.int (iZ v_9.1.1)]) rfl ?_
  refine lv_pop hx hb dL_law_964 rfl ?_
  refine lv_aload_n hx hb dL_law_965 rfl (lv_at hl 1 rfl) ?_
  refine lv_aload_n hx hb dL_law_966 rfl (lv_at hl 3 rfl) ?_
  refine lv_iload_n hx hb dL_law_967 rfl (lv_at hl 0 rfl) ?_
  refine lv_iconst (v := iZ 1) hx hb dL_law_968 rfl ?_
  refine lv_iadd hx hb dL_law_969 ?_
  refine lv_topi (fun x_11 ex_11 => ?_)
  obtain rfl : x_11 = iZ (i + 1) := ex_11.trans (iZ_add i 1)
  refine va_sld hx hb hX hbl hbA hS (zi1 hi hL) dL_law_970 ?_
  refine lv_topi (fun x_12 ex_12 => ?_)
  obtain rfl : x_12 = iZ z1 := ex_12.trans hz1
  refine lv_aload_n hx hb dL_law_971 rfl (lv_at hl 3 rfl) ?_
  refine lv_iload_n hx hb dL_law_972 rfl (lv_at hl 0 rfl) ?_
  refine lv_iconst (v := iZ 2) hx hb dL_law_973 rfl ?_
  refine lv_iadd hx hb dL_law_974 ?_
  refine lv_topi (fun x_13 ex_13 => ?_)
  obtain rfl : x_13 = iZ (i + 2) := ex_13.trans (iZ_add i 2)
  refine va_sld hx hb hX hbl hbA hS (zi2 hi hL) dL_law_975 ?_
  refine lv_topi (fun x_14 ex_14 => ?_)
  obtain rfl : x_14 = iZ z2 := ex_14.trans hz2
  refine lv_aload_n hx hb dL_law_976 rfl (lv_at hl 3 rfl) ?_
  refine lv_iload_n hx hb dL_law_977 rfl (lv_at hl 0 rfl) ?_
  refine lv_iconst (v := iZ 3) hx hb dL_law_978 rfl ?_
  refine lv_iadd hx hb dL_law_979 ?_
  refine lv_topi (fun x_15 ex_15 => ?_)
  obtain rfl : x_15 = iZ (i + 3) := ex_15.trans (iZ_add i 3)
  refine va_sld hx hb hX hbl hbA hS (zi3 hi hL) dL_law_980 ?_
  refine lv_topi (fun x_16 ex_16 => ?_)
  obtain rfl : x_16 = iZ z3 := ex_16.trans hz3
  obtain ⟨hP, hD⟩ := PD.fr5 ⟨hP, hD⟩
  refine CKV2 (As := [.int (iZ z1), .int (iZ z2), .int (iZ z3)]) (rest := []) (tl := (GA k a (u9 IA 2 v_9.1.2) LA FA QA VA r_8) ++ ((GB k a IB LB FB QB VB r) ++ ((GC k a IC LC FC QC VC r) ++ ((GD k a ID LD FD QD VD r) ++ (r_8.tl))))) hx hb hml hown hts hKK hP hD hS hA (q_arrives l D k (a 106) (a 107) (a 108) (a 109) (a 110) (a 111) (a 112) (a 113) (a 114) (a 115) (a 116) (a 117) (a 118) (a 119) (a 120) (a 121) (a 122) (IR 0) (IR 1) (IR 2) (IR 3) (IR 4) (IR 5) (IR 6) (IR 7) (IR 8) (IR 9) (IR 10) (IR 11) (IR 12) (IR 13) (IR 14) (IR 15) (IR 16) (IR 17) (LR 0) (LR 1) (FR 0) z1 z2 z3 hM ⟨hz1a, hz1b⟩ ⟨hz2a, hz2b⟩ ⟨hz3a, hz3b⟩) ci_X12_arrives qm_L_97 ⟨Nat.le_of_ble_eq_true rfl, Nat.le_of_ble_eq_true rfl⟩ (lroom _) [0, 1] [2, 3, 4, 5, 6, 7, 8, 9, 10, 11, 12, 13, 14, 15, 16] rfl rfl rfl (by decide +kernel) (by decide +kernel) (by decide +kernel) 0 rfl rfl rfl hl.1 rfl (Nat.le_of_ble_eq_true rfl) dL_law_981 (fun u_17 H locs hφ hP hD hS => ?_)
  have p_18 : (((0 ≤ z1 ∧ z1 < (gz (FR 0) 0)) ∧ (0 ≤ z3 ∧ z3 < (gz (FR 0) 0)) ∧ (0 ≤ z2 ∧ z2 ≤ 400)) ∧ ((1000000 ≤ arF (sh (FR 0) 10) (sh (FR 0) 46) (gz (FR 0) 1) z1 z2 z3 ∧ (u_17.1.1 : Int) = -1) ∨ (arF (sh (FR 0) 10) (sh (FR 0) 46) (gz (FR 0) 1) z1 z2 z3 < 1000000 ∧ (u_17.1.1 : Int) = arF (sh (FR 0) 10) (sh (FR 0) 46) (gz (FR 0) 1) z1 z2 z3))) ∨ (¬ ((0 ≤ z1 ∧ z1 < (gz (FR 0) 0)) ∧ (0 ≤ z3 ∧ z3 < (gz (FR 0) 0)) ∧ (0 ≤ z2 ∧ z2 ≤ 400)) ∧ (u_17.1.1 : Int) = -1) := hφ
  obtain ⟨hP, hD⟩ := PD.by3 (is := [15, 16, 0, 1, 2, 3, 4, 5, 6, 7, 8, 9, 10, 11, 12, 13, 14]) (y := (GR k a (u9 IR 0 u_17.1.2) LR FR QR VR r_8)) ⟨hP, hD⟩ (by decide +kernel) rfl rfl
  refine W.eq (g2 := F0 m 984 ls [.int (iZ u_17.1.1)]) rfl ?_
  refine lv_pop hx hb dL_law_984 rfl ?_
  refine lv_goto (tgt := 2846) hx hb dL_law_985 rfl ?_
  obtain ⟨hP, hD⟩ := PD.fr5 ⟨hP, hD⟩
  obtain ⟨hP, hD⟩ := PD.fr5 ⟨hP, hD⟩
  obtain ⟨hP, hD⟩ := PD.fr5 ⟨hP, hD⟩
  obtain ⟨hP, hD⟩ := PD.fr5 ⟨hP, hD⟩
  exact hk a (u9 IA 2 v_9.1.2) LA FA QA VA IB LB FB QB VB IC LC FC QC VC ID LD FD QD VD (u9 IR 0 u_17.1.2) LR FR QR VR r_8 H locs ls (show INV _ _ _ _ _ _ _ _ _ _ _ _ _ _ _ from ⟨hWI, hWI_0, hWI_1, hWI_2, hrd, htr0, htr1, htr2, htr3, hrgk, hrgt, hdrc, hev, hmk, hM, hMK, hTI, hFS, htd, hlt, rgH, rgS, rgY, hdr, hit, hmmk, heq, htq, hrel, hbf, htb, hkw, hSK, hSK0, hSK1, hSK2, hNE, hNE0, hNE1, hNE2, hLE, hYE, hQE, hLE0, hLE1, hLE2, hYE0, hYE1, hYE2⟩) rtr_8 hP hD hS (lv_sub hl [0, 1, 2, 3] rfl)
set_option maxHeartbeats 40000000 in
set_option maxRecDepth 100000 in
theorem law_c18 {p : Program} {e : Env} {s : State} {m : MethodId} {below : List Frame} {meth : Method} {c : Code} (l : Launch) {b L : Nat} {xs : Nat → Int32} {A : Nat → Prop} {D : va_G} {k : Nat → ClassId} {sa sv : Nat} {i : Int} (C : LFX p s m meth c b L xs A D k sa sv) (hi : 0 ≤ i ∧ i + 6 ≤ (L : Int)) (hk : LAT p l e s m below meth c b A D k 2846 i) : LAT p l e s m below meth c b A D k 988 i := by
  obtain ⟨hx, hb, hr, hml, hown, hts, hKK, hX, hbl, hbA, hA, hAf, hlocks, hSY, hRR, hL⟩ := id C
  intro a IA LA FA QA VA IB LB FB QB VB IC LC FC QC VC ID LD FD QD VD IR LR FR QR VR r H locs ls hI hRT hP hD hS hl
  have hK := hKK.1
  obtain ⟨hP, hD⟩ : PD D A ((GA k a IA LA FA QA VA r) ++ ((GB k a IB LB FB QB VB r) ++ ((GC k a IC LC FC QC VC r) ++ ((GD k a ID LD FD QD VD r) ++ ((GR k a IR LR FR QR VR r) ++ (r.tl)))))) H := ⟨hP, hD⟩
  obtain ⟨hWI, hWI_0, hWI_1, hWI_2, hrd, htr0, htr1, htr2, htr3, hrgk, hrgt, hdrc, hev, hmk, hM, hMK, hTI, hFS, htd, hlt, rgH, rgS, rgY, hdr, hit, hmmk, heq, htq, hrel, hbf, htb, hkw, hSK, hSK0, hSK1, hSK2, hNE, hNE0, hNE1, hNE2, hLE, hYE, hQE, hLE0, hLE1, hLE2, hYE0, hYE1, hYE2⟩ := id hI
  obtain ⟨gw1, gw2, gw3, gw4, gw5, gw6, gw7, gw8, gw9, gw10, gw11⟩ := id hWI
  have hx0 := gw9
  have hYI := gw11
  have hpf : rgI (FR 3) (-128) 127 900 := fun e h1 h2 => by rw [← htb e h1 h2]; exact hbf e h1 h2
  obtain ⟨z1, hz1, hz1a, hz1b⟩ := i32_z (xs (iZ (i + 1)).toNatClampNeg)
  obtain ⟨z2, hz2, hz2a, hz2b⟩ := i32_z (xs (iZ (i + 2)).toNatClampNeg)
  obtain ⟨z3, hz3, hz3a, hz3b⟩ := i32_z (xs (iZ (i + 3)).toNatClampNeg)
  obtain ⟨z4, hz4, hz4a, hz4b⟩ := i32_z (xs (iZ (i + 4)).toNatClampNeg)
  obtain ⟨z5, hz5, hz5a, hz5b⟩ := i32_z (xs (iZ (i + 5)).toNatClampNeg)
  have hl : lv_has ls 4 [(3, .int (iZ i)), (2, .ref (a 106)), (1, .ref (a 0)), (0, .ref b)] := hl
  have hls := hQE.1
  replace hls : _ := hls
  refine lv_aload_n hx hb dL_law_988 rfl (lv_at hl 2 rfl) ?_
  refine lv_aload_n hx hb dL_law_989 rfl (lv_at hl 3 rfl) ?_
  refine lv_iload_n hx hb dL_law_990 rfl (lv_at hl 0 rfl) ?_
  refine lv_iconst (v := iZ 1) hx hb dL_law_991 rfl ?_
  refine lv_iadd hx hb dL_law_992 ?_
  refine lv_topi (fun x_1 ex_1 => ?_)
  obtain rfl : x_1 = iZ (i + 1) := ex_1.trans (iZ_add i 1)
  refine va_sld hx hb hX hbl hbA hS (zi1 hi hL) dL_law_993 ?_
  refine lv_topi (fun x_2 ex_2 => ?_)
  obtain rfl : x_2 = iZ z1 := ex_2.trans hz1
  refine lv_aload_n hx hb dL_law_994 rfl (lv_at hl 3 rfl) ?_
  refine lv_iload_n hx hb dL_law_995 rfl (lv_at hl 0 rfl) ?_
  refine lv_iconst (v := iZ 2) hx hb dL_law_996 rfl ?_
  refine lv_iadd hx hb dL_law_997 ?_
  refine lv_topi (fun x_3 ex_3 => ?_)
  obtain rfl : x_3 = iZ (i + 2) := ex_3.trans (iZ_add i 2)
  refine va_sld hx hb hX hbl hbA hS (zi2 hi hL) dL_law_998 ?_
  refine lv_topi (fun x_4 ex_4 => ?_)
  obtain rfl : x_4 = iZ z2 := ex_4.trans hz2
  refine lv_aload_n hx hb dL_law_999 rfl (lv_at hl 3 rfl) ?_
  refine lv_iload_n hx hb dL_law_1000 rfl (lv_at hl 0 rfl) ?_
  refine lv_iconst (v := iZ 3) hx hb dL_law_1001 rfl ?_
  refine lv_iadd hx hb dL_law_1002 ?_
  refine lv_topi (fun x_5 ex_5 => ?_)
  obtain rfl : x_5 = iZ (i + 3) := ex_5.trans (iZ_add i 3)
  refine va_sld hx hb hX hbl hbA hS (zi3 hi hL) dL_law_1003 ?_
  refine lv_topi (fun x_6 ex_6 => ?_)
  obtain rfl : x_6 = iZ z3 := ex_6.trans hz3
  refine CKV2 (As := [.int (iZ z1), .int (iZ z2), .int (iZ z3)]) (rest := []) (tl := (GB k a IB LB FB QB VB r) ++ ((GC k a IC LC FC QC VC r) ++ ((GD k a ID LD FD QD VD r) ++ ((GR k a IR LR FR QR VR r) ++ (r.tl))))) hx hb hml hown hts hKK hP hD hS hA (p_ship l D k (a 0) (a 1) (a 2) (a 3) (a 4) (a 5) (a 6) (a 7) (a 8) (a 9) (a 10) (a 11) (IA 0) (IA 1) (IA 2) (LA 0) (LA 1) ([.ref (a 26), .ref (a 27), .ref (a 28), .int (iZ (IA 3)), .int (iZ (IA 4)), .int (iZ (IA 5)), .int (iZ (IA 6))]) (a 23) (a 27) (a 28) (a 24) (a 25) (IA 3) (IA 4) (IA 5) (FA 0) (FA 1) z1 z2 z3 rfl rfl rfl rfl rfl (by first | with_reducible assumption | omega) hx0 (by first | with_reducible assumption | omega) (by first | with_reducible assumption | omega) (by first | with_reducible assumption | omega) ⟨hz1a, hz1b⟩ ⟨hz2a, hz2b⟩ ⟨hz3a, hz3b⟩) ci_X11_ship qm_L_98 ⟨Nat.le_of_ble_eq_true rfl, Nat.le_of_ble_eq_true rfl⟩ (lroom _) [0, 1, 2, 6, 7] [3, 4, 5, 8, 9, 10, 11, 12, 13, 14, 15, 16, 17, 18, 19, 20, 21, 22, 23, 24, 25] rfl rfl rfl (by decide +kernel) (by decide +kernel) (by decide +kernel) 0 rfl rfl rfl hl.1 rfl (Nat.le_of_ble_eq_true rfl) dL_law_1004 (fun u_7 H locs hφ hP hD hS => ?_)
  have p_8 : (((0 ≤ z1 ∧ z1 < (IA 3)) ∧ (0 ≤ z3 ∧ z3 < (IA 3)) ∧ (0 ≤ z2 ∧ z2 ≤ 400)) ∧ isLd (FA 0) z1 z2 z3 u_7.1.1) ∨ (¬ ((0 ≤ z1 ∧ z1 < (IA 3)) ∧ (0 ≤ z3 ∧ z3 < (IA 3)) ∧ (0 ≤ z2 ∧ z2 ≤ 400)) ∧ (u_7.1.1 : Int) = -1) := hφ
  obtain ⟨hP, hD⟩ := PD.by3 (is := [21, 22, 23, 0, 1, 2, 24, 25, 3, 4, 5, 6, 7, 8, 9, 10, 11, 12, 13, 14, 15, 16, 17, 18, 19, 20]) (y := (GA k a (u9 IA 2 u_7.1.2) LA FA QA VA r)) ⟨hP, hD⟩ (by decide +kernel) rfl rfl
  refine W.eq (g2 := F0 m 1007 ls [.int (iZ u_7.1.1)]) rfl ?_
  refine lv_pop hx hb dL_law_1007 rfl ?_
  refine lv_aload_n hx hb dL_law_1008 rfl (lv_at hl 1 rfl) ?_
  refine lv_aload_n hx hb dL_law_1009 rfl (lv_at hl 3 rfl) ?_
  refine lv_iload_n hx hb dL_law_1010 rfl (lv_at hl 0 rfl) ?_
  refine lv_iconst (v := iZ 1) hx hb dL_law_1011 rfl ?_
  refine lv_iadd hx hb dL_law_1012 ?_
  refine lv_topi (fun x_9 ex_9 => ?_)
  obtain rfl : x_9 = iZ (i + 1) := ex_9.trans (iZ_add i 1)
  refine va_sld hx hb hX hbl hbA hS (zi1 hi hL) dL_law_1013 ?_
  refine lv_topi (fun x_10 ex_10 => ?_)
  obtain rfl : x_10 = iZ z1 := ex_10.trans hz1
  refine lv_aload_n hx hb dL_law_1014 rfl (lv_at hl 3 rfl) ?_
  refine lv_iload_n hx hb dL_law_1015 rfl (lv_at hl 0 rfl) ?_
  refine lv_iconst (v := iZ 2) hx hb dL_law_1016 rfl ?_
  refine lv_iadd hx hb dL_law_1017 ?_
  refine lv_topi (fun x_11 ex_11 => ?_)
  obtain rfl : x_11 = iZ (i + 2) := ex_11.trans (iZ_add i 2)
  refine va_sld hx hb hX hbl hbA hS (zi2 hi hL) dL_law_1018 ?_
  refine lv_topi (fun x_12 ex_12 => ?_)
  obtain rfl : x_12 = iZ z2 := ex_12.trans hz2
  refine lv_aload_n hx hb dL_law_1019 rfl (lv_at hl 3 rfl) ?_
  refine lv_iload_n hx hb dL_law_1020 rfl (lv_at hl 0 rfl) ?_
  refine lv_iconst (v := iZ 3) hx hb dL_law_1021 rfl ?_
  refine lv_iadd hx hb dL_law_1022 ?_
  refine lv_topi (fun x_13 ex_13 => ?_)
  obtain rfl : x_13 = iZ (i + 3) := ex_13.trans (iZ_add i 3)
  refine va_sld hx hb hX hbl hbA hS (zi3 hi hL) dL_law_1023 ?_
  refine lv_topi (fun x_14 ex_14 => ?_)
  obtain rfl : x_14 = iZ z3 := ex_14.trans hz3
  obtain ⟨hP, hD⟩ := PD.fr5 ⟨hP, hD⟩
  refine CKV2 (As := [.int (iZ z1), .int (iZ z2), .int (iZ z3)]) (rest := []) (tl := (GA k a (u9 IA 2 u_7.1.2) LA FA QA VA r) ++ ((GB k a IB LB FB QB VB r) ++ ((GC k a IC LC FC QC VC r) ++ ((GD k a ID LD FD QD VD r) ++ (r.tl))))) hx hb hml hown hts hKK hP hD hS hA (q_ship l D k (a 106) (a 107) (a 108) (a 109) (a 110) (a 111) (a 112) (a 113) (a 114) (a 115) (a 116) (a 117) (a 118) (a 119) (a 120) (a 121) (a 122) (IR 0) (IR 1) (IR 2) (IR 3) (IR 4) (IR 5) (IR 6) (IR 7) (IR 8) (IR 9) (IR 10) (IR 11) (IR 12) (IR 13) (IR 14) (IR 15) (IR 16) (IR 17) (LR 0) (LR 1) (FR 0) z1 z2 z3 hM ⟨hz1a, hz1b⟩ ⟨hz2a, hz2b⟩ ⟨hz3a, hz3b⟩) ci_X12_ship qm_L_101 ⟨Nat.le_of_ble_eq_true rfl, Nat.le_of_ble_eq_true rfl⟩ (lroom _) [0, 1] [2, 3, 4, 5, 6, 7, 8, 9, 10, 11, 12, 13, 14, 15, 16] rfl rfl rfl (by decide +kernel) (by decide +kernel) (by decide +kernel) 0 rfl rfl rfl hl.1 rfl (Nat.le_of_ble_eq_true rfl) dL_law_1024 (fun u_15 H locs hφ hP hD hS => ?_)
  have p_16 : (((0 ≤ z1 ∧ z1 < (gz (FR 0) 0)) ∧ (0 ≤ z3 ∧ z3 < (gz (FR 0) 0)) ∧ (0 ≤ z2 ∧ z2 ≤ 400)) ∧ (u_15.1.1 : Int) = cmF (sh (FR 0) 10) z1 z2 z3 10) ∨ (¬ ((0 ≤ z1 ∧ z1 < (gz (FR 0) 0)) ∧ (0 ≤ z3 ∧ z3 < (gz (FR 0) 0)) ∧ (0 ≤ z2 ∧ z2 ≤ 400)) ∧ (u_15.1.1 : Int) = -1) := hφ
  obtain ⟨hP, hD⟩ := PD.by3 (is := [15, 16, 0, 1, 2, 3, 4, 5, 6, 7, 8, 9, 10, 11, 12, 13, 14]) (y := (GR k a (u9 IR 0 u_15.1.2) LR FR QR VR r)) ⟨hP, hD⟩ (by decide +kernel) rfl rfl
  refine W.eq (g2 := F0 m 1027 ls [.int (iZ u_15.1.1)]) rfl ?_
  refine lv_pop hx hb dL_law_1027 rfl ?_
  refine lv_goto (tgt := 2846) hx hb dL_law_1028 rfl ?_
  obtain ⟨hP, hD⟩ := PD.fr5 ⟨hP, hD⟩
  obtain ⟨hP, hD⟩ := PD.fr5 ⟨hP, hD⟩
  obtain ⟨hP, hD⟩ := PD.fr5 ⟨hP, hD⟩
  obtain ⟨hP, hD⟩ := PD.fr5 ⟨hP, hD⟩
  exact hk a (u9 IA 2 u_7.1.2) LA FA QA VA IB LB FB QB VB IC LC FC QC VC ID LD FD QD VD (u9 IR 0 u_15.1.2) LR FR QR VR r H locs ls (show INV _ _ _ _ _ _ _ _ _ _ _ _ _ _ _ from ⟨hWI, hWI_0, hWI_1, hWI_2, hrd, htr0, htr1, htr2, htr3, hrgk, hrgt, hdrc, hev, hmk, hM, hMK, hTI, hFS, htd, hlt, rgH, rgS, rgY, hdr, hit, hmmk, heq, htq, hrel, hbf, htb, hkw, hSK, hSK0, hSK1, hSK2, hNE, hNE0, hNE1, hNE2, hLE, hYE, hQE, hLE0, hLE1, hLE2, hYE0, hYE1, hYE2⟩) hRT hP hD hS (lv_sub hl [0, 1, 2, 3] rfl)
set_option maxHeartbeats 40000000 in
set_option maxRecDepth 100000 in
theorem law_c19 {p : Program} {e : Env} {s : State} {m : MethodId} {below : List Frame} {meth : Method} {c : Code} (l : Launch) {b L : Nat} {xs : Nat → Int32} {A : Nat → Prop} {D : va_G} {k : Nat → ClassId} {sa sv : Nat} {i : Int} (C : LFX p s m meth c b L xs A D k sa sv) (hi : 0 ≤ i ∧ i + 6 ≤ (L : Int)) (hk : LAT p l e s m below meth c b A D k 2846 i) : LAT p l e s m below meth c b A D k 1031 i := by
  obtain ⟨hx, hb, hr, hml, hown, hts, hKK, hX, hbl, hbA, hA, hAf, hlocks, hSY, hRR, hL⟩ := id C
  intro a IA LA FA QA VA IB LB FB QB VB IC LC FC QC VC ID LD FD QD VD IR LR FR QR VR r H locs ls hI hRT hP hD hS hl
  have hK := hKK.1
  obtain ⟨hP, hD⟩ : PD D A ((GA k a IA LA FA QA VA r) ++ ((GB k a IB LB FB QB VB r) ++ ((GC k a IC LC FC QC VC r) ++ ((GD k a ID LD FD QD VD r) ++ ((GR k a IR LR FR QR VR r) ++ (r.tl)))))) H := ⟨hP, hD⟩
  obtain ⟨hWI, hWI_0, hWI_1, hWI_2, hrd, htr0, htr1, htr2, htr3, hrgk, hrgt, hdrc, hev, hmk, hM, hMK, hTI, hFS, htd, hlt, rgH, rgS, rgY, hdr, hit, hmmk, heq, htq, hrel, hbf, htb, hkw, hSK, hSK0, hSK1, hSK2, hNE, hNE0, hNE1, hNE2, hLE, hYE, hQE, hLE0, hLE1, hLE2, hYE0, hYE1, hYE2⟩ := id hI
  obtain ⟨gw1, gw2, gw3, gw4, gw5, gw6, gw7, gw8, gw9, gw10, gw11⟩ := id hWI
  have hx0 := gw9
  have hYI := gw11
  have hpf : rgI (FR 3) (-128) 127 900 := fun e h1 h2 => by rw [← htb e h1 h2]; exact hbf e h1 h2
  obtain ⟨z1, hz1, hz1a, hz1b⟩ := i32_z (xs (iZ (i + 1)).toNatClampNeg)
  obtain ⟨z2, hz2, hz2a, hz2b⟩ := i32_z (xs (iZ (i + 2)).toNatClampNeg)
  obtain ⟨z3, hz3, hz3a, hz3b⟩ := i32_z (xs (iZ (i + 3)).toNatClampNeg)
  obtain ⟨z4, hz4, hz4a, hz4b⟩ := i32_z (xs (iZ (i + 4)).toNatClampNeg)
  obtain ⟨z5, hz5, hz5a, hz5b⟩ := i32_z (xs (iZ (i + 5)).toNatClampNeg)
  have hl : lv_has ls 4 [(3, .int (iZ i)), (2, .ref (a 106)), (1, .ref (a 0)), (0, .ref b)] := hl
  have hls := hQE.1
  replace hls : _ := hls
  refine lv_aload_n hx hb dL_law_1031 rfl (lv_at hl 2 rfl) ?_
  refine lv_aload_n hx hb dL_law_1032 rfl (lv_at hl 3 rfl) ?_
  refine lv_iload_n hx hb dL_law_1033 rfl (lv_at hl 0 rfl) ?_
  refine lv_iconst (v := iZ 1) hx hb dL_law_1034 rfl ?_
  refine lv_iadd hx hb dL_law_1035 ?_
  refine lv_topi (fun x_1 ex_1 => ?_)
  obtain rfl : x_1 = iZ (i + 1) := ex_1.trans (iZ_add i 1)
  refine va_sld hx hb hX hbl hbA hS (zi1 hi hL) dL_law_1036 ?_
  refine lv_topi (fun x_2 ex_2 => ?_)
  obtain rfl : x_2 = iZ z1 := ex_2.trans hz1
  refine lv_aload_n hx hb dL_law_1037 rfl (lv_at hl 3 rfl) ?_
  refine lv_iload_n hx hb dL_law_1038 rfl (lv_at hl 0 rfl) ?_
  refine lv_iconst (v := iZ 2) hx hb dL_law_1039 rfl ?_
  refine lv_iadd hx hb dL_law_1040 ?_
  refine lv_topi (fun x_3 ex_3 => ?_)
  obtain rfl : x_3 = iZ (i + 2) := ex_3.trans (iZ_add i 2)
  refine va_sld hx hb hX hbl hbA hS (zi2 hi hL) dL_law_1041 ?_
  refine lv_topi (fun x_4 ex_4 => ?_)
  obtain rfl : x_4 = iZ z2 := ex_4.trans hz2
  refine lv_aload_n hx hb dL_law_1042 rfl (lv_at hl 3 rfl) ?_
  refine lv_iload_n hx hb dL_law_1043 rfl (lv_at hl 0 rfl) ?_
  refine lv_iconst (v := iZ 3) hx hb dL_law_1044 rfl ?_
  refine lv_iadd hx hb dL_law_1045 ?_
  refine lv_topi (fun x_5 ex_5 => ?_)
  obtain rfl : x_5 = iZ (i + 3) := ex_5.trans (iZ_add i 3)
  refine va_sld hx hb hX hbl hbA hS (zi3 hi hL) dL_law_1046 ?_
  refine lv_topi (fun x_6 ex_6 => ?_)
  obtain rfl : x_6 = iZ z3 := ex_6.trans hz3
  obtain ⟨hP, hD⟩ := PD.mid4 ⟨hP, hD⟩
  refine CXM (mid := (GB k a IB LB FB QB VB r) ++ ((GC k a IC LC FC QC VC r) ++ ((GD k a ID LD FD QD VD r) ++ ((GR k a IR LR FR QR VR r))))) (c0 := 123) (s0 := 16705) (r := r) (As := [.int (iZ z1), .int (iZ z2), .int (iZ z3)]) (rest := []) hx hb hml hown hts hKK hP hD hS hA (p_sees l D k (a 0) (a 1) (a 2) (a 3) (a 4) (a 5) (a 6) (a 7) (a 8) (a 9) (a 10) (a 11) (IA 0) (IA 1) (IA 2) (LA 0) (LA 1) ([.ref (a 26), .ref (a 27), .ref (a 28), .int (iZ (IA 3)), .int (iZ (IA 4)), .int (iZ (IA 5)), .int (iZ (IA 6))]) (a 23) (a 27) (a 28) (a 24) (a 25) (IA 3) (IA 4) (IA 5) (FA 0) (FA 1) z1 z2 z3 r hRT rfl rfl rfl rfl rfl (by first | with_reducible assumption | omega) hx0 (by first | with_reducible assumption | omega) (by first | with_reducible assumption | omega) (by first | with_reducible assumption | omega) ⟨hz1a, hz1b⟩ ⟨hz2a, hz2b⟩ ⟨hz3a, hz3b⟩) ci_X11_sees qm_L_102 ⟨Nat.le_of_ble_eq_true rfl, Nat.le_of_ble_eq_true rfl⟩ ⟨Nat.le_of_ble_eq_true rfl, Nat.le_of_ble_eq_true rfl⟩ [0, 1, 17, 2, 6, 7] [3, 4, 5, 8, 9, 10, 11, 12, 13, 14, 15, 16, 18, 19, 20, 21, 22, 23, 24, 25] rfl rfl rfl (by decide +kernel) (by decide +kernel) (by decide +kernel) 0 rfl rfl rfl hl.1 rfl (Nat.le_of_ble_eq_true rfl) dL_law_1047 (fun u_7 H locs hφ hP hD hS => ?_)
  obtain ⟨r_8, v_9⟩ := u_7
  obtain ⟨p_10, rtr_8⟩ : ((((0 ≤ z1 ∧ z1 < (IA 3)) ∧ (0 ≤ z2 ∧ z2 < (IA 3)) ∧ (0 ≤ z3 ∧ z3 ≤ 400)) ∧ (v_9.1.1 : Int) = snF (FA 0) (FA 1) (IA 4) z1 z2 z3) ∨ (¬ ((0 ≤ z1 ∧ z1 < (IA 3)) ∧ (0 ≤ z2 ∧ z2 < (IA 3)) ∧ (0 ≤ z3 ∧ z3 ≤ 400)) ∧ (v_9.1.1 : Int) = -1)) ∧ ((RT k) (RX (FA 0) (FA 1) (IA 3) (IA 4)) r_8) := hφ
  obtain ⟨hP, hD⟩ := PD.dim4 ⟨hP, hD⟩
  obtain ⟨hP, hD⟩ := PD.by3 (is := [20, 21, 23, 0, 1, 2, 24, 25, 3, 4, 5, 6, 7, 8, 9, 10, 11, 22, 12, 13, 14, 15, 16, 17, 18, 19]) (y := (GA k a (u9 IA 2 v_9.1.2) LA FA QA VA r_8)) ⟨hP, hD⟩ (by decide +kernel) rfl rfl
  refine W.ceq (cells' := 123 + cz true r_8.b) (slots' := 16705 + sz true r_8.b) rfl rfl ?_
  refine W.eq (g2 := F0 m 1050 ls [.int (iZ v_9.1.1)]) rfl ?_
  refine lv_pop hx hb dL_law_1050 rfl ?_
  refine lv_aload_n hx hb dL_law_1051 rfl (lv_at hl 1 rfl) ?_
  refine lv_aload_n hx hb dL_law_1052 rfl (lv_at hl 3 rfl) ?_
  refine lv_iload_n hx hb dL_law_1053 rfl (lv_at hl 0 rfl) ?_
  refine lv_iconst (v := iZ 1) hx hb dL_law_1054 rfl ?_
  refine lv_iadd hx hb dL_law_1055 ?_
  refine lv_topi (fun x_11 ex_11 => ?_)
  obtain rfl : x_11 = iZ (i + 1) := ex_11.trans (iZ_add i 1)
  refine va_sld hx hb hX hbl hbA hS (zi1 hi hL) dL_law_1056 ?_
  refine lv_topi (fun x_12 ex_12 => ?_)
  obtain rfl : x_12 = iZ z1 := ex_12.trans hz1
  refine lv_aload_n hx hb dL_law_1057 rfl (lv_at hl 3 rfl) ?_
  refine lv_iload_n hx hb dL_law_1058 rfl (lv_at hl 0 rfl) ?_
  refine lv_iconst (v := iZ 2) hx hb dL_law_1059 rfl ?_
  refine lv_iadd hx hb dL_law_1060 ?_
  refine lv_topi (fun x_13 ex_13 => ?_)
  obtain rfl : x_13 = iZ (i + 2) := ex_13.trans (iZ_add i 2)
  refine va_sld hx hb hX hbl hbA hS (zi2 hi hL) dL_law_1061 ?_
  refine lv_topi (fun x_14 ex_14 => ?_)
  obtain rfl : x_14 = iZ z2 := ex_14.trans hz2
  refine lv_aload_n hx hb dL_law_1062 rfl (lv_at hl 3 rfl) ?_
  refine lv_iload_n hx hb dL_law_1063 rfl (lv_at hl 0 rfl) ?_
  refine lv_iconst (v := iZ 3) hx hb dL_law_1064 rfl ?_
  refine lv_iadd hx hb dL_law_1065 ?_
  refine lv_topi (fun x_15 ex_15 => ?_)
  obtain rfl : x_15 = iZ (i + 3) := ex_15.trans (iZ_add i 3)
  refine va_sld hx hb hX hbl hbA hS (zi3 hi hL) dL_law_1066 ?_
  refine lv_topi (fun x_16 ex_16 => ?_)
  obtain rfl : x_16 = iZ z3 := ex_16.trans hz3
  obtain ⟨hP, hD⟩ := PD.fr5 ⟨hP, hD⟩
  refine CKV2 (As := [.int (iZ z1), .int (iZ z2), .int (iZ z3)]) (rest := []) (tl := (GA k a (u9 IA 2 v_9.1.2) LA FA QA VA r_8) ++ ((GB k a IB LB FB QB VB r) ++ ((GC k a IC LC FC QC VC r) ++ ((GD k a ID LD FD QD VD r) ++ (r_8.tl))))) hx hb hml hown hts hKK hP hD hS hA (q_sees l D k (a 106) (a 107) (a 108) (a 109) (a 110) (a 111) (a 112) (a 113) (a 114) (a 115) (a 116) (a 117) (a 118) (a 119) (a 120) (a 121) (a 122) (IR 0) (IR 1) (IR 2) (IR 3) (IR 4) (IR 5) (IR 6) (IR 7) (IR 8) (IR 9) (IR 10) (IR 11) (IR 12) (IR 13) (IR 14) (IR 15) (IR 16) (IR 17) (LR 0) (LR 1) (FR 0) z1 z2 z3 hM ⟨hz1a, hz1b⟩ ⟨hz2a, hz2b⟩ ⟨hz3a, hz3b⟩) ci_X12_sees qm_L_105 ⟨Nat.le_of_ble_eq_true rfl, Nat.le_of_ble_eq_true rfl⟩ (lroom _) [0, 1] [2, 3, 4, 5, 6, 7, 8, 9, 10, 11, 12, 13, 14, 15, 16] rfl rfl rfl (by decide +kernel) (by decide +kernel) (by decide +kernel) 0 rfl rfl rfl hl.1 rfl (Nat.le_of_ble_eq_true rfl) dL_law_1067 (fun u_17 H locs hφ hP hD hS => ?_)
  have p_18 : (((0 ≤ z1 ∧ z1 < (gz (FR 0) 0)) ∧ (0 ≤ z2 ∧ z2 < (gz (FR 0) 0)) ∧ (0 ≤ z3 ∧ z3 ≤ 400)) ∧ (u_17.1.1 : Int) = snF (sh (FR 0) 10) (sh (FR 0) 46) (gz (FR 0) 1) z1 z2 z3) ∨ (¬ ((0 ≤ z1 ∧ z1 < (gz (FR 0) 0)) ∧ (0 ≤ z2 ∧ z2 < (gz (FR 0) 0)) ∧ (0 ≤ z3 ∧ z3 ≤ 400)) ∧ (u_17.1.1 : Int) = -1) := hφ
  obtain ⟨hP, hD⟩ := PD.by3 (is := [15, 16, 0, 1, 2, 3, 4, 5, 6, 7, 8, 9, 10, 11, 12, 13, 14]) (y := (GR k a (u9 IR 0 u_17.1.2) LR FR QR VR r_8)) ⟨hP, hD⟩ (by decide +kernel) rfl rfl
  refine W.eq (g2 := F0 m 1070 ls [.int (iZ u_17.1.1)]) rfl ?_
  refine lv_pop hx hb dL_law_1070 rfl ?_
  refine lv_goto (tgt := 2846) hx hb dL_law_1071 rfl ?_
  obtain ⟨hP, hD⟩ := PD.fr5 ⟨hP, hD⟩
  obtain ⟨hP, hD⟩ := PD.fr5 ⟨hP, hD⟩
  obtain ⟨hP, hD⟩ := PD.fr5 ⟨hP, hD⟩
  obtain ⟨hP, hD⟩ := PD.fr5 ⟨hP, hD⟩
  exact hk a (u9 IA 2 v_9.1.2) LA FA QA VA IB LB FB QB VB IC LC FC QC VC ID LD FD QD VD (u9 IR 0 u_17.1.2) LR FR QR VR r_8 H locs ls (show INV _ _ _ _ _ _ _ _ _ _ _ _ _ _ _ from ⟨hWI, hWI_0, hWI_1, hWI_2, hrd, htr0, htr1, htr2, htr3, hrgk, hrgt, hdrc, hev, hmk, hM, hMK, hTI, hFS, htd, hlt, rgH, rgS, rgY, hdr, hit, hmmk, heq, htq, hrel, hbf, htb, hkw, hSK, hSK0, hSK1, hSK2, hNE, hNE0, hNE1, hNE2, hLE, hYE, hQE, hLE0, hLE1, hLE2, hYE0, hYE1, hYE2⟩) rtr_8 hP hD hS (lv_sub hl [0, 1, 2, 3] rfl)
set_option maxHeartbeats 40000000 in
set_option maxRecDepth 100000 in
theorem law_c20 {p : Program} {e : Env} {s : State} {m : MethodId} {below : List Frame} {meth : Method} {c : Code} (l : Launch) {b L : Nat} {xs : Nat → Int32} {A : Nat → Prop} {D : va_G} {k : Nat → ClassId} {sa sv : Nat} {i : Int} (C : LFX p s m meth c b L xs A D k sa sv) (hi : 0 ≤ i ∧ i + 6 ≤ (L : Int)) (hk : LAT p l e s m below meth c b A D k 2846 i) : LAT p l e s m below meth c b A D k 1074 i := by
  obtain ⟨hx, hb, hr, hml, hown, hts, hKK, hX, hbl, hbA, hA, hAf, hlocks, hSY, hRR, hL⟩ := id C
  intro a IA LA FA QA VA IB LB FB QB VB IC LC FC QC VC ID LD FD QD VD IR LR FR QR VR r H locs ls hI hRT hP hD hS hl
  have hK := hKK.1
  obtain ⟨hP, hD⟩ : PD D A ((GA k a IA LA FA QA VA r) ++ ((GB k a IB LB FB QB VB r) ++ ((GC k a IC LC FC QC VC r) ++ ((GD k a ID LD FD QD VD r) ++ ((GR k a IR LR FR QR VR r) ++ (r.tl)))))) H := ⟨hP, hD⟩
  obtain ⟨hWI, hWI_0, hWI_1, hWI_2, hrd, htr0, htr1, htr2, htr3, hrgk, hrgt, hdrc, hev, hmk, hM, hMK, hTI, hFS, htd, hlt, rgH, rgS, rgY, hdr, hit, hmmk, heq, htq, hrel, hbf, htb, hkw, hSK, hSK0, hSK1, hSK2, hNE, hNE0, hNE1, hNE2, hLE, hYE, hQE, hLE0, hLE1, hLE2, hYE0, hYE1, hYE2⟩ := id hI
  obtain ⟨gw1, gw2, gw3, gw4, gw5, gw6, gw7, gw8, gw9, gw10, gw11⟩ := id hWI
  have hx0 := gw9
  have hYI := gw11
  have hpf : rgI (FR 3) (-128) 127 900 := fun e h1 h2 => by rw [← htb e h1 h2]; exact hbf e h1 h2
  obtain ⟨z1, hz1, hz1a, hz1b⟩ := i32_z (xs (iZ (i + 1)).toNatClampNeg)
  obtain ⟨z2, hz2, hz2a, hz2b⟩ := i32_z (xs (iZ (i + 2)).toNatClampNeg)
  obtain ⟨z3, hz3, hz3a, hz3b⟩ := i32_z (xs (iZ (i + 3)).toNatClampNeg)
  obtain ⟨z4, hz4, hz4a, hz4b⟩ := i32_z (xs (iZ (i + 4)).toNatClampNeg)
  obtain ⟨z5, hz5, hz5a, hz5b⟩ := i32_z (xs (iZ (i + 5)).toNatClampNeg)
  have hl : lv_has ls 4 [(3, .int (iZ i)), (2, .ref (a 106)), (1, .ref (a 0)), (0, .ref b)] := hl
  have hls := hQE.1
  replace hls : _ := hls
  refine lv_aload_n hx hb dL_law_1074 rfl (lv_at hl 2 rfl) ?_
  refine lv_aload_n hx hb dL_law_1075 rfl (lv_at hl 3 rfl) ?_
  refine lv_iload_n hx hb dL_law_1076 rfl (lv_at hl 0 rfl) ?_
  refine lv_iconst (v := iZ 1) hx hb dL_law_1077 rfl ?_
  refine lv_iadd hx hb dL_law_1078 ?_
  refine lv_topi (fun x_1 ex_1 => ?_)
  obtain rfl : x_1 = iZ (i + 1) := ex_1.trans (iZ_add i 1)
  refine va_sld hx hb hX hbl hbA hS (zi1 hi hL) dL_law_1079 ?_
  refine lv_topi (fun x_2 ex_2 => ?_)
  obtain rfl : x_2 = iZ z1 := ex_2.trans hz1
  refine lv_aload_n hx hb dL_law_1080 rfl (lv_at hl 3 rfl) ?_
  refine lv_iload_n hx hb dL_law_1081 rfl (lv_at hl 0 rfl) ?_
  refine lv_iconst (v := iZ 2) hx hb dL_law_1082 rfl ?_
  refine lv_iadd hx hb dL_law_1083 ?_
  refine lv_topi (fun x_3 ex_3 => ?_)
  obtain rfl : x_3 = iZ (i + 2) := ex_3.trans (iZ_add i 2)
  refine va_sld hx hb hX hbl hbA hS (zi2 hi hL) dL_law_1084 ?_
  refine lv_topi (fun x_4 ex_4 => ?_)
  obtain rfl : x_4 = iZ z2 := ex_4.trans hz2
  refine CKV2 (As := [.int (iZ z1), .int (iZ z2)]) (rest := []) (tl := (GB k a IB LB FB QB VB r) ++ ((GC k a IC LC FC QC VC r) ++ ((GD k a ID LD FD QD VD r) ++ ((GR k a IR LR FR QR VR r) ++ (r.tl))))) hx hb hml hown hts hKK hP hD hS hA (p_nearest l D k (a 0) (a 1) (a 2) (a 3) (a 4) (a 5) (a 6) (a 7) (a 8) (a 9) (a 10) (a 11) (IA 0) (IA 1) (IA 2) (LA 0) (LA 1) ([.ref (a 26), .ref (a 27), .ref (a 28), .int (iZ (IA 3)), .int (iZ (IA 4)), .int (iZ (IA 5)), .int (iZ (IA 6))]) (a 23) (a 27) (a 28) (a 24) (a 25) (IA 3) (IA 4) (IA 5) (FA 0) (FA 1) z1 z2 rfl rfl rfl rfl rfl (by first | with_reducible assumption | omega) hx0 (by first | with_reducible assumption | omega) (by first | with_reducible assumption | omega) (by first | with_reducible assumption | omega) ⟨hz1a, hz1b⟩ ⟨hz2a, hz2b⟩) ci_X11_nearest qm_L_106 ⟨Nat.le_of_ble_eq_true rfl, Nat.le_of_ble_eq_true rfl⟩ (lroom _) [0, 1, 2, 6, 7] [3, 4, 5, 8, 9, 10, 11, 12, 13, 14, 15, 16, 17, 18, 19, 20, 21, 22, 23, 24, 25] rfl rfl rfl (by decide +kernel) (by decide +kernel) (by decide +kernel) 0 rfl rfl rfl hl.1 rfl (Nat.le_of_ble_eq_true rfl) dL_law_1085 (fun u_5 H locs hφ hP hD hS => ?_)
  have p_6 : (((0 ≤ z1 ∧ z1 < (IA 3)) ∧ (0 ≤ z2 ∧ z2 ≤ 400)) ∧ isFB (fun j => lt (FA 0) z1 z2 j z2) z1 (IA 3) u_5.1.1) ∨ (¬ ((0 ≤ z1 ∧ z1 < (IA 3)) ∧ (0 ≤ z2 ∧ z2 ≤ 400)) ∧ (u_5.1.1 : Int) = -1) := hφ
  obtain ⟨hP, hD⟩ := PD.by3 (is := [21, 22, 23, 0, 1, 2, 24, 25, 3, 4, 5, 6, 7, 8, 9, 10, 11, 12, 13, 14, 15, 16, 17, 18, 19, 20]) (y := (GA k a (u9 IA 2 u_5.1.2) LA FA QA VA r)) ⟨hP, hD⟩ (by decide +kernel) rfl rfl
  refine W.eq (g2 := F0 m 1088 ls [.int (iZ u_5.1.1)]) rfl ?_
  refine lv_pop hx hb dL_law_1088 rfl ?_
  refine lv_aload_n hx hb dL_law_1089 rfl (lv_at hl 1 rfl) ?_
  refine lv_aload_n hx hb dL_law_1090 rfl (lv_at hl 3 rfl) ?_
  refine lv_iload_n hx hb dL_law_1091 rfl (lv_at hl 0 rfl) ?_
  refine lv_iconst (v := iZ 1) hx hb dL_law_1092 rfl ?_
  refine lv_iadd hx hb dL_law_1093 ?_
  refine lv_topi (fun x_7 ex_7 => ?_)
  obtain rfl : x_7 = iZ (i + 1) := ex_7.trans (iZ_add i 1)
  refine va_sld hx hb hX hbl hbA hS (zi1 hi hL) dL_law_1094 ?_
  refine lv_topi (fun x_8 ex_8 => ?_)
  obtain rfl : x_8 = iZ z1 := ex_8.trans hz1
  refine lv_aload_n hx hb dL_law_1095 rfl (lv_at hl 3 rfl) ?_
  refine lv_iload_n hx hb dL_law_1096 rfl (lv_at hl 0 rfl) ?_
  refine lv_iconst (v := iZ 2) hx hb dL_law_1097 rfl ?_
  refine lv_iadd hx hb dL_law_1098 ?_
  refine lv_topi (fun x_9 ex_9 => ?_)
  obtain rfl : x_9 = iZ (i + 2) := ex_9.trans (iZ_add i 2)
  refine va_sld hx hb hX hbl hbA hS (zi2 hi hL) dL_law_1099 ?_
  refine lv_topi (fun x_10 ex_10 => ?_)
  obtain rfl : x_10 = iZ z2 := ex_10.trans hz2
  obtain ⟨hP, hD⟩ := PD.fr5 ⟨hP, hD⟩
  refine CKV2 (As := [.int (iZ z1), .int (iZ z2)]) (rest := []) (tl := (GA k a (u9 IA 2 u_5.1.2) LA FA QA VA r) ++ ((GB k a IB LB FB QB VB r) ++ ((GC k a IC LC FC QC VC r) ++ ((GD k a ID LD FD QD VD r) ++ (r.tl))))) hx hb hml hown hts hKK hP hD hS hA (q_nearest l D k (a 106) (a 107) (a 108) (a 109) (a 110) (a 111) (a 112) (a 113) (a 114) (a 115) (a 116) (a 117) (a 118) (a 119) (a 120) (a 121) (a 122) (IR 0) (IR 1) (IR 2) (IR 3) (IR 4) (IR 5) (IR 6) (IR 7) (IR 8) (IR 9) (IR 10) (IR 11) (IR 12) (IR 13) (IR 14) (IR 15) (IR 16) (IR 17) (LR 0) (LR 1) (FR 0) z1 z2 hM ⟨hz1a, hz1b⟩ ⟨hz2a, hz2b⟩) ci_X12_nearest qm_L_109 ⟨Nat.le_of_ble_eq_true rfl, Nat.le_of_ble_eq_true rfl⟩ (lroom _) [0, 1] [2, 3, 4, 5, 6, 7, 8, 9, 10, 11, 12, 13, 14, 15, 16] rfl rfl rfl (by decide +kernel) (by decide +kernel) (by decide +kernel) 0 rfl rfl rfl hl.1 rfl (Nat.le_of_ble_eq_true rfl) dL_law_1100 (fun u_11 H locs hφ hP hD hS => ?_)
  have p_12 : (((0 ≤ z1 ∧ z1 < (gz (FR 0) 0)) ∧ (0 ≤ z2 ∧ z2 ≤ 400)) ∧ isFB (fun j => lt (sh (FR 0) 10) z1 z2 j z2) z1 (gz (FR 0) 0) u_11.1.1) ∨ (¬ ((0 ≤ z1 ∧ z1 < (gz (FR 0) 0)) ∧ (0 ≤ z2 ∧ z2 ≤ 400)) ∧ (u_11.1.1 : Int) = -1) := hφ
  obtain ⟨hP, hD⟩ := PD.by3 (is := [15, 16, 0, 1, 2, 3, 4, 5, 6, 7, 8, 9, 10, 11, 12, 13, 14]) (y := (GR k a (u9 IR 0 u_11.1.2) LR FR QR VR r)) ⟨hP, hD⟩ (by decide +kernel) rfl rfl
  refine W.eq (g2 := F0 m 1103 ls [.int (iZ u_11.1.1)]) rfl ?_
  refine lv_pop hx hb dL_law_1103 rfl ?_
  refine lv_goto (tgt := 2846) hx hb dL_law_1104 rfl ?_
  obtain ⟨hP, hD⟩ := PD.fr5 ⟨hP, hD⟩
  obtain ⟨hP, hD⟩ := PD.fr5 ⟨hP, hD⟩
  obtain ⟨hP, hD⟩ := PD.fr5 ⟨hP, hD⟩
  obtain ⟨hP, hD⟩ := PD.fr5 ⟨hP, hD⟩
  exact hk a (u9 IA 2 u_5.1.2) LA FA QA VA IB LB FB QB VB IC LC FC QC VC ID LD FD QD VD (u9 IR 0 u_11.1.2) LR FR QR VR r H locs ls (show INV _ _ _ _ _ _ _ _ _ _ _ _ _ _ _ from ⟨hWI, hWI_0, hWI_1, hWI_2, hrd, htr0, htr1, htr2, htr3, hrgk, hrgt, hdrc, hev, hmk, hM, hMK, hTI, hFS, htd, hlt, rgH, rgS, rgY, hdr, hit, hmmk, heq, htq, hrel, hbf, htb, hkw, hSK, hSK0, hSK1, hSK2, hNE, hNE0, hNE1, hNE2, hLE, hYE, hQE, hLE0, hLE1, hLE2, hYE0, hYE1, hYE2⟩) hRT hP hD hS (lv_sub hl [0, 1, 2, 3] rfl)
set_option maxHeartbeats 40000000 in
set_option maxRecDepth 100000 in
theorem law_c21 {p : Program} {e : Env} {s : State} {m : MethodId} {below : List Frame} {meth : Method} {c : Code} (l : Launch) {b L : Nat} {xs : Nat → Int32} {A : Nat → Prop} {D : va_G} {k : Nat → ClassId} {sa sv : Nat} {i : Int} (C : LFX p s m meth c b L xs A D k sa sv) (hi : 0 ≤ i ∧ i + 6 ≤ (L : Int)) (hk : LAT p l e s m below meth c b A D k 2846 i) : LAT p l e s m below meth c b A D k 1107 i := by
  obtain ⟨hx, hb, hr, hml, hown, hts, hKK, hX, hbl, hbA, hA, hAf, hlocks, hSY, hRR, hL⟩ := id C
  intro a IA LA FA QA VA IB LB FB QB VB IC LC FC QC VC ID LD FD QD VD IR LR FR QR VR r H locs ls hI hRT hP hD hS hl
  have hK := hKK.1
  obtain ⟨hP, hD⟩ : PD D A ((GA k a IA LA FA QA VA r) ++ ((GB k a IB LB FB QB VB r) ++ ((GC k a IC LC FC QC VC r) ++ ((GD k a ID LD FD QD VD r) ++ ((GR k a IR LR FR QR VR r) ++ (r.tl)))))) H := ⟨hP, hD⟩
  obtain ⟨hWI, hWI_0, hWI_1, hWI_2, hrd, htr0, htr1, htr2, htr3, hrgk, hrgt, hdrc, hev, hmk, hM, hMK, hTI, hFS, htd, hlt, rgH, rgS, rgY, hdr, hit, hmmk, heq, htq, hrel, hbf, htb, hkw, hSK, hSK0, hSK1, hSK2, hNE, hNE0, hNE1, hNE2, hLE, hYE, hQE, hLE0, hLE1, hLE2, hYE0, hYE1, hYE2⟩ := id hI
  obtain ⟨gw1, gw2, gw3, gw4, gw5, gw6, gw7, gw8, gw9, gw10, gw11⟩ := id hWI
  have hx0 := gw9
  have hYI := gw11
  have hpf : rgI (FR 3) (-128) 127 900 := fun e h1 h2 => by rw [← htb e h1 h2]; exact hbf e h1 h2
  obtain ⟨z1, hz1, hz1a, hz1b⟩ := i32_z (xs (iZ (i + 1)).toNatClampNeg)
  obtain ⟨z2, hz2, hz2a, hz2b⟩ := i32_z (xs (iZ (i + 2)).toNatClampNeg)
  obtain ⟨z3, hz3, hz3a, hz3b⟩ := i32_z (xs (iZ (i + 3)).toNatClampNeg)
  obtain ⟨z4, hz4, hz4a, hz4b⟩ := i32_z (xs (iZ (i + 4)).toNatClampNeg)
  obtain ⟨z5, hz5, hz5a, hz5b⟩ := i32_z (xs (iZ (i + 5)).toNatClampNeg)
  have hl : lv_has ls 4 [(3, .int (iZ i)), (2, .ref (a 106)), (1, .ref (a 0)), (0, .ref b)] := hl
  have hls := hQE.1
  replace hls : _ := hls
  refine lv_aload_n hx hb dL_law_1107 rfl (lv_at hl 2 rfl) ?_
  refine lv_aload_n hx hb dL_law_1108 rfl (lv_at hl 3 rfl) ?_
  refine lv_iload_n hx hb dL_law_1109 rfl (lv_at hl 0 rfl) ?_
  refine lv_iconst (v := iZ 1) hx hb dL_law_1110 rfl ?_
  refine lv_iadd hx hb dL_law_1111 ?_
  refine lv_topi (fun x_1 ex_1 => ?_)
  obtain rfl : x_1 = iZ (i + 1) := ex_1.trans (iZ_add i 1)
  refine va_sld hx hb hX hbl hbA hS (zi1 hi hL) dL_law_1112 ?_
  refine lv_topi (fun x_2 ex_2 => ?_)
  obtain rfl : x_2 = iZ z1 := ex_2.trans hz1
  refine lv_aload_n hx hb dL_law_1113 rfl (lv_at hl 3 rfl) ?_
  refine lv_iload_n hx hb dL_law_1114 rfl (lv_at hl 0 rfl) ?_
  refine lv_iconst (v := iZ 2) hx hb dL_law_1115 rfl ?_
  refine lv_iadd hx hb dL_law_1116 ?_
  refine lv_topi (fun x_3 ex_3 => ?_)
  obtain rfl : x_3 = iZ (i + 2) := ex_3.trans (iZ_add i 2)
  refine va_sld hx hb hX hbl hbA hS (zi2 hi hL) dL_law_1117 ?_
  refine lv_topi (fun x_4 ex_4 => ?_)
  obtain rfl : x_4 = iZ z2 := ex_4.trans hz2
  refine lv_aload_n hx hb dL_law_1118 rfl (lv_at hl 3 rfl) ?_
  refine lv_iload_n hx hb dL_law_1119 rfl (lv_at hl 0 rfl) ?_
  refine lv_iconst (v := iZ 3) hx hb dL_law_1120 rfl ?_
  refine lv_iadd hx hb dL_law_1121 ?_
  refine lv_topi (fun x_5 ex_5 => ?_)
  obtain rfl : x_5 = iZ (i + 3) := ex_5.trans (iZ_add i 3)
  refine va_sld hx hb hX hbl hbA hS (zi3 hi hL) dL_law_1122 ?_
  refine lv_topi (fun x_6 ex_6 => ?_)
  obtain rfl : x_6 = iZ z3 := ex_6.trans hz3
  refine lv_aload_n hx hb dL_law_1123 rfl (lv_at hl 3 rfl) ?_
  refine lv_iload_n hx hb dL_law_1124 rfl (lv_at hl 0 rfl) ?_
  refine lv_iconst (v := iZ 4) hx hb dL_law_1125 rfl ?_
  refine lv_iadd hx hb dL_law_1126 ?_
  refine lv_topi (fun x_7 ex_7 => ?_)
  obtain rfl : x_7 = iZ (i + 4) := ex_7.trans (iZ_add i 4)
  refine va_sld hx hb hX hbl hbA hS (zi4 hi hL) dL_law_1127 ?_
  refine lv_topi (fun x_8 ex_8 => ?_)
  obtain rfl : x_8 = iZ z4 := ex_8.trans hz4
  refine CKV2 (As := [.int (iZ z1), .int (iZ z2), .int (iZ z3), .int (iZ z4)]) (rest := []) (tl := (GB k a IB LB FB QB VB r) ++ ((GC k a IC LC FC QC VC r) ++ ((GD k a ID LD FD QD VD r) ++ ((GR k a IR LR FR QR VR r) ++ (r.tl))))) hx hb hml hown hts hKK hP hD hS hA (p_meetings l D k (a 0) (a 1) (a 2) (a 3) (a 4) (a 5) (a 6) (a 7) (a 8) (a 9) (a 10) (a 11) (IA 0) (IA 1) (IA 2) (LA 0) (LA 1) ([.ref (a 26), .ref (a 27), .ref (a 28), .int (iZ (IA 3)), .int (iZ (IA 4)), .int (iZ (IA 5)), .int (iZ (IA 6))]) (a 23) (a 27) (a 28) (a 24) (a 25) (IA 3) (IA 4) (IA 5) (FA 0) (FA 1) z1 z2 z3 z4 rfl rfl rfl rfl rfl (by first | with_reducible assumption | omega) hx0 (by first | with_reducible assumption | omega) (by first | with_reducible assumption | omega) (by first | with_reducible assumption | omega) ⟨hz1a, hz1b⟩ ⟨hz2a, hz2b⟩ ⟨hz3a, hz3b⟩ ⟨hz4a, hz4b⟩) ci_X11_meetings qm_L_110 ⟨Nat.le_of_ble_eq_true rfl, Nat.le_of_ble_eq_true rfl⟩ (lroom _) [0, 1, 2, 6, 7] [3, 4, 5, 8, 9, 10, 11, 12, 13, 14, 15, 16, 17, 18, 19, 20, 21, 22, 23, 24, 25] rfl rfl rfl (by decide +kernel) (by decide +kernel) (by decide +kernel) 0 rfl rfl rfl hl.1 rfl (Nat.le_of_ble_eq_true rfl) dL_law_1128 (fun u_9 H locs hφ hP hD hS => ?_)
  have p_10 : (((0 ≤ z1 ∧ z1 < (IA 3)) ∧ (0 ≤ z2 ∧ z2 < (IA 3)) ∧ ¬ z1 = z2 ∧ (0 ≤ z3 ∧ z3 ≤ 400) ∧ (0 ≤ z4 ∧ z4 ≤ 400) ∧ z3 ≤ z4) ∧ (u_9.1.1 : Int) = mtC (FA 0) z1 z2 z3 (z4 + 1 - z3).toNat) ∨ (¬ ((0 ≤ z1 ∧ z1 < (IA 3)) ∧ (0 ≤ z2 ∧ z2 < (IA 3)) ∧ ¬ z1 = z2 ∧ (0 ≤ z3 ∧ z3 ≤ 400) ∧ (0 ≤ z4 ∧ z4 ≤ 400) ∧ z3 ≤ z4) ∧ (u_9.1.1 : Int) = -1) := hφ
  obtain ⟨hP, hD⟩ := PD.by3 (is := [21, 22, 23, 0, 1, 2, 24, 25, 3, 4, 5, 6, 7, 8, 9, 10, 11, 12, 13, 14, 15, 16, 17, 18, 19, 20]) (y := (GA k a (u9 IA 2 u_9.1.2) LA FA QA VA r)) ⟨hP, hD⟩ (by decide +kernel) rfl rfl
  refine W.eq (g2 := F0 m 1131 ls [.int (iZ u_9.1.1)]) rfl ?_
  refine lv_pop hx hb dL_law_1131 rfl ?_
  refine lv_aload_n hx hb dL_law_1132 rfl (lv_at hl 1 rfl) ?_
  refine lv_aload_n hx hb dL_law_1133 rfl (lv_at hl 3 rfl) ?_
  refine lv_iload_n hx hb dL_law_1134 rfl (lv_at hl 0 rfl) ?_
  refine lv_iconst (v := iZ 1) hx hb dL_law_1135 rfl ?_
  refine lv_iadd hx hb dL_law_1136 ?_
  refine lv_topi (fun x_11 ex_11 => ?_)
  obtain rfl : x_11 = iZ (i + 1) := ex_11.trans (iZ_add i 1)
  refine va_sld hx hb hX hbl hbA hS (zi1 hi hL) dL_law_1137 ?_
  refine lv_topi (fun x_12 ex_12 => ?_)
  obtain rfl : x_12 = iZ z1 := ex_12.trans hz1
  refine lv_aload_n hx hb dL_law_1138 rfl (lv_at hl 3 rfl) ?_
  refine lv_iload_n hx hb dL_law_1139 rfl (lv_at hl 0 rfl) ?_
  refine lv_iconst (v := iZ 2) hx hb dL_law_1140 rfl ?_
  refine lv_iadd hx hb dL_law_1141 ?_
  refine lv_topi (fun x_13 ex_13 => ?_)
  obtain rfl : x_13 = iZ (i + 2) := ex_13.trans (iZ_add i 2)
  refine va_sld hx hb hX hbl hbA hS (zi2 hi hL) dL_law_1142 ?_
  refine lv_topi (fun x_14 ex_14 => ?_)
  obtain rfl : x_14 = iZ z2 := ex_14.trans hz2
  refine lv_aload_n hx hb dL_law_1143 rfl (lv_at hl 3 rfl) ?_
  refine lv_iload_n hx hb dL_law_1144 rfl (lv_at hl 0 rfl) ?_
  refine lv_iconst (v := iZ 3) hx hb dL_law_1145 rfl ?_
  refine lv_iadd hx hb dL_law_1146 ?_
  refine lv_topi (fun x_15 ex_15 => ?_)
  obtain rfl : x_15 = iZ (i + 3) := ex_15.trans (iZ_add i 3)
  refine va_sld hx hb hX hbl hbA hS (zi3 hi hL) dL_law_1147 ?_
  refine lv_topi (fun x_16 ex_16 => ?_)
  obtain rfl : x_16 = iZ z3 := ex_16.trans hz3
  refine lv_aload_n hx hb dL_law_1148 rfl (lv_at hl 3 rfl) ?_
  refine lv_iload_n hx hb dL_law_1149 rfl (lv_at hl 0 rfl) ?_
  refine lv_iconst (v := iZ 4) hx hb dL_law_1150 rfl ?_
  refine lv_iadd hx hb dL_law_1151 ?_
  refine lv_topi (fun x_17 ex_17 => ?_)
  obtain rfl : x_17 = iZ (i + 4) := ex_17.trans (iZ_add i 4)
  refine va_sld hx hb hX hbl hbA hS (zi4 hi hL) dL_law_1152 ?_
  refine lv_topi (fun x_18 ex_18 => ?_)
  obtain rfl : x_18 = iZ z4 := ex_18.trans hz4
  obtain ⟨hP, hD⟩ := PD.fr5 ⟨hP, hD⟩
  refine CKV2 (As := [.int (iZ z1), .int (iZ z2), .int (iZ z3), .int (iZ z4)]) (rest := []) (tl := (GA k a (u9 IA 2 u_9.1.2) LA FA QA VA r) ++ ((GB k a IB LB FB QB VB r) ++ ((GC k a IC LC FC QC VC r) ++ ((GD k a ID LD FD QD VD r) ++ (r.tl))))) hx hb hml hown hts hKK hP hD hS hA (q_meetings l D k (a 106) (a 107) (a 108) (a 109) (a 110) (a 111) (a 112) (a 113) (a 114) (a 115) (a 116) (a 117) (a 118) (a 119) (a 120) (a 121) (a 122) (IR 0) (IR 1) (IR 2) (IR 3) (IR 4) (IR 5) (IR 6) (IR 7) (IR 8) (IR 9) (IR 10) (IR 11) (IR 12) (IR 13) (IR 14) (IR 15) (IR 16) (IR 17) (LR 0) (LR 1) (FR 0) z1 z2 z3 z4 hM ⟨hz1a, hz1b⟩ ⟨hz2a, hz2b⟩ ⟨hz3a, hz3b⟩ ⟨hz4a, hz4b⟩) ci_X12_meetings qm_L_113 ⟨Nat.le_of_ble_eq_true rfl, Nat.le_of_ble_eq_true rfl⟩ (lroom _) [0, 1] [2, 3, 4, 5, 6, 7, 8, 9, 10, 11, 12, 13, 14, 15, 16] rfl rfl rfl (by decide +kernel) (by decide +kernel) (by decide +kernel) 0 rfl rfl rfl hl.1 rfl (Nat.le_of_ble_eq_true rfl) dL_law_1153 (fun u_19 H locs hφ hP hD hS => ?_)
  have p_20 : (((0 ≤ z1 ∧ z1 < (gz (FR 0) 0)) ∧ (0 ≤ z2 ∧ z2 < (gz (FR 0) 0)) ∧ ¬ z1 = z2 ∧ (0 ≤ z3 ∧ z3 ≤ 400) ∧ (0 ≤ z4 ∧ z4 ≤ 400) ∧ z3 ≤ z4) ∧ (u_19.1.1 : Int) = mtC (sh (FR 0) 10) z1 z2 z3 (z4 + 1 - z3).toNat) ∨ (¬ ((0 ≤ z1 ∧ z1 < (gz (FR 0) 0)) ∧ (0 ≤ z2 ∧ z2 < (gz (FR 0) 0)) ∧ ¬ z1 = z2 ∧ (0 ≤ z3 ∧ z3 ≤ 400) ∧ (0 ≤ z4 ∧ z4 ≤ 400) ∧ z3 ≤ z4) ∧ (u_19.1.1 : Int) = -1) := hφ
  obtain ⟨hP, hD⟩ := PD.by3 (is := [15, 16, 0, 1, 2, 3, 4, 5, 6, 7, 8, 9, 10, 11, 12, 13, 14]) (y := (GR k a (u9 IR 0 u_19.1.2) LR FR QR VR r)) ⟨hP, hD⟩ (by decide +kernel) rfl rfl
  refine W.eq (g2 := F0 m 1156 ls [.int (iZ u_19.1.1)]) rfl ?_
  refine lv_pop hx hb dL_law_1156 rfl ?_
  refine lv_goto (tgt := 2846) hx hb dL_law_1157 rfl ?_
  obtain ⟨hP, hD⟩ := PD.fr5 ⟨hP, hD⟩
  obtain ⟨hP, hD⟩ := PD.fr5 ⟨hP, hD⟩
  obtain ⟨hP, hD⟩ := PD.fr5 ⟨hP, hD⟩
  obtain ⟨hP, hD⟩ := PD.fr5 ⟨hP, hD⟩
  exact hk a (u9 IA 2 u_9.1.2) LA FA QA VA IB LB FB QB VB IC LC FC QC VC ID LD FD QD VD (u9 IR 0 u_19.1.2) LR FR QR VR r H locs ls (show INV _ _ _ _ _ _ _ _ _ _ _ _ _ _ _ from ⟨hWI, hWI_0, hWI_1, hWI_2, hrd, htr0, htr1, htr2, htr3, hrgk, hrgt, hdrc, hev, hmk, hM, hMK, hTI, hFS, htd, hlt, rgH, rgS, rgY, hdr, hit, hmmk, heq, htq, hrel, hbf, htb, hkw, hSK, hSK0, hSK1, hSK2, hNE, hNE0, hNE1, hNE2, hLE, hYE, hQE, hLE0, hLE1, hLE2, hYE0, hYE1, hYE2⟩) hRT hP hD hS (lv_sub hl [0, 1, 2, 3] rfl)
set_option maxHeartbeats 40000000 in
set_option maxRecDepth 100000 in
theorem law_c22 {p : Program} {e : Env} {s : State} {m : MethodId} {below : List Frame} {meth : Method} {c : Code} (l : Launch) {b L : Nat} {xs : Nat → Int32} {A : Nat → Prop} {D : va_G} {k : Nat → ClassId} {sa sv : Nat} {i : Int} (C : LFX p s m meth c b L xs A D k sa sv) (hi : 0 ≤ i ∧ i + 6 ≤ (L : Int)) (hk : LAT p l e s m below meth c b A D k 2846 i) : LAT p l e s m below meth c b A D k 1160 i := by
  obtain ⟨hx, hb, hr, hml, hown, hts, hKK, hX, hbl, hbA, hA, hAf, hlocks, hSY, hRR, hL⟩ := id C
  intro a IA LA FA QA VA IB LB FB QB VB IC LC FC QC VC ID LD FD QD VD IR LR FR QR VR r H locs ls hI hRT hP hD hS hl
  have hK := hKK.1
  obtain ⟨hP, hD⟩ : PD D A ((GA k a IA LA FA QA VA r) ++ ((GB k a IB LB FB QB VB r) ++ ((GC k a IC LC FC QC VC r) ++ ((GD k a ID LD FD QD VD r) ++ ((GR k a IR LR FR QR VR r) ++ (r.tl)))))) H := ⟨hP, hD⟩
  obtain ⟨hWI, hWI_0, hWI_1, hWI_2, hrd, htr0, htr1, htr2, htr3, hrgk, hrgt, hdrc, hev, hmk, hM, hMK, hTI, hFS, htd, hlt, rgH, rgS, rgY, hdr, hit, hmmk, heq, htq, hrel, hbf, htb, hkw, hSK, hSK0, hSK1, hSK2, hNE, hNE0, hNE1, hNE2, hLE, hYE, hQE, hLE0, hLE1, hLE2, hYE0, hYE1, hYE2⟩ := id hI
  obtain ⟨gw1, gw2, gw3, gw4, gw5, gw6, gw7, gw8, gw9, gw10, gw11⟩ := id hWI
  have hx0 := gw9
  have hYI := gw11
  have hpf : rgI (FR 3) (-128) 127 900 := fun e h1 h2 => by rw [← htb e h1 h2]; exact hbf e h1 h2
  obtain ⟨z1, hz1, hz1a, hz1b⟩ := i32_z (xs (iZ (i + 1)).toNatClampNeg)
  obtain ⟨z2, hz2, hz2a, hz2b⟩ := i32_z (xs (iZ (i + 2)).toNatClampNeg)
  obtain ⟨z3, hz3, hz3a, hz3b⟩ := i32_z (xs (iZ (i + 3)).toNatClampNeg)
  obtain ⟨z4, hz4, hz4a, hz4b⟩ := i32_z (xs (iZ (i + 4)).toNatClampNeg)
  obtain ⟨z5, hz5, hz5a, hz5b⟩ := i32_z (xs (iZ (i + 5)).toNatClampNeg)
  have hl : lv_has ls 4 [(3, .int (iZ i)), (2, .ref (a 106)), (1, .ref (a 0)), (0, .ref b)] := hl
  have hls := hQE.1
  replace hls : _ := hls
  refine lv_aload_n hx hb dL_law_1160 rfl (lv_at hl 2 rfl) ?_
  refine lv_aload_n hx hb dL_law_1161 rfl (lv_at hl 3 rfl) ?_
  refine lv_iload_n hx hb dL_law_1162 rfl (lv_at hl 0 rfl) ?_
  refine lv_iconst (v := iZ 1) hx hb dL_law_1163 rfl ?_
  refine lv_iadd hx hb dL_law_1164 ?_
  refine lv_topi (fun x_1 ex_1 => ?_)
  obtain rfl : x_1 = iZ (i + 1) := ex_1.trans (iZ_add i 1)
  refine va_sld hx hb hX hbl hbA hS (zi1 hi hL) dL_law_1165 ?_
  refine lv_topi (fun x_2 ex_2 => ?_)
  obtain rfl : x_2 = iZ z1 := ex_2.trans hz1
  refine CKV2 (As := [.int (iZ z1)]) (rest := []) (tl := (GB k a IB LB FB QB VB r) ++ ((GC k a IC LC FC QC VC r) ++ ((GD k a ID LD FD QD VD r) ++ ((GR k a IR LR FR QR VR r) ++ (r.tl))))) hx hb hml hown hts hKK hP hD hS hA (p_span l D k (a 0) (a 1) (a 2) (a 3) (a 4) (a 5) (a 6) (a 7) (a 8) (a 9) (a 10) (a 11) (IA 0) (IA 1) (IA 2) (LA 0) (LA 1) ([.ref (a 26), .ref (a 27), .ref (a 28), .int (iZ (IA 3)), .int (iZ (IA 4)), .int (iZ (IA 5)), .int (iZ (IA 6))]) (a 23) (a 27) (a 28) (a 24) (a 25) (IA 3) (IA 4) (IA 5) (FA 0) (FA 1) z1 rfl rfl rfl rfl rfl (by first | with_reducible assumption | omega) hx0 (by first | with_reducible assumption | omega) (by first | with_reducible assumption | omega) (by first | with_reducible assumption | omega) ⟨hz1a, hz1b⟩) ci_X11_span qm_L_114 ⟨Nat.le_of_ble_eq_true rfl, Nat.le_of_ble_eq_true rfl⟩ (lroom _) [0, 1, 2, 6, 7] [3, 4, 5, 8, 9, 10, 11, 12, 13, 14, 15, 16, 17, 18, 19, 20, 21, 22, 23, 24, 25] rfl rfl rfl (by decide +kernel) (by decide +kernel) (by decide +kernel) 0 rfl rfl rfl hl.1 rfl (Nat.le_of_ble_eq_true rfl) dL_law_1166 (fun u_3 H locs hφ hP hD hS => ?_)
  have p_4 : (((0 ≤ z1 ∧ z1 ≤ 500)) ∧ (isSp (FA 0) z1 (IA 3) (IA 3) 0 u_3.1.1 ∧ 0 ≤ (u_3.1.1 : Int))) ∨ (¬ ((0 ≤ z1 ∧ z1 ≤ 500)) ∧ (u_3.1.1 : Int) = -1) := hφ
  obtain ⟨hP, hD⟩ := PD.by3 (is := [21, 22, 23, 0, 1, 2, 24, 25, 3, 4, 5, 6, 7, 8, 9, 10, 11, 12, 13, 14, 15, 16, 17, 18, 19, 20]) (y := (GA k a (u9 IA 2 u_3.1.2) LA FA QA VA r)) ⟨hP, hD⟩ (by decide +kernel) rfl rfl
  refine W.eq (g2 := F0 m 1169 ls [.int (iZ u_3.1.1)]) rfl ?_
  refine lv_pop hx hb dL_law_1169 rfl ?_
  refine lv_aload_n hx hb dL_law_1170 rfl (lv_at hl 1 rfl) ?_
  refine lv_aload_n hx hb dL_law_1171 rfl (lv_at hl 3 rfl) ?_
  refine lv_iload_n hx hb dL_law_1172 rfl (lv_at hl 0 rfl) ?_
  refine lv_iconst (v := iZ 1) hx hb dL_law_1173 rfl ?_
  refine lv_iadd hx hb dL_law_1174 ?_
  refine lv_topi (fun x_5 ex_5 => ?_)
  obtain rfl : x_5 = iZ (i + 1) := ex_5.trans (iZ_add i 1)
  refine va_sld hx hb hX hbl hbA hS (zi1 hi hL) dL_law_1175 ?_
  refine lv_topi (fun x_6 ex_6 => ?_)
  obtain rfl : x_6 = iZ z1 := ex_6.trans hz1
  obtain ⟨hP, hD⟩ := PD.fr5 ⟨hP, hD⟩
  refine CKV2 (As := [.int (iZ z1)]) (rest := []) (tl := (GA k a (u9 IA 2 u_3.1.2) LA FA QA VA r) ++ ((GB k a IB LB FB QB VB r) ++ ((GC k a IC LC FC QC VC r) ++ ((GD k a ID LD FD QD VD r) ++ (r.tl))))) hx hb hml hown hts hKK hP hD hS hA (q_span l D k (a 106) (a 107) (a 108) (a 109) (a 110) (a 111) (a 112) (a 113) (a 114) (a 115) (a 116) (a 117) (a 118) (a 119) (a 120) (a 121) (a 122) (IR 0) (IR 1) (IR 2) (IR 3) (IR 4) (IR 5) (IR 6) (IR 7) (IR 8) (IR 9) (IR 10) (IR 11) (IR 12) (IR 13) (IR 14) (IR 15) (IR 16) (IR 17) (LR 0) (LR 1) (FR 0) z1 hM ⟨hz1a, hz1b⟩) ci_X12_span qm_L_117 ⟨Nat.le_of_ble_eq_true rfl, Nat.le_of_ble_eq_true rfl⟩ (lroom _) [0, 1] [2, 3, 4, 5, 6, 7, 8, 9, 10, 11, 12, 13, 14, 15, 16] rfl rfl rfl (by decide +kernel) (by decide +kernel) (by decide +kernel) 0 rfl rfl rfl hl.1 rfl (Nat.le_of_ble_eq_true rfl) dL_law_1176 (fun u_7 H locs hφ hP hD hS => ?_)
  have p_8 : (((0 ≤ z1 ∧ z1 ≤ 500)) ∧ (isSr (sh (FR 0) 10) z1 (gz (FR 0) 0) (gz (FR 0) 0) 0 u_7.1.1 ∧ 0 ≤ (u_7.1.1 : Int))) ∨ (¬ ((0 ≤ z1 ∧ z1 ≤ 500)) ∧ (u_7.1.1 : Int) = -1) := hφ
  obtain ⟨hP, hD⟩ := PD.by3 (is := [15, 16, 0, 1, 2, 3, 4, 5, 6, 7, 8, 9, 10, 11, 12, 13, 14]) (y := (GR k a (u9 IR 0 u_7.1.2) LR FR QR VR r)) ⟨hP, hD⟩ (by decide +kernel) rfl rfl
  refine W.eq (g2 := F0 m 1179 ls [.int (iZ u_7.1.1)]) rfl ?_
  refine lv_pop hx hb dL_law_1179 rfl ?_
  refine lv_goto (tgt := 2846) hx hb dL_law_1180 rfl ?_
  obtain ⟨hP, hD⟩ := PD.fr5 ⟨hP, hD⟩
  obtain ⟨hP, hD⟩ := PD.fr5 ⟨hP, hD⟩
  obtain ⟨hP, hD⟩ := PD.fr5 ⟨hP, hD⟩
  obtain ⟨hP, hD⟩ := PD.fr5 ⟨hP, hD⟩
  exact hk a (u9 IA 2 u_3.1.2) LA FA QA VA IB LB FB QB VB IC LC FC QC VC ID LD FD QD VD (u9 IR 0 u_7.1.2) LR FR QR VR r H locs ls (show INV _ _ _ _ _ _ _ _ _ _ _ _ _ _ _ from ⟨hWI, hWI_0, hWI_1, hWI_2, hrd, htr0, htr1, htr2, htr3, hrgk, hrgt, hdrc, hev, hmk, hM, hMK, hTI, hFS, htd, hlt, rgH, rgS, rgY, hdr, hit, hmmk, heq, htq, hrel, hbf, htb, hkw, hSK, hSK0, hSK1, hSK2, hNE, hNE0, hNE1, hNE2, hLE, hYE, hQE, hLE0, hLE1, hLE2, hYE0, hYE1, hYE2⟩) hRT hP hD hS (lv_sub hl [0, 1, 2, 3] rfl)
set_option maxHeartbeats 40000000 in
set_option maxRecDepth 100000 in
theorem law_c23 {p : Program} {e : Env} {s : State} {m : MethodId} {below : List Frame} {meth : Method} {c : Code} (l : Launch) {b L : Nat} {xs : Nat → Int32} {A : Nat → Prop} {D : va_G} {k : Nat → ClassId} {sa sv : Nat} {i : Int} (C : LFX p s m meth c b L xs A D k sa sv) (hi : 0 ≤ i ∧ i + 6 ≤ (L : Int)) (hk : LAT p l e s m below meth c b A D k 2846 i) : LAT p l e s m below meth c b A D k 1183 i := by
  obtain ⟨hx, hb, hr, hml, hown, hts, hKK, hX, hbl, hbA, hA, hAf, hlocks, hSY, hRR, hL⟩ := id C
  intro a IA LA FA QA VA IB LB FB QB VB IC LC FC QC VC ID LD FD QD VD IR LR FR QR VR r H locs ls hI hRT hP hD hS hl
  have hK := hKK.1
  obtain ⟨hP, hD⟩ : PD D A ((GA k a IA LA FA QA VA r) ++ ((GB k a IB LB FB QB VB r) ++ ((GC k a IC LC FC QC VC r) ++ ((GD k a ID LD FD QD VD r) ++ ((GR k a IR LR FR QR VR r) ++ (r.tl)))))) H := ⟨hP, hD⟩
  obtain ⟨hWI, hWI_0, hWI_1, hWI_2, hrd, htr0, htr1, htr2, htr3, hrgk, hrgt, hdrc, hev, hmk, hM, hMK, hTI, hFS, htd, hlt, rgH, rgS, rgY, hdr, hit, hmmk, heq, htq, hrel, hbf, htb, hkw, hSK, hSK0, hSK1, hSK2, hNE, hNE0, hNE1, hNE2, hLE, hYE, hQE, hLE0, hLE1, hLE2, hYE0, hYE1, hYE2⟩ := id hI
  obtain ⟨gw1, gw2, gw3, gw4, gw5, gw6, gw7, gw8, gw9, gw10, gw11⟩ := id hWI
  have hx0 := gw9
  have hYI := gw11
  have hpf : rgI (FR 3) (-128) 127 900 := fun e h1 h2 => by rw [← htb e h1 h2]; exact hbf e h1 h2
  obtain ⟨z1, hz1, hz1a, hz1b⟩ := i32_z (xs (iZ (i + 1)).toNatClampNeg)
  obtain ⟨z2, hz2, hz2a, hz2b⟩ := i32_z (xs (iZ (i + 2)).toNatClampNeg)
  obtain ⟨z3, hz3, hz3a, hz3b⟩ := i32_z (xs (iZ (i + 3)).toNatClampNeg)
  obtain ⟨z4, hz4, hz4a, hz4b⟩ := i32_z (xs (iZ (i + 4)).toNatClampNeg)
  obtain ⟨z5, hz5, hz5a, hz5b⟩ := i32_z (xs (iZ (i + 5)).toNatClampNeg)
  have hl : lv_has ls 4 [(3, .int (iZ i)), (2, .ref (a 106)), (1, .ref (a 0)), (0, .ref b)] := hl
  have hls := hQE.1
  replace hls : _ := hls
  refine lv_aload_n hx hb dL_law_1183 rfl (lv_at hl 2 rfl) ?_
  refine lv_aload_n hx hb dL_law_1184 rfl (lv_at hl 3 rfl) ?_
  refine lv_iload_n hx hb dL_law_1185 rfl (lv_at hl 0 rfl) ?_
  refine lv_iconst (v := iZ 1) hx hb dL_law_1186 rfl ?_
  refine lv_iadd hx hb dL_law_1187 ?_
  refine lv_topi (fun x_1 ex_1 => ?_)
  obtain rfl : x_1 = iZ (i + 1) := ex_1.trans (iZ_add i 1)
  refine va_sld hx hb hX hbl hbA hS (zi1 hi hL) dL_law_1188 ?_
  refine lv_topi (fun x_2 ex_2 => ?_)
  obtain rfl : x_2 = iZ z1 := ex_2.trans hz1
  refine lv_aload_n hx hb dL_law_1189 rfl (lv_at hl 3 rfl) ?_
  refine lv_iload_n hx hb dL_law_1190 rfl (lv_at hl 0 rfl) ?_
  refine lv_iconst (v := iZ 2) hx hb dL_law_1191 rfl ?_
  refine lv_iadd hx hb dL_law_1192 ?_
  refine lv_topi (fun x_3 ex_3 => ?_)
  obtain rfl : x_3 = iZ (i + 2) := ex_3.trans (iZ_add i 2)
  refine va_sld hx hb hX hbl hbA hS (zi2 hi hL) dL_law_1193 ?_
  refine lv_topi (fun x_4 ex_4 => ?_)
  obtain rfl : x_4 = iZ z2 := ex_4.trans hz2
  refine lv_aload_n hx hb dL_law_1194 rfl (lv_at hl 3 rfl) ?_
  refine lv_iload_n hx hb dL_law_1195 rfl (lv_at hl 0 rfl) ?_
  refine lv_iconst (v := iZ 3) hx hb dL_law_1196 rfl ?_
  refine lv_iadd hx hb dL_law_1197 ?_
  refine lv_topi (fun x_5 ex_5 => ?_)
  obtain rfl : x_5 = iZ (i + 3) := ex_5.trans (iZ_add i 3)
  refine va_sld hx hb hX hbl hbA hS (zi3 hi hL) dL_law_1198 ?_
  refine lv_topi (fun x_6 ex_6 => ?_)
  obtain rfl : x_6 = iZ z3 := ex_6.trans hz3
  obtain ⟨hP, hD⟩ := PD.mid4 ⟨hP, hD⟩
  refine CXM (mid := (GB k a IB LB FB QB VB r) ++ ((GC k a IC LC FC QC VC r) ++ ((GD k a ID LD FD QD VD r) ++ ((GR k a IR LR FR QR VR r))))) (c0 := 123) (s0 := 16705) (r := r) (As := [.int (iZ z1), .int (iZ z2), .int (iZ z3)]) (rest := []) hx hb hml hown hts hKK hP hD hS hA (p_stale l D k (a 0) (a 1) (a 2) (a 3) (a 4) (a 5) (a 6) (a 7) (a 8) (a 9) (a 10) (a 11) (IA 0) (IA 1) (IA 2) (LA 0) (LA 1) ([.ref (a 26), .ref (a 27), .ref (a 28), .int (iZ (IA 3)), .int (iZ (IA 4)), .int (iZ (IA 5)), .int (iZ (IA 6))]) (a 23) (a 27) (a 28) (a 24) (a 25) (IA 3) (IA 4) (IA 5) (FA 0) (FA 1) z1 z2 z3 r hRT rfl rfl rfl rfl rfl (by first | with_reducible assumption | omega) hx0 (by first | with_reducible assumption | omega) (by first | with_reducible assumption | omega) (by first | with_reducible assumption | omega) ⟨hz1a, hz1b⟩ ⟨hz2a, hz2b⟩ ⟨hz3a, hz3b⟩) ci_X11_stale qm_L_118 ⟨Nat.le_of_ble_eq_true rfl, Nat.le_of_ble_eq_true rfl⟩ ⟨Nat.le_of_ble_eq_true rfl, Nat.le_of_ble_eq_true rfl⟩ [0, 1, 17, 2, 6, 7] [3, 4, 5, 8, 9, 10, 11, 12, 13, 14, 15, 16, 18, 19, 20, 21, 22, 23, 24, 25] rfl rfl rfl (by decide +kernel) (by decide +kernel) (by decide +kernel) 0 rfl rfl rfl hl.1 rfl (Nat.le_of_ble_eq_true rfl) dL_law_1199 (fun u_7 H locs hφ hP hD hS => ?_)
  obtain ⟨r_8, v_9⟩ := u_7
  obtain ⟨p_10, rtr_8⟩ : ((((0 ≤ z1 ∧ z1 < (IA 3)) ∧ (0 ≤ z2 ∧ z2 < (IA 3)) ∧ (0 ≤ z3 ∧ z3 ≤ 400)) ∧ ((snF (FA 0) (FA 1) (IA 4) z1 z2 z3 = -1 ∧ (v_9.1.1 : Int) = -1) ∨ (¬ snF (FA 0) (FA 1) (IA 4) z1 z2 z3 = -1 ∧ (v_9.1.1 : Int) = z3 - snF (FA 0) (FA 1) (IA 4) z1 z2 z3))) ∨ (¬ ((0 ≤ z1 ∧ z1 < (IA 3)) ∧ (0 ≤ z2 ∧ z2 < (IA 3)) ∧ (0 ≤ z3 ∧ z3 ≤ 400)) ∧ (v_9.1.1 : Int) = -1)) ∧ ((RT k) (RX (FA 0) (FA 1) (IA 3) (IA 4)) r_8) := hφ
  obtain ⟨hP, hD⟩ := PD.dim4 ⟨hP, hD⟩
  obtain ⟨hP, hD⟩ := PD.by3 (is := [20, 21, 23, 0, 1, 2, 24, 25, 3, 4, 5, 6, 7, 8, 9, 10, 11, 22, 12, 13, 14, 15, 16, 17, 18, 19]) (y := (GA k a (u9 IA 2 v_9.1.2) LA FA QA VA r_8)) ⟨hP, hD⟩ (by decide +kernel) rfl rfl
  refine W.ceq (cells' := 123 + cz true r_8.b) (slots' := 16705 + sz true r_8.b) rfl rfl ?_
  refine W.eq (g2 := F0 m 1202 ls [.int (iZ v_9.1.1)]) rfl ?_
  refine lv_pop hx hb dL_law_1202 rfl ?_
  refine lv_aload_n hx hb dL_law_1203 rfl (lv_at hl 1 rfl) ?_
  refine lv_aload_n hx hb dL_law_1204 rfl (lv_at hl 3 rfl) ?_
  refine lv_iload_n hx hb dL_law_1205 rfl (lv_at hl 0 rfl) ?_
  refine lv_iconst (v := iZ 1) hx hb dL_law_1206 rfl ?_
  refine lv_iadd hx hb dL_law_1207 ?_
  refine lv_topi (fun x_11 ex_11 => ?_)
  obtain rfl : x_11 = iZ (i + 1) := ex_11.trans (iZ_add i 1)
  refine va_sld hx hb hX hbl hbA hS (zi1 hi hL) dL_law_1208 ?_
  refine lv_topi (fun x_12 ex_12 => ?_)
  obtain rfl : x_12 = iZ z1 := ex_12.trans hz1
  refine lv_aload_n hx hb dL_law_1209 rfl (lv_at hl 3 rfl) ?_
  refine lv_iload_n hx hb dL_law_1210 rfl (lv_at hl 0 rfl) ?_
  refine lv_iconst (v := iZ 2) hx hb dL_law_1211 rfl ?_
  refine lv_iadd hx hb dL_law_1212 ?_
  refine lv_topi (fun x_13 ex_13 => ?_)
  obtain rfl : x_13 = iZ (i + 2) := ex_13.trans (iZ_add i 2)
  refine va_sld hx hb hX hbl hbA hS (zi2 hi hL) dL_law_1213 ?_
  refine lv_topi (fun x_14 ex_14 => ?_)
  obtain rfl : x_14 = iZ z2 := ex_14.trans hz2
  refine lv_aload_n hx hb dL_law_1214 rfl (lv_at hl 3 rfl) ?_
  refine lv_iload_n hx hb dL_law_1215 rfl (lv_at hl 0 rfl) ?_
  refine lv_iconst (v := iZ 3) hx hb dL_law_1216 rfl ?_
  refine lv_iadd hx hb dL_law_1217 ?_
  refine lv_topi (fun x_15 ex_15 => ?_)
  obtain rfl : x_15 = iZ (i + 3) := ex_15.trans (iZ_add i 3)
  refine va_sld hx hb hX hbl hbA hS (zi3 hi hL) dL_law_1218 ?_
  refine lv_topi (fun x_16 ex_16 => ?_)
  obtain rfl : x_16 = iZ z3 := ex_16.trans hz3
  obtain ⟨hP, hD⟩ := PD.fr5 ⟨hP, hD⟩
  refine CKV2 (As := [.int (iZ z1), .int (iZ z2), .int (iZ z3)]) (rest := []) (tl := (GA k a (u9 IA 2 v_9.1.2) LA FA QA VA r_8) ++ ((GB k a IB LB FB QB VB r) ++ ((GC k a IC LC FC QC VC r) ++ ((GD k a ID LD FD QD VD r) ++ (r_8.tl))))) hx hb hml hown hts hKK hP hD hS hA (q_stale l D k (a 106) (a 107) (a 108) (a 109) (a 110) (a 111) (a 112) (a 113) (a 114) (a 115) (a 116) (a 117) (a 118) (a 119) (a 120) (a 121) (a 122) (IR 0) (IR 1) (IR 2) (IR 3) (IR 4) (IR 5) (IR 6) (IR 7) (IR 8) (IR 9) (IR 10) (IR 11) (IR 12) (IR 13) (IR 14) (IR 15) (IR 16) (IR 17) (LR 0) (LR 1) (FR 0) z1 z2 z3 hM ⟨hz1a, hz1b⟩ ⟨hz2a, hz2b⟩ ⟨hz3a, hz3b⟩) ci_X12_stale qm_L_121 ⟨Nat.le_of_ble_eq_true rfl, Nat.le_of_ble_eq_true rfl⟩ (lroom _) [0, 1] [2, 3, 4, 5, 6, 7, 8, 9, 10, 11, 12, 13, 14, 15, 16] rfl rfl rfl (by decide +kernel) (by decide +kernel) (by decide +kernel) 0 rfl rfl rfl hl.1 rfl (Nat.le_of_ble_eq_true rfl) dL_law_1219 (fun u_17 H locs hφ hP hD hS => ?_)
  have p_18 : (((0 ≤ z1 ∧ z1 < (gz (FR 0) 0)) ∧ (0 ≤ z2 ∧ z2 < (gz (FR 0) 0)) ∧ (0 ≤ z3 ∧ z3 ≤ 400)) ∧ ((snF (sh (FR 0) 10) (sh (FR 0) 46) (gz (FR 0) 1) z1 z2 z3 = -1 ∧ (u_17.1.1 : Int) = -1) ∨ (¬ snF (sh (FR 0) 10) (sh (FR 0) 46) (gz (FR 0) 1) z1 z2 z3 = -1 ∧ (u_17.1.1 : Int) = z3 - snF (sh (FR 0) 10) (sh (FR 0) 46) (gz (FR 0) 1) z1 z2 z3))) ∨ (¬ ((0 ≤ z1 ∧ z1 < (gz (FR 0) 0)) ∧ (0 ≤ z2 ∧ z2 < (gz (FR 0) 0)) ∧ (0 ≤ z3 ∧ z3 ≤ 400)) ∧ (u_17.1.1 : Int) = -1) := hφ
  obtain ⟨hP, hD⟩ := PD.by3 (is := [15, 16, 0, 1, 2, 3, 4, 5, 6, 7, 8, 9, 10, 11, 12, 13, 14]) (y := (GR k a (u9 IR 0 u_17.1.2) LR FR QR VR r_8)) ⟨hP, hD⟩ (by decide +kernel) rfl rfl
  refine W.eq (g2 := F0 m 1222 ls [.int (iZ u_17.1.1)]) rfl ?_
  refine lv_pop hx hb dL_law_1222 rfl ?_
  refine lv_goto (tgt := 2846) hx hb dL_law_1223 rfl ?_
  obtain ⟨hP, hD⟩ := PD.fr5 ⟨hP, hD⟩
  obtain ⟨hP, hD⟩ := PD.fr5 ⟨hP, hD⟩
  obtain ⟨hP, hD⟩ := PD.fr5 ⟨hP, hD⟩
  obtain ⟨hP, hD⟩ := PD.fr5 ⟨hP, hD⟩
  exact hk a (u9 IA 2 v_9.1.2) LA FA QA VA IB LB FB QB VB IC LC FC QC VC ID LD FD QD VD (u9 IR 0 u_17.1.2) LR FR QR VR r_8 H locs ls (show INV _ _ _ _ _ _ _ _ _ _ _ _ _ _ _ from ⟨hWI, hWI_0, hWI_1, hWI_2, hrd, htr0, htr1, htr2, htr3, hrgk, hrgt, hdrc, hev, hmk, hM, hMK, hTI, hFS, htd, hlt, rgH, rgS, rgY, hdr, hit, hmmk, heq, htq, hrel, hbf, htb, hkw, hSK, hSK0, hSK1, hSK2, hNE, hNE0, hNE1, hNE2, hLE, hYE, hQE, hLE0, hLE1, hLE2, hYE0, hYE1, hYE2⟩) rtr_8 hP hD hS (lv_sub hl [0, 1, 2, 3] rfl)
end
