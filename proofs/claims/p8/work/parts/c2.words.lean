theorem qc_X11_idle : Cond.code yX11_idle cX11_idle 6 (some .int) ∈ gw := tbt (tb5 (List.mem_of_getElem? (i := 67) rfl)) rfl
theorem qi_yX11_idle : Cond.instanceMethod yX11_idle ∈ gw := tbt (tb5 (List.mem_of_getElem? (i := 65) rfl)) rfl
theorem qs_X11_idle : Cond.selects (yX11_idle).cls yX11_idle yX11_idle ∈ gw := tbt (tb5 (List.mem_of_getElem? (i := 66) rfl)) rfl
theorem ci_X11_idle : CIv yX11_idle cX11_idle 6 (some .int) 0 := ⟨qc_X11_idle, qi_yX11_idle, qs_X11_idle, qz_X11, by decide +kernel⟩
theorem qm_L_218 : Cond.methodLink RL 218 yX11_idle ∈ gw := tbt (tb5 (List.mem_of_getElem? (i := 64) rfl)) rfl
theorem qc_X12_idle : Cond.code yX12_idle cX12_idle 5 (some .int) ∈ gw := tbt (tb8 (List.mem_of_getElem? (i := 113) rfl)) rfl
theorem qi_yX12_idle : Cond.instanceMethod yX12_idle ∈ gw := tbt (tb8 (List.mem_of_getElem? (i := 111) rfl)) rfl
theorem qs_X12_idle : Cond.selects (yX12_idle).cls yX12_idle yX12_idle ∈ gw := tbt (tb8 (List.mem_of_getElem? (i := 112) rfl)) rfl
theorem ci_X12_idle : CIv yX12_idle cX12_idle 5 (some .int) 0 := ⟨qc_X12_idle, qi_yX12_idle, qs_X12_idle, qz_X12, by decide +kernel⟩
theorem qm_L_221 : Cond.methodLink RL 221 yX12_idle ∈ gw := tbt (tb8 (List.mem_of_getElem? (i := 110) rfl)) rfl
theorem qc_X11_echo : Cond.code yX11_echo cX11_echo 4 (some .int) ∈ gw := tbt (tb5 (List.mem_of_getElem? (i := 77) rfl)) rfl
theorem qi_yX11_echo : Cond.instanceMethod yX11_echo ∈ gw := tbt (tb5 (List.mem_of_getElem? (i := 75) rfl)) rfl
theorem qs_X11_echo : Cond.selects (yX11_echo).cls yX11_echo yX11_echo ∈ gw := tbt (tb5 (List.mem_of_getElem? (i := 76) rfl)) rfl
theorem ci_X11_echo : CIv yX11_echo cX11_echo 4 (some .int) 3 := ⟨qc_X11_echo, qi_yX11_echo, qs_X11_echo, qz_X11, by decide +kernel⟩
theorem qm_L_222 : Cond.methodLink RL 222 yX11_echo ∈ gw := tbt (tb5 (List.mem_of_getElem? (i := 74) rfl)) rfl
theorem qc_X12_echo : Cond.code yX12_echo cX12_echo 4 (some .int) ∈ gw := tbt (tb8 (List.mem_of_getElem? (i := 121) rfl)) rfl
theorem qi_yX12_echo : Cond.instanceMethod yX12_echo ∈ gw := tbt (tb8 (List.mem_of_getElem? (i := 119) rfl)) rfl
theorem qs_X12_echo : Cond.selects (yX12_echo).cls yX12_echo yX12_echo ∈ gw := tbt (tb8 (List.mem_of_getElem? (i := 120) rfl)) rfl
theorem ci_X12_echo : CIv yX12_echo cX12_echo 4 (some .int) 3 := ⟨qc_X12_echo, qi_yX12_echo, qs_X12_echo, qz_X12, by decide +kernel⟩
theorem qm_L_225 : Cond.methodLink RL 225 yX12_echo ∈ gw := tbt (tb8 (List.mem_of_getElem? (i := 118) rfl)) rfl
theorem qc_X11_answered : Cond.code yX11_answered cX11_answered 6 (some .int) ∈ gw := tbt (tb5 (List.mem_of_getElem? (i := 85) rfl)) rfl
theorem qi_yX11_answered : Cond.instanceMethod yX11_answered ∈ gw := tbt (tb5 (List.mem_of_getElem? (i := 83) rfl)) rfl
theorem qs_X11_answered : Cond.selects (yX11_answered).cls yX11_answered yX11_answered ∈ gw := tbt (tb5 (List.mem_of_getElem? (i := 84) rfl)) rfl
theorem ci_X11_answered : CIv yX11_answered cX11_answered 6 (some .int) 3 := ⟨qc_X11_answered, qi_yX11_answered, qs_X11_answered, qz_X11, by decide +kernel⟩
theorem qm_L_226 : Cond.methodLink RL 226 yX11_answered ∈ gw := tbt (tb5 (List.mem_of_getElem? (i := 82) rfl)) rfl
theorem qc_X12_answered : Cond.code yX12_answered cX12_answered 5 (some .int) ∈ gw := tbt (tb8 (List.mem_of_getElem? (i := 129) rfl)) rfl
theorem qi_yX12_answered : Cond.instanceMethod yX12_answered ∈ gw := tbt (tb8 (List.mem_of_getElem? (i := 127) rfl)) rfl
theorem qs_X12_answered : Cond.selects (yX12_answered).cls yX12_answered yX12_answered ∈ gw := tbt (tb8 (List.mem_of_getElem? (i := 128) rfl)) rfl
theorem ci_X12_answered : CIv yX12_answered cX12_answered 5 (some .int) 3 := ⟨qc_X12_answered, qi_yX12_answered, qs_X12_answered, qz_X12, by decide +kernel⟩
theorem qm_L_229 : Cond.methodLink RL 229 yX12_answered ∈ gw := tbt (tb8 (List.mem_of_getElem? (i := 126) rfl)) rfl
theorem qc_X11_joint : Cond.code yX11_joint cX11_joint 6 (some .int) ∈ gw := tbt (tb5 (List.mem_of_getElem? (i := 89) rfl)) rfl
theorem qi_yX11_joint : Cond.instanceMethod yX11_joint ∈ gw := tbt (tb5 (List.mem_of_getElem? (i := 87) rfl)) rfl
theorem qs_X11_joint : Cond.selects (yX11_joint).cls yX11_joint yX11_joint ∈ gw := tbt (tb5 (List.mem_of_getElem? (i := 88) rfl)) rfl
theorem ci_X11_joint : CIv yX11_joint cX11_joint 6 (some .int) 2 := ⟨qc_X11_joint, qi_yX11_joint, qs_X11_joint, qz_X11, by decide +kernel⟩
theorem qm_L_230 : Cond.methodLink RL 230 yX11_joint ∈ gw := tbt (tb5 (List.mem_of_getElem? (i := 86) rfl)) rfl
theorem qc_X12_joint : Cond.code yX12_joint cX12_joint 5 (some .int) ∈ gw := tbt (tb8 (List.mem_of_getElem? (i := 133) rfl)) rfl
theorem qi_yX12_joint : Cond.instanceMethod yX12_joint ∈ gw := tbt (tb8 (List.mem_of_getElem? (i := 131) rfl)) rfl
theorem qs_X12_joint : Cond.selects (yX12_joint).cls yX12_joint yX12_joint ∈ gw := tbt (tb8 (List.mem_of_getElem? (i := 132) rfl)) rfl
theorem ci_X12_joint : CIv yX12_joint cX12_joint 5 (some .int) 2 := ⟨qc_X12_joint, qi_yX12_joint, qs_X12_joint, qz_X12, by decide +kernel⟩
theorem qm_L_233 : Cond.methodLink RL 233 yX12_joint ∈ gw := tbt (tb8 (List.mem_of_getElem? (i := 130) rfl)) rfl
theorem qc_X11_confirmed : Cond.code yX11_confirmed cX11_confirmed 7 (some .int) ∈ gw := tbt (tb5 (List.mem_of_getElem? (i := 97) rfl)) rfl
theorem qi_yX11_confirmed : Cond.instanceMethod yX11_confirmed ∈ gw := tbt (tb5 (List.mem_of_getElem? (i := 95) rfl)) rfl
theorem qs_X11_confirmed : Cond.selects (yX11_confirmed).cls yX11_confirmed yX11_confirmed ∈ gw := tbt (tb5 (List.mem_of_getElem? (i := 96) rfl)) rfl
theorem ci_X11_confirmed : CIv yX11_confirmed cX11_confirmed 7 (some .int) 2 := ⟨qc_X11_confirmed, qi_yX11_confirmed, qs_X11_confirmed, qz_X11, by decide +kernel⟩
theorem qm_L_234 : Cond.methodLink RL 234 yX11_confirmed ∈ gw := tbt (tb5 (List.mem_of_getElem? (i := 94) rfl)) rfl
theorem qc_X12_confirmed : Cond.code yX12_confirmed cX12_confirmed 6 (some .int) ∈ gw := tbt (tb8 (List.mem_of_getElem? (i := 141) rfl)) rfl
theorem qi_yX12_confirmed : Cond.instanceMethod yX12_confirmed ∈ gw := tbt (tb8 (List.mem_of_getElem? (i := 139) rfl)) rfl
theorem qs_X12_confirmed : Cond.selects (yX12_confirmed).cls yX12_confirmed yX12_confirmed ∈ gw := tbt (tb8 (List.mem_of_getElem? (i := 140) rfl)) rfl
theorem ci_X12_confirmed : CIv yX12_confirmed cX12_confirmed 6 (some .int) 2 := ⟨qc_X12_confirmed, qi_yX12_confirmed, qs_X12_confirmed, qz_X12, by decide +kernel⟩
theorem qm_L_237 : Cond.methodLink RL 237 yX12_confirmed ∈ gw := tbt (tb8 (List.mem_of_getElem? (i := 138) rfl)) rfl
theorem qc_X11_sure : Cond.code yX11_sure cX11_sure 4 (some .int) ∈ gw := tbt (tb5 (List.mem_of_getElem? (i := 101) rfl)) rfl
theorem qi_yX11_sure : Cond.instanceMethod yX11_sure ∈ gw := tbt (tb5 (List.mem_of_getElem? (i := 99) rfl)) rfl
theorem qs_X11_sure : Cond.selects (yX11_sure).cls yX11_sure yX11_sure ∈ gw := tbt (tb5 (List.mem_of_getElem? (i := 100) rfl)) rfl
theorem ci_X11_sure : CIv yX11_sure cX11_sure 4 (some .int) 3 := ⟨qc_X11_sure, qi_yX11_sure, qs_X11_sure, qz_X11, by decide +kernel⟩
theorem qm_L_238 : Cond.methodLink RL 238 yX11_sure ∈ gw := tbt (tb5 (List.mem_of_getElem? (i := 98) rfl)) rfl
theorem qc_X12_sure : Cond.code yX12_sure cX12_sure 4 (some .int) ∈ gw := tbt (tb8 (List.mem_of_getElem? (i := 145) rfl)) rfl
theorem qi_yX12_sure : Cond.instanceMethod yX12_sure ∈ gw := tbt (tb8 (List.mem_of_getElem? (i := 143) rfl)) rfl
theorem qs_X12_sure : Cond.selects (yX12_sure).cls yX12_sure yX12_sure ∈ gw := tbt (tb8 (List.mem_of_getElem? (i := 144) rfl)) rfl
theorem ci_X12_sure : CIv yX12_sure cX12_sure 4 (some .int) 3 := ⟨qc_X12_sure, qi_yX12_sure, qs_X12_sure, qz_X12, by decide +kernel⟩
theorem qm_L_241 : Cond.methodLink RL 241 yX12_sure ∈ gw := tbt (tb8 (List.mem_of_getElem? (i := 142) rfl)) rfl
theorem qc_X11_cheap : Cond.code yX11_cheap cX11_cheap 5 (some .int) ∈ gw := tbt (tb5 (List.mem_of_getElem? (i := 105) rfl)) rfl
theorem qi_yX11_cheap : Cond.instanceMethod yX11_cheap ∈ gw := tbt (tb5 (List.mem_of_getElem? (i := 103) rfl)) rfl
theorem qs_X11_cheap : Cond.selects (yX11_cheap).cls yX11_cheap yX11_cheap ∈ gw := tbt (tb5 (List.mem_of_getElem? (i := 104) rfl)) rfl
theorem ci_X11_cheap : CIv yX11_cheap cX11_cheap 5 (some .int) 4 := ⟨qc_X11_cheap, qi_yX11_cheap, qs_X11_cheap, qz_X11, by decide +kernel⟩
theorem qm_L_242 : Cond.methodLink RL 242 yX11_cheap ∈ gw := tbt (tb5 (List.mem_of_getElem? (i := 102) rfl)) rfl
theorem qc_X12_cheap : Cond.code yX12_cheap cX12_cheap 10 (some .int) ∈ gw := tbt (tb8 (List.mem_of_getElem? (i := 149) rfl)) rfl
theorem qi_yX12_cheap : Cond.instanceMethod yX12_cheap ∈ gw := tbt (tb8 (List.mem_of_getElem? (i := 147) rfl)) rfl
theorem qs_X12_cheap : Cond.selects (yX12_cheap).cls yX12_cheap yX12_cheap ∈ gw := tbt (tb8 (List.mem_of_getElem? (i := 148) rfl)) rfl
theorem ci_X12_cheap : CIv yX12_cheap cX12_cheap 10 (some .int) 4 := ⟨qc_X12_cheap, qi_yX12_cheap, qs_X12_cheap, qz_X12, by decide +kernel⟩
theorem qm_L_245 : Cond.methodLink RL 245 yX12_cheap ∈ gw := tbt (tb8 (List.mem_of_getElem? (i := 146) rfl)) rfl
theorem qc_X11_price : Cond.code yX11_price cX11_price 3 (some .int) ∈ gw := tbt (tb5 (List.mem_of_getElem? (i := 118) rfl)) rfl
theorem qi_yX11_price : Cond.instanceMethod yX11_price ∈ gw := tbt (tb5 (List.mem_of_getElem? (i := 116) rfl)) rfl
theorem qs_X11_price : Cond.selects (yX11_price).cls yX11_price yX11_price ∈ gw := tbt (tb5 (List.mem_of_getElem? (i := 117) rfl)) rfl
theorem ci_X11_price : CIv yX11_price cX11_price 3 (some .int) 2 := ⟨qc_X11_price, qi_yX11_price, qs_X11_price, qz_X11, by decide +kernel⟩
theorem qm_L_246 : Cond.methodLink RL 246 yX11_price ∈ gw := tbt (tb5 (List.mem_of_getElem? (i := 115) rfl)) rfl
theorem qc_X12_price : Cond.code yX12_price cX12_price 3 (some .int) ∈ gw := tbt (tb8 (List.mem_of_getElem? (i := 154) rfl)) rfl
theorem qi_yX12_price : Cond.instanceMethod yX12_price ∈ gw := tbt (tb8 (List.mem_of_getElem? (i := 152) rfl)) rfl
theorem qs_X12_price : Cond.selects (yX12_price).cls yX12_price yX12_price ∈ gw := tbt (tb8 (List.mem_of_getElem? (i := 153) rfl)) rfl
theorem ci_X12_price : CIv yX12_price cX12_price 3 (some .int) 2 := ⟨qc_X12_price, qi_yX12_price, qs_X12_price, qz_X12, by decide +kernel⟩
theorem qm_L_249 : Cond.methodLink RL 249 yX12_price ∈ gw := tbt (tb8 (List.mem_of_getElem? (i := 151) rfl)) rfl
theorem dL_law_2028 : decode cL_law 2028 = .ok (.aload_n 1, 1) := fq1_43 (fl_31 (j := 44) rfl rfl)
theorem dL_law_2029 : decode cL_law 2029 = .ok (.invokevirtual 218, 3) := fq3_182 (fl_31 (j := 45) rfl rfl) (fl_31 (j := 46) rfl rfl) (fl_31 (j := 47) rfl rfl) (by decide)
theorem dL_law_2032 : decode cL_law 2032 = .ok (.pop, 1) := fq1_87 (fl_31 (j := 48) rfl rfl)
theorem dL_law_2033 : decode cL_law 2033 = .ok (.aload_n 2, 1) := fq1_44 (fl_31 (j := 49) rfl rfl)
theorem dL_law_2034 : decode cL_law 2034 = .ok (.invokevirtual 221, 3) := fq3_182 (fl_31 (j := 50) rfl rfl) (fl_31 (j := 51) rfl rfl) (fl_31 (j := 52) rfl rfl) (by decide)
theorem dL_law_2037 : decode cL_law 2037 = .ok (.pop, 1) := fq1_87 (fl_31 (j := 53) rfl rfl)
theorem dL_law_2038 : decode cL_law 2038 = .ok (.goto 808, 3) := fq3_167 (fl_31 (j := 54) rfl rfl) (fl_31 (j := 55) rfl rfl) (fl_31 (j := 56) rfl rfl) (by decide)
theorem dL_law_2041 : decode cL_law 2041 = .ok (.aload_n 1, 1) := fq1_43 (fl_31 (j := 57) rfl rfl)
theorem dL_law_2042 : decode cL_law 2042 = .ok (.aload_n 0, 1) := fq1_42 (fl_31 (j := 58) rfl rfl)
theorem dL_law_2043 : decode cL_law 2043 = .ok (.iload_n 3, 1) := fq1_29 (fl_31 (j := 59) rfl rfl)
theorem dL_law_2044 : decode cL_law 2044 = .ok (.iconst 1, 1) := fq1_4 (fl_31 (j := 60) rfl rfl)
theorem dL_law_2045 : decode cL_law 2045 = .ok (.iadd, 1) := fq1_96 (fl_31 (j := 61) rfl rfl)
theorem dL_law_2046 : decode cL_law 2046 = .ok (.iaload, 1) := fq1_46 (fl_31 (j := 62) rfl rfl)
theorem dL_law_2047 : decode cL_law 2047 = .ok (.aload_n 0, 1) := fq1_42 (fl_31 (j := 63) rfl rfl)
theorem dL_law_2048 : decode cL_law 2048 = .ok (.iload_n 3, 1) := fq1_29 (fl_32 (j := 0) rfl rfl)
theorem dL_law_2049 : decode cL_law 2049 = .ok (.iconst 2, 1) := fq1_5 (fl_32 (j := 1) rfl rfl)
theorem dL_law_2050 : decode cL_law 2050 = .ok (.iadd, 1) := fq1_96 (fl_32 (j := 2) rfl rfl)
theorem dL_law_2051 : decode cL_law 2051 = .ok (.iaload, 1) := fq1_46 (fl_32 (j := 3) rfl rfl)
theorem dL_law_2052 : decode cL_law 2052 = .ok (.aload_n 0, 1) := fq1_42 (fl_32 (j := 4) rfl rfl)
theorem dL_law_2053 : decode cL_law 2053 = .ok (.iload_n 3, 1) := fq1_29 (fl_32 (j := 5) rfl rfl)
theorem dL_law_2054 : decode cL_law 2054 = .ok (.iconst 3, 1) := fq1_6 (fl_32 (j := 6) rfl rfl)
theorem dL_law_2055 : decode cL_law 2055 = .ok (.iadd, 1) := fq1_96 (fl_32 (j := 7) rfl rfl)
theorem dL_law_2056 : decode cL_law 2056 = .ok (.iaload, 1) := fq1_46 (fl_32 (j := 8) rfl rfl)
theorem dL_law_2057 : decode cL_law 2057 = .ok (.invokevirtual 222, 3) := fq3_182 (fl_32 (j := 9) rfl rfl) (fl_32 (j := 10) rfl rfl) (fl_32 (j := 11) rfl rfl) (by decide)
theorem dL_law_2060 : decode cL_law 2060 = .ok (.pop, 1) := fq1_87 (fl_32 (j := 12) rfl rfl)
theorem dL_law_2061 : decode cL_law 2061 = .ok (.aload_n 2, 1) := fq1_44 (fl_32 (j := 13) rfl rfl)
theorem dL_law_2062 : decode cL_law 2062 = .ok (.aload_n 0, 1) := fq1_42 (fl_32 (j := 14) rfl rfl)
theorem dL_law_2063 : decode cL_law 2063 = .ok (.iload_n 3, 1) := fq1_29 (fl_32 (j := 15) rfl rfl)
theorem dL_law_2064 : decode cL_law 2064 = .ok (.iconst 1, 1) := fq1_4 (fl_32 (j := 16) rfl rfl)
theorem dL_law_2065 : decode cL_law 2065 = .ok (.iadd, 1) := fq1_96 (fl_32 (j := 17) rfl rfl)
theorem dL_law_2066 : decode cL_law 2066 = .ok (.iaload, 1) := fq1_46 (fl_32 (j := 18) rfl rfl)
theorem dL_law_2067 : decode cL_law 2067 = .ok (.aload_n 0, 1) := fq1_42 (fl_32 (j := 19) rfl rfl)
theorem dL_law_2068 : decode cL_law 2068 = .ok (.iload_n 3, 1) := fq1_29 (fl_32 (j := 20) rfl rfl)
theorem dL_law_2069 : decode cL_law 2069 = .ok (.iconst 2, 1) := fq1_5 (fl_32 (j := 21) rfl rfl)
theorem dL_law_2070 : decode cL_law 2070 = .ok (.iadd, 1) := fq1_96 (fl_32 (j := 22) rfl rfl)
theorem dL_law_2071 : decode cL_law 2071 = .ok (.iaload, 1) := fq1_46 (fl_32 (j := 23) rfl rfl)
theorem dL_law_2072 : decode cL_law 2072 = .ok (.aload_n 0, 1) := fq1_42 (fl_32 (j := 24) rfl rfl)
theorem dL_law_2073 : decode cL_law 2073 = .ok (.iload_n 3, 1) := fq1_29 (fl_32 (j := 25) rfl rfl)
theorem dL_law_2074 : decode cL_law 2074 = .ok (.iconst 3, 1) := fq1_6 (fl_32 (j := 26) rfl rfl)
theorem dL_law_2075 : decode cL_law 2075 = .ok (.iadd, 1) := fq1_96 (fl_32 (j := 27) rfl rfl)
theorem dL_law_2076 : decode cL_law 2076 = .ok (.iaload, 1) := fq1_46 (fl_32 (j := 28) rfl rfl)
theorem dL_law_2077 : decode cL_law 2077 = .ok (.invokevirtual 225, 3) := fq3_182 (fl_32 (j := 29) rfl rfl) (fl_32 (j := 30) rfl rfl) (fl_32 (j := 31) rfl rfl) (by decide)
theorem dL_law_2080 : decode cL_law 2080 = .ok (.pop, 1) := fq1_87 (fl_32 (j := 32) rfl rfl)
theorem dL_law_2081 : decode cL_law 2081 = .ok (.goto 765, 3) := fq3_167 (fl_32 (j := 33) rfl rfl) (fl_32 (j := 34) rfl rfl) (fl_32 (j := 35) rfl rfl) (by decide)
theorem dL_law_2084 : decode cL_law 2084 = .ok (.aload_n 1, 1) := fq1_43 (fl_32 (j := 36) rfl rfl)
theorem dL_law_2085 : decode cL_law 2085 = .ok (.aload_n 0, 1) := fq1_42 (fl_32 (j := 37) rfl rfl)
theorem dL_law_2086 : decode cL_law 2086 = .ok (.iload_n 3, 1) := fq1_29 (fl_32 (j := 38) rfl rfl)
theorem dL_law_2087 : decode cL_law 2087 = .ok (.iconst 1, 1) := fq1_4 (fl_32 (j := 39) rfl rfl)
theorem dL_law_2088 : decode cL_law 2088 = .ok (.iadd, 1) := fq1_96 (fl_32 (j := 40) rfl rfl)
theorem dL_law_2089 : decode cL_law 2089 = .ok (.iaload, 1) := fq1_46 (fl_32 (j := 41) rfl rfl)
theorem dL_law_2090 : decode cL_law 2090 = .ok (.aload_n 0, 1) := fq1_42 (fl_32 (j := 42) rfl rfl)
theorem dL_law_2091 : decode cL_law 2091 = .ok (.iload_n 3, 1) := fq1_29 (fl_32 (j := 43) rfl rfl)
theorem dL_law_2092 : decode cL_law 2092 = .ok (.iconst 2, 1) := fq1_5 (fl_32 (j := 44) rfl rfl)
theorem dL_law_2093 : decode cL_law 2093 = .ok (.iadd, 1) := fq1_96 (fl_32 (j := 45) rfl rfl)
theorem dL_law_2094 : decode cL_law 2094 = .ok (.iaload, 1) := fq1_46 (fl_32 (j := 46) rfl rfl)
theorem dL_law_2095 : decode cL_law 2095 = .ok (.aload_n 0, 1) := fq1_42 (fl_32 (j := 47) rfl rfl)
theorem dL_law_2096 : decode cL_law 2096 = .ok (.iload_n 3, 1) := fq1_29 (fl_32 (j := 48) rfl rfl)
theorem dL_law_2097 : decode cL_law 2097 = .ok (.iconst 3, 1) := fq1_6 (fl_32 (j := 49) rfl rfl)
theorem dL_law_2098 : decode cL_law 2098 = .ok (.iadd, 1) := fq1_96 (fl_32 (j := 50) rfl rfl)
theorem dL_law_2099 : decode cL_law 2099 = .ok (.iaload, 1) := fq1_46 (fl_32 (j := 51) rfl rfl)
theorem dL_law_2100 : decode cL_law 2100 = .ok (.invokevirtual 226, 3) := fq3_182 (fl_32 (j := 52) rfl rfl) (fl_32 (j := 53) rfl rfl) (fl_32 (j := 54) rfl rfl) (by decide)
theorem dL_law_2103 : decode cL_law 2103 = .ok (.pop, 1) := fq1_87 (fl_32 (j := 55) rfl rfl)
theorem dL_law_2104 : decode cL_law 2104 = .ok (.aload_n 2, 1) := fq1_44 (fl_32 (j := 56) rfl rfl)
theorem dL_law_2105 : decode cL_law 2105 = .ok (.aload_n 0, 1) := fq1_42 (fl_32 (j := 57) rfl rfl)
theorem dL_law_2106 : decode cL_law 2106 = .ok (.iload_n 3, 1) := fq1_29 (fl_32 (j := 58) rfl rfl)
theorem dL_law_2107 : decode cL_law 2107 = .ok (.iconst 1, 1) := fq1_4 (fl_32 (j := 59) rfl rfl)
theorem dL_law_2108 : decode cL_law 2108 = .ok (.iadd, 1) := fq1_96 (fl_32 (j := 60) rfl rfl)
theorem dL_law_2109 : decode cL_law 2109 = .ok (.iaload, 1) := fq1_46 (fl_32 (j := 61) rfl rfl)
theorem dL_law_2110 : decode cL_law 2110 = .ok (.aload_n 0, 1) := fq1_42 (fl_32 (j := 62) rfl rfl)
theorem dL_law_2111 : decode cL_law 2111 = .ok (.iload_n 3, 1) := fq1_29 (fl_32 (j := 63) rfl rfl)
theorem dL_law_2112 : decode cL_law 2112 = .ok (.iconst 2, 1) := fq1_5 (fl_33 (j := 0) rfl rfl)
theorem dL_law_2113 : decode cL_law 2113 = .ok (.iadd, 1) := fq1_96 (fl_33 (j := 1) rfl rfl)
theorem dL_law_2114 : decode cL_law 2114 = .ok (.iaload, 1) := fq1_46 (fl_33 (j := 2) rfl rfl)
theorem dL_law_2115 : decode cL_law 2115 = .ok (.aload_n 0, 1) := fq1_42 (fl_33 (j := 3) rfl rfl)
theorem dL_law_2116 : decode cL_law 2116 = .ok (.iload_n 3, 1) := fq1_29 (fl_33 (j := 4) rfl rfl)
theorem dL_law_2117 : decode cL_law 2117 = .ok (.iconst 3, 1) := fq1_6 (fl_33 (j := 5) rfl rfl)
theorem dL_law_2118 : decode cL_law 2118 = .ok (.iadd, 1) := fq1_96 (fl_33 (j := 6) rfl rfl)
theorem dL_law_2119 : decode cL_law 2119 = .ok (.iaload, 1) := fq1_46 (fl_33 (j := 7) rfl rfl)
theorem dL_law_2120 : decode cL_law 2120 = .ok (.invokevirtual 229, 3) := fq3_182 (fl_33 (j := 8) rfl rfl) (fl_33 (j := 9) rfl rfl) (fl_33 (j := 10) rfl rfl) (by decide)
theorem dL_law_2123 : decode cL_law 2123 = .ok (.pop, 1) := fq1_87 (fl_33 (j := 11) rfl rfl)
theorem dL_law_2124 : decode cL_law 2124 = .ok (.goto 722, 3) := fq3_167 (fl_33 (j := 12) rfl rfl) (fl_33 (j := 13) rfl rfl) (fl_33 (j := 14) rfl rfl) (by decide)
theorem dL_law_2127 : decode cL_law 2127 = .ok (.aload_n 1, 1) := fq1_43 (fl_33 (j := 15) rfl rfl)
theorem dL_law_2128 : decode cL_law 2128 = .ok (.aload_n 0, 1) := fq1_42 (fl_33 (j := 16) rfl rfl)
theorem dL_law_2129 : decode cL_law 2129 = .ok (.iload_n 3, 1) := fq1_29 (fl_33 (j := 17) rfl rfl)
theorem dL_law_2130 : decode cL_law 2130 = .ok (.iconst 1, 1) := fq1_4 (fl_33 (j := 18) rfl rfl)
theorem dL_law_2131 : decode cL_law 2131 = .ok (.iadd, 1) := fq1_96 (fl_33 (j := 19) rfl rfl)
theorem dL_law_2132 : decode cL_law 2132 = .ok (.iaload, 1) := fq1_46 (fl_33 (j := 20) rfl rfl)
theorem dL_law_2133 : decode cL_law 2133 = .ok (.aload_n 0, 1) := fq1_42 (fl_33 (j := 21) rfl rfl)
theorem dL_law_2134 : decode cL_law 2134 = .ok (.iload_n 3, 1) := fq1_29 (fl_33 (j := 22) rfl rfl)
theorem dL_law_2135 : decode cL_law 2135 = .ok (.iconst 2, 1) := fq1_5 (fl_33 (j := 23) rfl rfl)
theorem dL_law_2136 : decode cL_law 2136 = .ok (.iadd, 1) := fq1_96 (fl_33 (j := 24) rfl rfl)
theorem dL_law_2137 : decode cL_law 2137 = .ok (.iaload, 1) := fq1_46 (fl_33 (j := 25) rfl rfl)
theorem dL_law_2138 : decode cL_law 2138 = .ok (.invokevirtual 230, 3) := fq3_182 (fl_33 (j := 26) rfl rfl) (fl_33 (j := 27) rfl rfl) (fl_33 (j := 28) rfl rfl) (by decide)
theorem dL_law_2141 : decode cL_law 2141 = .ok (.pop, 1) := fq1_87 (fl_33 (j := 29) rfl rfl)
theorem dL_law_2142 : decode cL_law 2142 = .ok (.aload_n 2, 1) := fq1_44 (fl_33 (j := 30) rfl rfl)
theorem dL_law_2143 : decode cL_law 2143 = .ok (.aload_n 0, 1) := fq1_42 (fl_33 (j := 31) rfl rfl)
theorem dL_law_2144 : decode cL_law 2144 = .ok (.iload_n 3, 1) := fq1_29 (fl_33 (j := 32) rfl rfl)
theorem dL_law_2145 : decode cL_law 2145 = .ok (.iconst 1, 1) := fq1_4 (fl_33 (j := 33) rfl rfl)
theorem dL_law_2146 : decode cL_law 2146 = .ok (.iadd, 1) := fq1_96 (fl_33 (j := 34) rfl rfl)
theorem dL_law_2147 : decode cL_law 2147 = .ok (.iaload, 1) := fq1_46 (fl_33 (j := 35) rfl rfl)
theorem dL_law_2148 : decode cL_law 2148 = .ok (.aload_n 0, 1) := fq1_42 (fl_33 (j := 36) rfl rfl)
theorem dL_law_2149 : decode cL_law 2149 = .ok (.iload_n 3, 1) := fq1_29 (fl_33 (j := 37) rfl rfl)
theorem dL_law_2150 : decode cL_law 2150 = .ok (.iconst 2, 1) := fq1_5 (fl_33 (j := 38) rfl rfl)
theorem dL_law_2151 : decode cL_law 2151 = .ok (.iadd, 1) := fq1_96 (fl_33 (j := 39) rfl rfl)
theorem dL_law_2152 : decode cL_law 2152 = .ok (.iaload, 1) := fq1_46 (fl_33 (j := 40) rfl rfl)
theorem dL_law_2153 : decode cL_law 2153 = .ok (.invokevirtual 233, 3) := fq3_182 (fl_33 (j := 41) rfl rfl) (fl_33 (j := 42) rfl rfl) (fl_33 (j := 43) rfl rfl) (by decide)
theorem dL_law_2156 : decode cL_law 2156 = .ok (.pop, 1) := fq1_87 (fl_33 (j := 44) rfl rfl)
theorem dL_law_2157 : decode cL_law 2157 = .ok (.goto 689, 3) := fq3_167 (fl_33 (j := 45) rfl rfl) (fl_33 (j := 46) rfl rfl) (fl_33 (j := 47) rfl rfl) (by decide)
theorem dL_law_2160 : decode cL_law 2160 = .ok (.aload_n 1, 1) := fq1_43 (fl_33 (j := 48) rfl rfl)
theorem dL_law_2161 : decode cL_law 2161 = .ok (.aload_n 0, 1) := fq1_42 (fl_33 (j := 49) rfl rfl)
theorem dL_law_2162 : decode cL_law 2162 = .ok (.iload_n 3, 1) := fq1_29 (fl_33 (j := 50) rfl rfl)
theorem dL_law_2163 : decode cL_law 2163 = .ok (.iconst 1, 1) := fq1_4 (fl_33 (j := 51) rfl rfl)
theorem dL_law_2164 : decode cL_law 2164 = .ok (.iadd, 1) := fq1_96 (fl_33 (j := 52) rfl rfl)
theorem dL_law_2165 : decode cL_law 2165 = .ok (.iaload, 1) := fq1_46 (fl_33 (j := 53) rfl rfl)
theorem dL_law_2166 : decode cL_law 2166 = .ok (.aload_n 0, 1) := fq1_42 (fl_33 (j := 54) rfl rfl)
theorem dL_law_2167 : decode cL_law 2167 = .ok (.iload_n 3, 1) := fq1_29 (fl_33 (j := 55) rfl rfl)
theorem dL_law_2168 : decode cL_law 2168 = .ok (.iconst 2, 1) := fq1_5 (fl_33 (j := 56) rfl rfl)
theorem dL_law_2169 : decode cL_law 2169 = .ok (.iadd, 1) := fq1_96 (fl_33 (j := 57) rfl rfl)
theorem dL_law_2170 : decode cL_law 2170 = .ok (.iaload, 1) := fq1_46 (fl_33 (j := 58) rfl rfl)
theorem dL_law_2171 : decode cL_law 2171 = .ok (.invokevirtual 234, 3) := fq3_182 (fl_33 (j := 59) rfl rfl) (fl_33 (j := 60) rfl rfl) (fl_33 (j := 61) rfl rfl) (by decide)
theorem dL_law_2174 : decode cL_law 2174 = .ok (.pop, 1) := fq1_87 (fl_33 (j := 62) rfl rfl)
theorem dL_law_2175 : decode cL_law 2175 = .ok (.aload_n 2, 1) := fq1_44 (fl_33 (j := 63) rfl rfl)
theorem dL_law_2176 : decode cL_law 2176 = .ok (.aload_n 0, 1) := fq1_42 (fl_34 (j := 0) rfl rfl)
theorem dL_law_2177 : decode cL_law 2177 = .ok (.iload_n 3, 1) := fq1_29 (fl_34 (j := 1) rfl rfl)
theorem dL_law_2178 : decode cL_law 2178 = .ok (.iconst 1, 1) := fq1_4 (fl_34 (j := 2) rfl rfl)
theorem dL_law_2179 : decode cL_law 2179 = .ok (.iadd, 1) := fq1_96 (fl_34 (j := 3) rfl rfl)
theorem dL_law_2180 : decode cL_law 2180 = .ok (.iaload, 1) := fq1_46 (fl_34 (j := 4) rfl rfl)
theorem dL_law_2181 : decode cL_law 2181 = .ok (.aload_n 0, 1) := fq1_42 (fl_34 (j := 5) rfl rfl)
theorem dL_law_2182 : decode cL_law 2182 = .ok (.iload_n 3, 1) := fq1_29 (fl_34 (j := 6) rfl rfl)
theorem dL_law_2183 : decode cL_law 2183 = .ok (.iconst 2, 1) := fq1_5 (fl_34 (j := 7) rfl rfl)
theorem dL_law_2184 : decode cL_law 2184 = .ok (.iadd, 1) := fq1_96 (fl_34 (j := 8) rfl rfl)
theorem dL_law_2185 : decode cL_law 2185 = .ok (.iaload, 1) := fq1_46 (fl_34 (j := 9) rfl rfl)
theorem dL_law_2186 : decode cL_law 2186 = .ok (.invokevirtual 237, 3) := fq3_182 (fl_34 (j := 10) rfl rfl) (fl_34 (j := 11) rfl rfl) (fl_34 (j := 12) rfl rfl) (by decide)
theorem dL_law_2189 : decode cL_law 2189 = .ok (.pop, 1) := fq1_87 (fl_34 (j := 13) rfl rfl)
theorem dL_law_2190 : decode cL_law 2190 = .ok (.goto 656, 3) := fq3_167 (fl_34 (j := 14) rfl rfl) (fl_34 (j := 15) rfl rfl) (fl_34 (j := 16) rfl rfl) (by decide)
theorem dL_law_2193 : decode cL_law 2193 = .ok (.aload_n 1, 1) := fq1_43 (fl_34 (j := 17) rfl rfl)
theorem dL_law_2194 : decode cL_law 2194 = .ok (.aload_n 0, 1) := fq1_42 (fl_34 (j := 18) rfl rfl)
theorem dL_law_2195 : decode cL_law 2195 = .ok (.iload_n 3, 1) := fq1_29 (fl_34 (j := 19) rfl rfl)
theorem dL_law_2196 : decode cL_law 2196 = .ok (.iconst 1, 1) := fq1_4 (fl_34 (j := 20) rfl rfl)
theorem dL_law_2197 : decode cL_law 2197 = .ok (.iadd, 1) := fq1_96 (fl_34 (j := 21) rfl rfl)
theorem dL_law_2198 : decode cL_law 2198 = .ok (.iaload, 1) := fq1_46 (fl_34 (j := 22) rfl rfl)
theorem dL_law_2199 : decode cL_law 2199 = .ok (.aload_n 0, 1) := fq1_42 (fl_34 (j := 23) rfl rfl)
theorem dL_law_2200 : decode cL_law 2200 = .ok (.iload_n 3, 1) := fq1_29 (fl_34 (j := 24) rfl rfl)
theorem dL_law_2201 : decode cL_law 2201 = .ok (.iconst 2, 1) := fq1_5 (fl_34 (j := 25) rfl rfl)
theorem dL_law_2202 : decode cL_law 2202 = .ok (.iadd, 1) := fq1_96 (fl_34 (j := 26) rfl rfl)
theorem dL_law_2203 : decode cL_law 2203 = .ok (.iaload, 1) := fq1_46 (fl_34 (j := 27) rfl rfl)
theorem dL_law_2204 : decode cL_law 2204 = .ok (.aload_n 0, 1) := fq1_42 (fl_34 (j := 28) rfl rfl)
theorem dL_law_2205 : decode cL_law 2205 = .ok (.iload_n 3, 1) := fq1_29 (fl_34 (j := 29) rfl rfl)
theorem dL_law_2206 : decode cL_law 2206 = .ok (.iconst 3, 1) := fq1_6 (fl_34 (j := 30) rfl rfl)
theorem dL_law_2207 : decode cL_law 2207 = .ok (.iadd, 1) := fq1_96 (fl_34 (j := 31) rfl rfl)
theorem dL_law_2208 : decode cL_law 2208 = .ok (.iaload, 1) := fq1_46 (fl_34 (j := 32) rfl rfl)
theorem dL_law_2209 : decode cL_law 2209 = .ok (.invokevirtual 238, 3) := fq3_182 (fl_34 (j := 33) rfl rfl) (fl_34 (j := 34) rfl rfl) (fl_34 (j := 35) rfl rfl) (by decide)
theorem dL_law_2212 : decode cL_law 2212 = .ok (.pop, 1) := fq1_87 (fl_34 (j := 36) rfl rfl)
theorem dL_law_2213 : decode cL_law 2213 = .ok (.aload_n 2, 1) := fq1_44 (fl_34 (j := 37) rfl rfl)
theorem dL_law_2214 : decode cL_law 2214 = .ok (.aload_n 0, 1) := fq1_42 (fl_34 (j := 38) rfl rfl)
theorem dL_law_2215 : decode cL_law 2215 = .ok (.iload_n 3, 1) := fq1_29 (fl_34 (j := 39) rfl rfl)
theorem dL_law_2216 : decode cL_law 2216 = .ok (.iconst 1, 1) := fq1_4 (fl_34 (j := 40) rfl rfl)
theorem dL_law_2217 : decode cL_law 2217 = .ok (.iadd, 1) := fq1_96 (fl_34 (j := 41) rfl rfl)
theorem dL_law_2218 : decode cL_law 2218 = .ok (.iaload, 1) := fq1_46 (fl_34 (j := 42) rfl rfl)
theorem dL_law_2219 : decode cL_law 2219 = .ok (.aload_n 0, 1) := fq1_42 (fl_34 (j := 43) rfl rfl)
theorem dL_law_2220 : decode cL_law 2220 = .ok (.iload_n 3, 1) := fq1_29 (fl_34 (j := 44) rfl rfl)
theorem dL_law_2221 : decode cL_law 2221 = .ok (.iconst 2, 1) := fq1_5 (fl_34 (j := 45) rfl rfl)
theorem dL_law_2222 : decode cL_law 2222 = .ok (.iadd, 1) := fq1_96 (fl_34 (j := 46) rfl rfl)
theorem dL_law_2223 : decode cL_law 2223 = .ok (.iaload, 1) := fq1_46 (fl_34 (j := 47) rfl rfl)
theorem dL_law_2224 : decode cL_law 2224 = .ok (.aload_n 0, 1) := fq1_42 (fl_34 (j := 48) rfl rfl)
theorem dL_law_2225 : decode cL_law 2225 = .ok (.iload_n 3, 1) := fq1_29 (fl_34 (j := 49) rfl rfl)
theorem dL_law_2226 : decode cL_law 2226 = .ok (.iconst 3, 1) := fq1_6 (fl_34 (j := 50) rfl rfl)
theorem dL_law_2227 : decode cL_law 2227 = .ok (.iadd, 1) := fq1_96 (fl_34 (j := 51) rfl rfl)
theorem dL_law_2228 : decode cL_law 2228 = .ok (.iaload, 1) := fq1_46 (fl_34 (j := 52) rfl rfl)
theorem dL_law_2229 : decode cL_law 2229 = .ok (.invokevirtual 241, 3) := fq3_182 (fl_34 (j := 53) rfl rfl) (fl_34 (j := 54) rfl rfl) (fl_34 (j := 55) rfl rfl) (by decide)
theorem dL_law_2232 : decode cL_law 2232 = .ok (.pop, 1) := fq1_87 (fl_34 (j := 56) rfl rfl)
theorem dL_law_2233 : decode cL_law 2233 = .ok (.goto 613, 3) := fq3_167 (fl_34 (j := 57) rfl rfl) (fl_34 (j := 58) rfl rfl) (fl_34 (j := 59) rfl rfl) (by decide)
theorem dL_law_2236 : decode cL_law 2236 = .ok (.aload_n 1, 1) := fq1_43 (fl_34 (j := 60) rfl rfl)
theorem dL_law_2237 : decode cL_law 2237 = .ok (.aload_n 0, 1) := fq1_42 (fl_34 (j := 61) rfl rfl)
theorem dL_law_2238 : decode cL_law 2238 = .ok (.iload_n 3, 1) := fq1_29 (fl_34 (j := 62) rfl rfl)
theorem dL_law_2239 : decode cL_law 2239 = .ok (.iconst 1, 1) := fq1_4 (fl_34 (j := 63) rfl rfl)
theorem dL_law_2240 : decode cL_law 2240 = .ok (.iadd, 1) := fq1_96 (fl_35 (j := 0) rfl rfl)
theorem dL_law_2241 : decode cL_law 2241 = .ok (.iaload, 1) := fq1_46 (fl_35 (j := 1) rfl rfl)
theorem dL_law_2242 : decode cL_law 2242 = .ok (.aload_n 0, 1) := fq1_42 (fl_35 (j := 2) rfl rfl)
theorem dL_law_2243 : decode cL_law 2243 = .ok (.iload_n 3, 1) := fq1_29 (fl_35 (j := 3) rfl rfl)
theorem dL_law_2244 : decode cL_law 2244 = .ok (.iconst 2, 1) := fq1_5 (fl_35 (j := 4) rfl rfl)
theorem dL_law_2245 : decode cL_law 2245 = .ok (.iadd, 1) := fq1_96 (fl_35 (j := 5) rfl rfl)
theorem dL_law_2246 : decode cL_law 2246 = .ok (.iaload, 1) := fq1_46 (fl_35 (j := 6) rfl rfl)
theorem dL_law_2247 : decode cL_law 2247 = .ok (.aload_n 0, 1) := fq1_42 (fl_35 (j := 7) rfl rfl)
theorem dL_law_2248 : decode cL_law 2248 = .ok (.iload_n 3, 1) := fq1_29 (fl_35 (j := 8) rfl rfl)
theorem dL_law_2249 : decode cL_law 2249 = .ok (.iconst 3, 1) := fq1_6 (fl_35 (j := 9) rfl rfl)
theorem dL_law_2250 : decode cL_law 2250 = .ok (.iadd, 1) := fq1_96 (fl_35 (j := 10) rfl rfl)
theorem dL_law_2251 : decode cL_law 2251 = .ok (.iaload, 1) := fq1_46 (fl_35 (j := 11) rfl rfl)
theorem dL_law_2252 : decode cL_law 2252 = .ok (.aload_n 0, 1) := fq1_42 (fl_35 (j := 12) rfl rfl)
theorem dL_law_2253 : decode cL_law 2253 = .ok (.iload_n 3, 1) := fq1_29 (fl_35 (j := 13) rfl rfl)
theorem dL_law_2254 : decode cL_law 2254 = .ok (.iconst 4, 1) := fq1_7 (fl_35 (j := 14) rfl rfl)
theorem dL_law_2255 : decode cL_law 2255 = .ok (.iadd, 1) := fq1_96 (fl_35 (j := 15) rfl rfl)
theorem dL_law_2256 : decode cL_law 2256 = .ok (.iaload, 1) := fq1_46 (fl_35 (j := 16) rfl rfl)
theorem dL_law_2257 : decode cL_law 2257 = .ok (.invokevirtual 242, 3) := fq3_182 (fl_35 (j := 17) rfl rfl) (fl_35 (j := 18) rfl rfl) (fl_35 (j := 19) rfl rfl) (by decide)
theorem dL_law_2260 : decode cL_law 2260 = .ok (.pop, 1) := fq1_87 (fl_35 (j := 20) rfl rfl)
theorem dL_law_2261 : decode cL_law 2261 = .ok (.aload_n 2, 1) := fq1_44 (fl_35 (j := 21) rfl rfl)
theorem dL_law_2262 : decode cL_law 2262 = .ok (.aload_n 0, 1) := fq1_42 (fl_35 (j := 22) rfl rfl)
theorem dL_law_2263 : decode cL_law 2263 = .ok (.iload_n 3, 1) := fq1_29 (fl_35 (j := 23) rfl rfl)
theorem dL_law_2264 : decode cL_law 2264 = .ok (.iconst 1, 1) := fq1_4 (fl_35 (j := 24) rfl rfl)
theorem dL_law_2265 : decode cL_law 2265 = .ok (.iadd, 1) := fq1_96 (fl_35 (j := 25) rfl rfl)
theorem dL_law_2266 : decode cL_law 2266 = .ok (.iaload, 1) := fq1_46 (fl_35 (j := 26) rfl rfl)
theorem dL_law_2267 : decode cL_law 2267 = .ok (.aload_n 0, 1) := fq1_42 (fl_35 (j := 27) rfl rfl)
theorem dL_law_2268 : decode cL_law 2268 = .ok (.iload_n 3, 1) := fq1_29 (fl_35 (j := 28) rfl rfl)
theorem dL_law_2269 : decode cL_law 2269 = .ok (.iconst 2, 1) := fq1_5 (fl_35 (j := 29) rfl rfl)
theorem dL_law_2270 : decode cL_law 2270 = .ok (.iadd, 1) := fq1_96 (fl_35 (j := 30) rfl rfl)
theorem dL_law_2271 : decode cL_law 2271 = .ok (.iaload, 1) := fq1_46 (fl_35 (j := 31) rfl rfl)
theorem dL_law_2272 : decode cL_law 2272 = .ok (.aload_n 0, 1) := fq1_42 (fl_35 (j := 32) rfl rfl)
theorem dL_law_2273 : decode cL_law 2273 = .ok (.iload_n 3, 1) := fq1_29 (fl_35 (j := 33) rfl rfl)
theorem dL_law_2274 : decode cL_law 2274 = .ok (.iconst 3, 1) := fq1_6 (fl_35 (j := 34) rfl rfl)
theorem dL_law_2275 : decode cL_law 2275 = .ok (.iadd, 1) := fq1_96 (fl_35 (j := 35) rfl rfl)
theorem dL_law_2276 : decode cL_law 2276 = .ok (.iaload, 1) := fq1_46 (fl_35 (j := 36) rfl rfl)
theorem dL_law_2277 : decode cL_law 2277 = .ok (.aload_n 0, 1) := fq1_42 (fl_35 (j := 37) rfl rfl)
theorem dL_law_2278 : decode cL_law 2278 = .ok (.iload_n 3, 1) := fq1_29 (fl_35 (j := 38) rfl rfl)
theorem dL_law_2279 : decode cL_law 2279 = .ok (.iconst 4, 1) := fq1_7 (fl_35 (j := 39) rfl rfl)
theorem dL_law_2280 : decode cL_law 2280 = .ok (.iadd, 1) := fq1_96 (fl_35 (j := 40) rfl rfl)
theorem dL_law_2281 : decode cL_law 2281 = .ok (.iaload, 1) := fq1_46 (fl_35 (j := 41) rfl rfl)
theorem dL_law_2282 : decode cL_law 2282 = .ok (.invokevirtual 245, 3) := fq3_182 (fl_35 (j := 42) rfl rfl) (fl_35 (j := 43) rfl rfl) (fl_35 (j := 44) rfl rfl) (by decide)
theorem dL_law_2285 : decode cL_law 2285 = .ok (.pop, 1) := fq1_87 (fl_35 (j := 45) rfl rfl)
theorem dL_law_2286 : decode cL_law 2286 = .ok (.goto 560, 3) := fq3_167 (fl_35 (j := 46) rfl rfl) (fl_35 (j := 47) rfl rfl) (fl_35 (j := 48) rfl rfl) (by decide)
theorem dL_law_2289 : decode cL_law 2289 = .ok (.aload_n 1, 1) := fq1_43 (fl_35 (j := 49) rfl rfl)
theorem dL_law_2290 : decode cL_law 2290 = .ok (.aload_n 0, 1) := fq1_42 (fl_35 (j := 50) rfl rfl)
theorem dL_law_2291 : decode cL_law 2291 = .ok (.iload_n 3, 1) := fq1_29 (fl_35 (j := 51) rfl rfl)
theorem dL_law_2292 : decode cL_law 2292 = .ok (.iconst 1, 1) := fq1_4 (fl_35 (j := 52) rfl rfl)
theorem dL_law_2293 : decode cL_law 2293 = .ok (.iadd, 1) := fq1_96 (fl_35 (j := 53) rfl rfl)
theorem dL_law_2294 : decode cL_law 2294 = .ok (.iaload, 1) := fq1_46 (fl_35 (j := 54) rfl rfl)
theorem dL_law_2295 : decode cL_law 2295 = .ok (.aload_n 0, 1) := fq1_42 (fl_35 (j := 55) rfl rfl)
theorem dL_law_2296 : decode cL_law 2296 = .ok (.iload_n 3, 1) := fq1_29 (fl_35 (j := 56) rfl rfl)
theorem dL_law_2297 : decode cL_law 2297 = .ok (.iconst 2, 1) := fq1_5 (fl_35 (j := 57) rfl rfl)
theorem dL_law_2298 : decode cL_law 2298 = .ok (.iadd, 1) := fq1_96 (fl_35 (j := 58) rfl rfl)
theorem dL_law_2299 : decode cL_law 2299 = .ok (.iaload, 1) := fq1_46 (fl_35 (j := 59) rfl rfl)
theorem dL_law_2300 : decode cL_law 2300 = .ok (.invokevirtual 246, 3) := fq3_182 (fl_35 (j := 60) rfl rfl) (fl_35 (j := 61) rfl rfl) (fl_35 (j := 62) rfl rfl) (by decide)
theorem dL_law_2303 : decode cL_law 2303 = .ok (.pop, 1) := fq1_87 (fl_35 (j := 63) rfl rfl)
theorem dL_law_2304 : decode cL_law 2304 = .ok (.aload_n 2, 1) := fq1_44 (fl_36 (j := 0) rfl rfl)
theorem dL_law_2305 : decode cL_law 2305 = .ok (.aload_n 0, 1) := fq1_42 (fl_36 (j := 1) rfl rfl)
theorem dL_law_2306 : decode cL_law 2306 = .ok (.iload_n 3, 1) := fq1_29 (fl_36 (j := 2) rfl rfl)
theorem dL_law_2307 : decode cL_law 2307 = .ok (.iconst 1, 1) := fq1_4 (fl_36 (j := 3) rfl rfl)
theorem dL_law_2308 : decode cL_law 2308 = .ok (.iadd, 1) := fq1_96 (fl_36 (j := 4) rfl rfl)
theorem dL_law_2309 : decode cL_law 2309 = .ok (.iaload, 1) := fq1_46 (fl_36 (j := 5) rfl rfl)
theorem dL_law_2310 : decode cL_law 2310 = .ok (.aload_n 0, 1) := fq1_42 (fl_36 (j := 6) rfl rfl)
theorem dL_law_2311 : decode cL_law 2311 = .ok (.iload_n 3, 1) := fq1_29 (fl_36 (j := 7) rfl rfl)
theorem dL_law_2312 : decode cL_law 2312 = .ok (.iconst 2, 1) := fq1_5 (fl_36 (j := 8) rfl rfl)
theorem dL_law_2313 : decode cL_law 2313 = .ok (.iadd, 1) := fq1_96 (fl_36 (j := 9) rfl rfl)
theorem dL_law_2314 : decode cL_law 2314 = .ok (.iaload, 1) := fq1_46 (fl_36 (j := 10) rfl rfl)
theorem dL_law_2315 : decode cL_law 2315 = .ok (.invokevirtual 249, 3) := fq3_182 (fl_36 (j := 11) rfl rfl) (fl_36 (j := 12) rfl rfl) (fl_36 (j := 13) rfl rfl) (by decide)
theorem dL_law_2318 : decode cL_law 2318 = .ok (.pop, 1) := fq1_87 (fl_36 (j := 14) rfl rfl)
theorem dL_law_2319 : decode cL_law 2319 = .ok (.goto 527, 3) := fq3_167 (fl_36 (j := 15) rfl rfl) (fl_36 (j := 16) rfl rfl) (fl_36 (j := 17) rfl rfl) (by decide)
