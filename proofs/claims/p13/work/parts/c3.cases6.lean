section
theorem qc_X11_idle : Cond.code yX11_idle cX11_idle 6 (some .int) ∈ gw := tbt (tb5 (List.mem_of_getElem? (i := 67) rfl)) rfl
theorem qi_yX11_idle : Cond.instanceMethod yX11_idle ∈ gw := tbt (tb5 (List.mem_of_getElem? (i := 65) rfl)) rfl
theorem qs_X11_idle : Cond.selects (yX11_idle).cls yX11_idle yX11_idle ∈ gw := tbt (tb5 (List.mem_of_getElem? (i := 66) rfl)) rfl
theorem ci_X11_idle : CIv yX11_idle cX11_idle 6 (some .int) 0 := ⟨qc_X11_idle, qi_yX11_idle, qs_X11_idle, qz_X11, by decide +kernel⟩
theorem qm_L_218 : Cond.methodLink RL 218 yX11_idle ∈ gw := tbt (tb5 (List.mem_of_getElem? (i := 64) rfl)) rfl
theorem qc_X12_idle : Cond.code yX12_idle cX12_idle 5 (some .int) ∈ gw := tbt (tb8 (List.mem_of_getElem? (i := 113) rfl)) rfl
theorem qi_yX12_idle : Cond.instanceMethod yX12_idle ∈ gw := tbt (tb8 (List.mem_of_getElem? (i := 111) rfl)) rfl
theorem qs_X12_idle : Cond.selects (yX12_idle).cls yX12_idle yX12_idle ∈ gw := tbt (tb8 (List.mem_of_getElem? (i := 112) rfl)) rfl
theorem ci_X12_idle : CIv yX12_idle cX12_idle 5 (some .int) 0 := ⟨qc_X12_idle, qi_yX12_idle, qs_X12_idle, qz_X12, by decide +kernel⟩
theorem qm_L_221 : Cond.methodLink RL 221 yX12_idle ∈ gw := tbt (tb8 (List.mem_of_getElem? (i := 110) rfl)) rfl
theorem qc_X11_echo : Cond.code yX11_echo cX11_echo 4 (some .int) ∈ gw := tbt (tb5 (List.mem_of_getElem? (i := 77) rfl)) rfl
theorem qi_yX11_echo : Cond.instanceMethod yX11_echo ∈ gw := tbt (tb5 (List.mem_of_getElem? (i := 75) rfl)) rfl
theorem qs_X11_echo : Cond.selects (yX11_echo).cls yX11_echo yX11_echo ∈ gw := tbt (tb5 (List.mem_of_getElem? (i := 76) rfl)) rfl
theorem ci_X11_echo : CIv yX11_echo cX11_echo 4 (some .int) 3 := ⟨qc_X11_echo, qi_yX11_echo, qs_X11_echo, qz_X11, by decide +kernel⟩
theorem qm_L_222 : Cond.methodLink RL 222 yX11_echo ∈ gw := tbt (tb5 (List.mem_of_getElem? (i := 74) rfl)) rfl
theorem qc_X12_echo : Cond.code yX12_echo cX12_echo 4 (some .int) ∈ gw := tbt (tb8 (List.mem_of_getElem? (i := 121) rfl)) rfl
theorem qi_yX12_echo : Cond.instanceMethod yX12_echo ∈ gw := tbt (tb8 (List.mem_of_getElem? (i := 119) rfl)) rfl
theorem qs_X12_echo : Cond.selects (yX12_echo).cls yX12_echo yX12_echo ∈ gw := tbt (tb8 (List.mem_of_getElem? (i := 120) rfl)) rfl
theorem ci_X12_echo : CIv yX12_echo cX12_echo 4 (some .int) 3 := ⟨qc_X12_echo, qi_yX12_echo, qs_X12_echo, qz_X12, by decide +kernel⟩
theorem qm_L_225 : Cond.methodLink RL 225 yX12_echo ∈ gw := tbt (tb8 (List.mem_of_getElem? (i := 118) rfl)) rfl
theorem qc_X11_answered : Cond.code yX11_answered cX11_answered 6 (some .int) ∈ gw := tbt (tb5 (List.mem_of_getElem? (i := 85) rfl)) rfl
theorem qi_yX11_answered : Cond.instanceMethod yX11_answered ∈ gw := tbt (tb5 (List.mem_of_getElem? (i := 83) rfl)) rfl
theorem qs_X11_answered : Cond.selects (yX11_answered).cls yX11_answered yX11_answered ∈ gw := tbt (tb5 (List.mem_of_getElem? (i := 84) rfl)) rfl
theorem ci_X11_answered : CIv yX11_answered cX11_answered 6 (some .int) 3 := ⟨qc_X11_answered, qi_yX11_answered, qs_X11_answered, qz_X11, by decide +kernel⟩
theorem qm_L_226 : Cond.methodLink RL 226 yX11_answered ∈ gw := tbt (tb5 (List.mem_of_getElem? (i := 82) rfl)) rfl
theorem qc_X12_answered : Cond.code yX12_answered cX12_answered 5 (some .int) ∈ gw := tbt (tb8 (List.mem_of_getElem? (i := 129) rfl)) rfl
theorem qi_yX12_answered : Cond.instanceMethod yX12_answered ∈ gw := tbt (tb8 (List.mem_of_getElem? (i := 127) rfl)) rfl
theorem qs_X12_answered : Cond.selects (yX12_answered).cls yX12_answered yX12_answered ∈ gw := tbt (tb8 (List.mem_of_getElem? (i := 128) rfl)) rfl
theorem ci_X12_answered : CIv yX12_answered cX12_answered 5 (some .int) 3 := ⟨qc_X12_answered, qi_yX12_answered, qs_X12_answered, qz_X12, by decide +kernel⟩
theorem qm_L_229 : Cond.methodLink RL 229 yX12_answered ∈ gw := tbt (tb8 (List.mem_of_getElem? (i := 126) rfl)) rfl
theorem qc_X11_joint : Cond.code yX11_joint cX11_joint 6 (some .int) ∈ gw := tbt (tb5 (List.mem_of_getElem? (i := 89) rfl)) rfl
theorem qi_yX11_joint : Cond.instanceMethod yX11_joint ∈ gw := tbt (tb5 (List.mem_of_getElem? (i := 87) rfl)) rfl
theorem qs_X11_joint : Cond.selects (yX11_joint).cls yX11_joint yX11_joint ∈ gw := tbt (tb5 (List.mem_of_getElem? (i := 88) rfl)) rfl
theorem ci_X11_joint : CIv yX11_joint cX11_joint 6 (some .int) 2 := ⟨qc_X11_joint, qi_yX11_joint, qs_X11_joint, qz_X11, by decide +kernel⟩
theorem qm_L_230 : Cond.methodLink RL 230 yX11_joint ∈ gw := tbt (tb5 (List.mem_of_getElem? (i := 86) rfl)) rfl
theorem qc_X12_joint : Cond.code yX12_joint cX12_joint 5 (some .int) ∈ gw := tbt (tb8 (List.mem_of_getElem? (i := 133) rfl)) rfl
theorem qi_yX12_joint : Cond.instanceMethod yX12_joint ∈ gw := tbt (tb8 (List.mem_of_getElem? (i := 131) rfl)) rfl
theorem qs_X12_joint : Cond.selects (yX12_joint).cls yX12_joint yX12_joint ∈ gw := tbt (tb8 (List.mem_of_getElem? (i := 132) rfl)) rfl
theorem ci_X12_joint : CIv yX12_joint cX12_joint 5 (some .int) 2 := ⟨qc_X12_joint, qi_yX12_joint, qs_X12_joint, qz_X12, by decide +kernel⟩
theorem qm_L_233 : Cond.methodLink RL 233 yX12_joint ∈ gw := tbt (tb8 (List.mem_of_getElem? (i := 130) rfl)) rfl
theorem qc_X11_confirmed : Cond.code yX11_confirmed cX11_confirmed 7 (some .int) ∈ gw := tbt (tb5 (List.mem_of_getElem? (i := 97) rfl)) rfl
theorem qi_yX11_confirmed : Cond.instanceMethod yX11_confirmed ∈ gw := tbt (tb5 (List.mem_of_getElem? (i := 95) rfl)) rfl
theorem qs_X11_confirmed : Cond.selects (yX11_confirmed).cls yX11_confirmed yX11_confirmed ∈ gw := tbt (tb5 (List.mem_of_getElem? (i := 96) rfl)) rfl
theorem ci_X11_confirmed : CIv yX11_confirmed cX11_confirmed 7 (some .int) 2 := ⟨qc_X11_confirmed, qi_yX11_confirmed, qs_X11_confirmed, qz_X11, by decide +kernel⟩
theorem qm_L_234 : Cond.methodLink RL 234 yX11_confirmed ∈ gw := tbt (tb5 (List.mem_of_getElem? (i := 94) rfl)) rfl
theorem qc_X12_confirmed : Cond.code yX12_confirmed cX12_confirmed 6 (some .int) ∈ gw := tbt (tb8 (List.mem_of_getElem? (i := 141) rfl)) rfl
theorem qi_yX12_confirmed : Cond.instanceMethod yX12_confirmed ∈ gw := tbt (tb8 (List.mem_of_getElem? (i := 139) rfl)) rfl
theorem qs_X12_confirmed : Cond.selects (yX12_confirmed).cls yX12_confirmed yX12_confirmed ∈ gw := tbt (tb8 (List.mem_of_getElem? (i := 140) rfl)) rfl
theorem ci_X12_confirmed : CIv yX12_confirmed cX12_confirmed 6 (some .int) 2 := ⟨qc_X12_confirmed, qi_yX12_confirmed, qs_X12_confirmed, qz_X12, by decide +kernel⟩
theorem qm_L_237 : Cond.methodLink RL 237 yX12_confirmed ∈ gw := tbt (tb8 (List.mem_of_getElem? (i := 138) rfl)) rfl
theorem qc_X11_sure : Cond.code yX11_sure cX11_sure 4 (some .int) ∈ gw := tbt (tb5 (List.mem_of_getElem? (i := 101) rfl)) rfl
theorem qi_yX11_sure : Cond.instanceMethod yX11_sure ∈ gw := tbt (tb5 (List.mem_of_getElem? (i := 99) rfl)) rfl
theorem qs_X11_sure : Cond.selects (yX11_sure).cls yX11_sure yX11_sure ∈ gw := tbt (tb5 (List.mem_of_getElem? (i := 100) rfl)) rfl
theorem ci_X11_sure : CIv yX11_sure cX11_sure 4 (some .int) 3 := ⟨qc_X11_sure, qi_yX11_sure, qs_X11_sure, qz_X11, by decide +kernel⟩
theorem qm_L_238 : Cond.methodLink RL 238 yX11_sure ∈ gw := tbt (tb5 (List.mem_of_getElem? (i := 98) rfl)) rfl
theorem qc_X12_sure : Cond.code yX12_sure cX12_sure 4 (some .int) ∈ gw := tbt (tb8 (List.mem_of_getElem? (i := 145) rfl)) rfl
theorem qi_yX12_sure : Cond.instanceMethod yX12_sure ∈ gw := tbt (tb8 (List.mem_of_getElem? (i := 143) rfl)) rfl
theorem qs_X12_sure : Cond.selects (yX12_sure).cls yX12_sure yX12_sure ∈ gw := tbt (tb8 (List.mem_of_getElem? (i := 144) rfl)) rfl
theorem ci_X12_sure : CIv yX12_sure cX12_sure 4 (some .int) 3 := ⟨qc_X12_sure, qi_yX12_sure, qs_X12_sure, qz_X12, by decide +kernel⟩
theorem qm_L_241 : Cond.methodLink RL 241 yX12_sure ∈ gw := tbt (tb8 (List.mem_of_getElem? (i := 142) rfl)) rfl
theorem qc_X11_cheap : Cond.code yX11_cheap cX11_cheap 5 (some .int) ∈ gw := tbt (tb5 (List.mem_of_getElem? (i := 105) rfl)) rfl
theorem qi_yX11_cheap : Cond.instanceMethod yX11_cheap ∈ gw := tbt (tb5 (List.mem_of_getElem? (i := 103) rfl)) rfl
theorem qs_X11_cheap : Cond.selects (yX11_cheap).cls yX11_cheap yX11_cheap ∈ gw := tbt (tb5 (List.mem_of_getElem? (i := 104) rfl)) rfl
theorem ci_X11_cheap : CIv yX11_cheap cX11_cheap 5 (some .int) 4 := ⟨qc_X11_cheap, qi_yX11_cheap, qs_X11_cheap, qz_X11, by decide +kernel⟩
theorem qm_L_242 : Cond.methodLink RL 242 yX11_cheap ∈ gw := tbt (tb5 (List.mem_of_getElem? (i := 102) rfl)) rfl
theorem qc_X12_cheap : Cond.code yX12_cheap cX12_cheap 10 (some .int) ∈ gw := tbt (tb8 (List.mem_of_getElem? (i := 149) rfl)) rfl
theorem qi_yX12_cheap : Cond.instanceMethod yX12_cheap ∈ gw := tbt (tb8 (List.mem_of_getElem? (i := 147) rfl)) rfl
theorem qs_X12_cheap : Cond.selects (yX12_cheap).cls yX12_cheap yX12_cheap ∈ gw := tbt (tb8 (List.mem_of_getElem? (i := 148) rfl)) rfl
theorem ci_X12_cheap : CIv yX12_cheap cX12_cheap 10 (some .int) 4 := ⟨qc_X12_cheap, qi_yX12_cheap, qs_X12_cheap, qz_X12, by decide +kernel⟩
theorem qm_L_245 : Cond.methodLink RL 245 yX12_cheap ∈ gw := tbt (tb8 (List.mem_of_getElem? (i := 146) rfl)) rfl
theorem qc_X11_price : Cond.code yX11_price cX11_price 3 (some .int) ∈ gw := tbt (tb5 (List.mem_of_getElem? (i := 118) rfl)) rfl
theorem qi_yX11_price : Cond.instanceMethod yX11_price ∈ gw := tbt (tb5 (List.mem_of_getElem? (i := 116) rfl)) rfl
theorem qs_X11_price : Cond.selects (yX11_price).cls yX11_price yX11_price ∈ gw := tbt (tb5 (List.mem_of_getElem? (i := 117) rfl)) rfl
theorem ci_X11_price : CIv yX11_price cX11_price 3 (some .int) 2 := ⟨qc_X11_price, qi_yX11_price, qs_X11_price, qz_X11, by decide +kernel⟩
theorem qm_L_246 : Cond.methodLink RL 246 yX11_price ∈ gw := tbt (tb5 (List.mem_of_getElem? (i := 115) rfl)) rfl
theorem qc_X12_price : Cond.code yX12_price cX12_price 3 (some .int) ∈ gw := tbt (tb8 (List.mem_of_getElem? (i := 154) rfl)) rfl
theorem qi_yX12_price : Cond.instanceMethod yX12_price ∈ gw := tbt (tb8 (List.mem_of_getElem? (i := 152) rfl)) rfl
theorem qs_X12_price : Cond.selects (yX12_price).cls yX12_price yX12_price ∈ gw := tbt (tb8 (List.mem_of_getElem? (i := 153) rfl)) rfl
theorem ci_X12_price : CIv yX12_price cX12_price 3 (some .int) 2 := ⟨qc_X12_price, qi_yX12_price, qs_X12_price, qz_X12, by decide +kernel⟩
theorem qm_L_249 : Cond.methodLink RL 249 yX12_price ∈ gw := tbt (tb8 (List.mem_of_getElem? (i := 151) rfl)) rfl
theorem dL_law_2028 : decode cL_law 2028 = .ok (.aload_n 1, 1) := fq1_43 (fl_31 (j := 44) rfl rfl)
theorem dL_law_2029 : decode cL_law 2029 = .ok (.invokevirtual 218, 3) := fq3_182 (fl_31 (j := 45) rfl rfl) (fl_31 (j := 46) rfl rfl) (fl_31 (j := 47) rfl rfl) rfl
theorem dL_law_2032 : decode cL_law 2032 = .ok (.pop, 1) := fq1_87 (fl_31 (j := 48) rfl rfl)
theorem dL_law_2033 : decode cL_law 2033 = .ok (.aload_n 2, 1) := fq1_44 (fl_31 (j := 49) rfl rfl)
theorem dL_law_2034 : decode cL_law 2034 = .ok (.invokevirtual 221, 3) := fq3_182 (fl_31 (j := 50) rfl rfl) (fl_31 (j := 51) rfl rfl) (fl_31 (j := 52) rfl rfl) rfl
theorem dL_law_2037 : decode cL_law 2037 = .ok (.pop, 1) := fq1_87 (fl_31 (j := 53) rfl rfl)
theorem dL_law_2038 : decode cL_law 2038 = .ok (.goto 808, 3) := fq3_167 (fl_31 (j := 54) rfl rfl) (fl_31 (j := 55) rfl rfl) (fl_31 (j := 56) rfl rfl) (s2p rfl (bl rfl))
theorem dL_law_2041 : decode cL_law 2041 = .ok (.aload_n 1, 1) := fq1_43 (fl_31 (j := 57) rfl rfl)
theorem dL_law_2042 : decode cL_law 2042 = .ok (.aload_n 0, 1) := fq1_42 (fl_31 (j := 58) rfl rfl)
theorem dL_law_2043 : decode cL_law 2043 = .ok (.iload_n 3, 1) := fq1_29 (fl_31 (j := 59) rfl rfl)
theorem dL_law_2044 : decode cL_law 2044 = .ok (.iconst 1, 1) := fq1_4 (fl_31 (j := 60) rfl rfl)
theorem dL_law_2045 : decode cL_law 2045 = .ok (.iadd, 1) := fq1_96 (fl_31 (j := 61) rfl rfl)
theorem dL_law_2046 : decode cL_law 2046 = .ok (.iaload, 1) := fq1_46 (fl_31 (j := 62) rfl rfl)
theorem dL_law_2047 : decode cL_law 2047 = .ok (.aload_n 0, 1) := fq1_42 (fl_31 (j := 63) rfl rfl)
theorem dL_law_2048 : decode cL_law 2048 = .ok (.iload_n 3, 1) := fq1_29 (fl_32 (j := 0) rfl rfl)
theorem dL_law_2049 : decode cL_law 2049 = .ok (.iconst 2, 1) := fq1_5 (fl_32 (j := 1) rfl rfl)
theorem dL_law_2050 : decode cL_law 2050 = .ok (.iadd, 1) := fq1_96 (fl_32 (j := 2) rfl rfl)
theorem dL_law_2051 : decode cL_law 2051 = .ok (.iaload, 1) := fq1_46 (fl_32 (j := 3) rfl rfl)
theorem dL_law_2052 : decode cL_law 2052 = .ok (.aload_n 0, 1) := fq1_42 (fl_32 (j := 4) rfl rfl)
theorem dL_law_2053 : decode cL_law 2053 = .ok (.iload_n 3, 1) := fq1_29 (fl_32 (j := 5) rfl rfl)
theorem dL_law_2054 : decode cL_law 2054 = .ok (.iconst 3, 1) := fq1_6 (fl_32 (j := 6) rfl rfl)
theorem dL_law_2055 : decode cL_law 2055 = .ok (.iadd, 1) := fq1_96 (fl_32 (j := 7) rfl rfl)
theorem dL_law_2056 : decode cL_law 2056 = .ok (.iaload, 1) := fq1_46 (fl_32 (j := 8) rfl rfl)
theorem dL_law_2057 : decode cL_law 2057 = .ok (.invokevirtual 222, 3) := fq3_182 (fl_32 (j := 9) rfl rfl) (fl_32 (j := 10) rfl rfl) (fl_32 (j := 11) rfl rfl) rfl
theorem dL_law_2060 : decode cL_law 2060 = .ok (.pop, 1) := fq1_87 (fl_32 (j := 12) rfl rfl)
theorem dL_law_2061 : decode cL_law 2061 = .ok (.aload_n 2, 1) := fq1_44 (fl_32 (j := 13) rfl rfl)
theorem dL_law_2062 : decode cL_law 2062 = .ok (.aload_n 0, 1) := fq1_42 (fl_32 (j := 14) rfl rfl)
theorem dL_law_2063 : decode cL_law 2063 = .ok (.iload_n 3, 1) := fq1_29 (fl_32 (j := 15) rfl rfl)
theorem dL_law_2064 : decode cL_law 2064 = .ok (.iconst 1, 1) := fq1_4 (fl_32 (j := 16) rfl rfl)
theorem dL_law_2065 : decode cL_law 2065 = .ok (.iadd, 1) := fq1_96 (fl_32 (j := 17) rfl rfl)
theorem dL_law_2066 : decode cL_law 2066 = .ok (.iaload, 1) := fq1_46 (fl_32 (j := 18) rfl rfl)
theorem dL_law_2067 : decode cL_law 2067 = .ok (.aload_n 0, 1) := fq1_42 (fl_32 (j := 19) rfl rfl)
theorem dL_law_2068 : decode cL_law 2068 = .ok (.iload_n 3, 1) := fq1_29 (fl_32 (j := 20) rfl rfl)
theorem dL_law_2069 : decode cL_law 2069 = .ok (.iconst 2, 1) := fq1_5 (fl_32 (j := 21) rfl rfl)
theorem dL_law_2070 : decode cL_law 2070 = .ok (.iadd, 1) := fq1_96 (fl_32 (j := 22) rfl rfl)
theorem dL_law_2071 : decode cL_law 2071 = .ok (.iaload, 1) := fq1_46 (fl_32 (j := 23) rfl rfl)
theorem dL_law_2072 : decode cL_law 2072 = .ok (.aload_n 0, 1) := fq1_42 (fl_32 (j := 24) rfl rfl)
theorem dL_law_2073 : decode cL_law 2073 = .ok (.iload_n 3, 1) := fq1_29 (fl_32 (j := 25) rfl rfl)
theorem dL_law_2074 : decode cL_law 2074 = .ok (.iconst 3, 1) := fq1_6 (fl_32 (j := 26) rfl rfl)
theorem dL_law_2075 : decode cL_law 2075 = .ok (.iadd, 1) := fq1_96 (fl_32 (j := 27) rfl rfl)
theorem dL_law_2076 : decode cL_law 2076 = .ok (.iaload, 1) := fq1_46 (fl_32 (j := 28) rfl rfl)
theorem dL_law_2077 : decode cL_law 2077 = .ok (.invokevirtual 225, 3) := fq3_182 (fl_32 (j := 29) rfl rfl) (fl_32 (j := 30) rfl rfl) (fl_32 (j := 31) rfl rfl) rfl
theorem dL_law_2080 : decode cL_law 2080 = .ok (.pop, 1) := fq1_87 (fl_32 (j := 32) rfl rfl)
theorem dL_law_2081 : decode cL_law 2081 = .ok (.goto 765, 3) := fq3_167 (fl_32 (j := 33) rfl rfl) (fl_32 (j := 34) rfl rfl) (fl_32 (j := 35) rfl rfl) (s2p rfl (bl rfl))
theorem dL_law_2084 : decode cL_law 2084 = .ok (.aload_n 1, 1) := fq1_43 (fl_32 (j := 36) rfl rfl)
theorem dL_law_2085 : decode cL_law 2085 = .ok (.aload_n 0, 1) := fq1_42 (fl_32 (j := 37) rfl rfl)
theorem dL_law_2086 : decode cL_law 2086 = .ok (.iload_n 3, 1) := fq1_29 (fl_32 (j := 38) rfl rfl)
theorem dL_law_2087 : decode cL_law 2087 = .ok (.iconst 1, 1) := fq1_4 (fl_32 (j := 39) rfl rfl)
theorem dL_law_2088 : decode cL_law 2088 = .ok (.iadd, 1) := fq1_96 (fl_32 (j := 40) rfl rfl)
theorem dL_law_2089 : decode cL_law 2089 = .ok (.iaload, 1) := fq1_46 (fl_32 (j := 41) rfl rfl)
theorem dL_law_2090 : decode cL_law 2090 = .ok (.aload_n 0, 1) := fq1_42 (fl_32 (j := 42) rfl rfl)
theorem dL_law_2091 : decode cL_law 2091 = .ok (.iload_n 3, 1) := fq1_29 (fl_32 (j := 43) rfl rfl)
theorem dL_law_2092 : decode cL_law 2092 = .ok (.iconst 2, 1) := fq1_5 (fl_32 (j := 44) rfl rfl)
theorem dL_law_2093 : decode cL_law 2093 = .ok (.iadd, 1) := fq1_96 (fl_32 (j := 45) rfl rfl)
theorem dL_law_2094 : decode cL_law 2094 = .ok (.iaload, 1) := fq1_46 (fl_32 (j := 46) rfl rfl)
theorem dL_law_2095 : decode cL_law 2095 = .ok (.aload_n 0, 1) := fq1_42 (fl_32 (j := 47) rfl rfl)
theorem dL_law_2096 : decode cL_law 2096 = .ok (.iload_n 3, 1) := fq1_29 (fl_32 (j := 48) rfl rfl)
theorem dL_law_2097 : decode cL_law 2097 = .ok (.iconst 3, 1) := fq1_6 (fl_32 (j := 49) rfl rfl)
theorem dL_law_2098 : decode cL_law 2098 = .ok (.iadd, 1) := fq1_96 (fl_32 (j := 50) rfl rfl)
theorem dL_law_2099 : decode cL_law 2099 = .ok (.iaload, 1) := fq1_46 (fl_32 (j := 51) rfl rfl)
theorem dL_law_2100 : decode cL_law 2100 = .ok (.invokevirtual 226, 3) := fq3_182 (fl_32 (j := 52) rfl rfl) (fl_32 (j := 53) rfl rfl) (fl_32 (j := 54) rfl rfl) rfl
theorem dL_law_2103 : decode cL_law 2103 = .ok (.pop, 1) := fq1_87 (fl_32 (j := 55) rfl rfl)
theorem dL_law_2104 : decode cL_law 2104 = .ok (.aload_n 2, 1) := fq1_44 (fl_32 (j := 56) rfl rfl)
theorem dL_law_2105 : decode cL_law 2105 = .ok (.aload_n 0, 1) := fq1_42 (fl_32 (j := 57) rfl rfl)
theorem dL_law_2106 : decode cL_law 2106 = .ok (.iload_n 3, 1) := fq1_29 (fl_32 (j := 58) rfl rfl)
theorem dL_law_2107 : decode cL_law 2107 = .ok (.iconst 1, 1) := fq1_4 (fl_32 (j := 59) rfl rfl)
theorem dL_law_2108 : decode cL_law 2108 = .ok (.iadd, 1) := fq1_96 (fl_32 (j := 60) rfl rfl)
theorem dL_law_2109 : decode cL_law 2109 = .ok (.iaload, 1) := fq1_46 (fl_32 (j := 61) rfl rfl)
theorem dL_law_2110 : decode cL_law 2110 = .ok (.aload_n 0, 1) := fq1_42 (fl_32 (j := 62) rfl rfl)
theorem dL_law_2111 : decode cL_law 2111 = .ok (.iload_n 3, 1) := fq1_29 (fl_32 (j := 63) rfl rfl)
theorem dL_law_2112 : decode cL_law 2112 = .ok (.iconst 2, 1) := fq1_5 (fl_33 (j := 0) rfl rfl)
theorem dL_law_2113 : decode cL_law 2113 = .ok (.iadd, 1) := fq1_96 (fl_33 (j := 1) rfl rfl)
theorem dL_law_2114 : decode cL_law 2114 = .ok (.iaload, 1) := fq1_46 (fl_33 (j := 2) rfl rfl)
theorem dL_law_2115 : decode cL_law 2115 = .ok (.aload_n 0, 1) := fq1_42 (fl_33 (j := 3) rfl rfl)
theorem dL_law_2116 : decode cL_law 2116 = .ok (.iload_n 3, 1) := fq1_29 (fl_33 (j := 4) rfl rfl)
theorem dL_law_2117 : decode cL_law 2117 = .ok (.iconst 3, 1) := fq1_6 (fl_33 (j := 5) rfl rfl)
theorem dL_law_2118 : decode cL_law 2118 = .ok (.iadd, 1) := fq1_96 (fl_33 (j := 6) rfl rfl)
theorem dL_law_2119 : decode cL_law 2119 = .ok (.iaload, 1) := fq1_46 (fl_33 (j := 7) rfl rfl)
theorem dL_law_2120 : decode cL_law 2120 = .ok (.invokevirtual 229, 3) := fq3_182 (fl_33 (j := 8) rfl rfl) (fl_33 (j := 9) rfl rfl) (fl_33 (j := 10) rfl rfl) rfl
theorem dL_law_2123 : decode cL_law 2123 = .ok (.pop, 1) := fq1_87 (fl_33 (j := 11) rfl rfl)
theorem dL_law_2124 : decode cL_law 2124 = .ok (.goto 722, 3) := fq3_167 (fl_33 (j := 12) rfl rfl) (fl_33 (j := 13) rfl rfl) (fl_33 (j := 14) rfl rfl) (s2p rfl (bl rfl))
theorem dL_law_2127 : decode cL_law 2127 = .ok (.aload_n 1, 1) := fq1_43 (fl_33 (j := 15) rfl rfl)
theorem dL_law_2128 : decode cL_law 2128 = .ok (.aload_n 0, 1) := fq1_42 (fl_33 (j := 16) rfl rfl)
theorem dL_law_2129 : decode cL_law 2129 = .ok (.iload_n 3, 1) := fq1_29 (fl_33 (j := 17) rfl rfl)
theorem dL_law_2130 : decode cL_law 2130 = .ok (.iconst 1, 1) := fq1_4 (fl_33 (j := 18) rfl rfl)
theorem dL_law_2131 : decode cL_law 2131 = .ok (.iadd, 1) := fq1_96 (fl_33 (j := 19) rfl rfl)
theorem dL_law_2132 : decode cL_law 2132 = .ok (.iaload, 1) := fq1_46 (fl_33 (j := 20) rfl rfl)
theorem dL_law_2133 : decode cL_law 2133 = .ok (.aload_n 0, 1) := fq1_42 (fl_33 (j := 21) rfl rfl)
theorem dL_law_2134 : decode cL_law 2134 = .ok (.iload_n 3, 1) := fq1_29 (fl_33 (j := 22) rfl rfl)
theorem dL_law_2135 : decode cL_law 2135 = .ok (.iconst 2, 1) := fq1_5 (fl_33 (j := 23) rfl rfl)
theorem dL_law_2136 : decode cL_law 2136 = .ok (.iadd, 1) := fq1_96 (fl_33 (j := 24) rfl rfl)
theorem dL_law_2137 : decode cL_law 2137 = .ok (.iaload, 1) := fq1_46 (fl_33 (j := 25) rfl rfl)
theorem dL_law_2138 : decode cL_law 2138 = .ok (.invokevirtual 230, 3) := fq3_182 (fl_33 (j := 26) rfl rfl) (fl_33 (j := 27) rfl rfl) (fl_33 (j := 28) rfl rfl) rfl
theorem dL_law_2141 : decode cL_law 2141 = .ok (.pop, 1) := fq1_87 (fl_33 (j := 29) rfl rfl)
theorem dL_law_2142 : decode cL_law 2142 = .ok (.aload_n 2, 1) := fq1_44 (fl_33 (j := 30) rfl rfl)
theorem dL_law_2143 : decode cL_law 2143 = .ok (.aload_n 0, 1) := fq1_42 (fl_33 (j := 31) rfl rfl)
theorem dL_law_2144 : decode cL_law 2144 = .ok (.iload_n 3, 1) := fq1_29 (fl_33 (j := 32) rfl rfl)
theorem dL_law_2145 : decode cL_law 2145 = .ok (.iconst 1, 1) := fq1_4 (fl_33 (j := 33) rfl rfl)
theorem dL_law_2146 : decode cL_law 2146 = .ok (.iadd, 1) := fq1_96 (fl_33 (j := 34) rfl rfl)
theorem dL_law_2147 : decode cL_law 2147 = .ok (.iaload, 1) := fq1_46 (fl_33 (j := 35) rfl rfl)
theorem dL_law_2148 : decode cL_law 2148 = .ok (.aload_n 0, 1) := fq1_42 (fl_33 (j := 36) rfl rfl)
theorem dL_law_2149 : decode cL_law 2149 = .ok (.iload_n 3, 1) := fq1_29 (fl_33 (j := 37) rfl rfl)
theorem dL_law_2150 : decode cL_law 2150 = .ok (.iconst 2, 1) := fq1_5 (fl_33 (j := 38) rfl rfl)
theorem dL_law_2151 : decode cL_law 2151 = .ok (.iadd, 1) := fq1_96 (fl_33 (j := 39) rfl rfl)
theorem dL_law_2152 : decode cL_law 2152 = .ok (.iaload, 1) := fq1_46 (fl_33 (j := 40) rfl rfl)
theorem dL_law_2153 : decode cL_law 2153 = .ok (.invokevirtual 233, 3) := fq3_182 (fl_33 (j := 41) rfl rfl) (fl_33 (j := 42) rfl rfl) (fl_33 (j := 43) rfl rfl) rfl
theorem dL_law_2156 : decode cL_law 2156 = .ok (.pop, 1) := fq1_87 (fl_33 (j := 44) rfl rfl)
theorem dL_law_2157 : decode cL_law 2157 = .ok (.goto 689, 3) := fq3_167 (fl_33 (j := 45) rfl rfl) (fl_33 (j := 46) rfl rfl) (fl_33 (j := 47) rfl rfl) (s2p rfl (bl rfl))
theorem dL_law_2160 : decode cL_law 2160 = .ok (.aload_n 1, 1) := fq1_43 (fl_33 (j := 48) rfl rfl)
theorem dL_law_2161 : decode cL_law 2161 = .ok (.aload_n 0, 1) := fq1_42 (fl_33 (j := 49) rfl rfl)
theorem dL_law_2162 : decode cL_law 2162 = .ok (.iload_n 3, 1) := fq1_29 (fl_33 (j := 50) rfl rfl)
theorem dL_law_2163 : decode cL_law 2163 = .ok (.iconst 1, 1) := fq1_4 (fl_33 (j := 51) rfl rfl)
theorem dL_law_2164 : decode cL_law 2164 = .ok (.iadd, 1) := fq1_96 (fl_33 (j := 52) rfl rfl)
theorem dL_law_2165 : decode cL_law 2165 = .ok (.iaload, 1) := fq1_46 (fl_33 (j := 53) rfl rfl)
theorem dL_law_2166 : decode cL_law 2166 = .ok (.aload_n 0, 1) := fq1_42 (fl_33 (j := 54) rfl rfl)
theorem dL_law_2167 : decode cL_law 2167 = .ok (.iload_n 3, 1) := fq1_29 (fl_33 (j := 55) rfl rfl)
theorem dL_law_2168 : decode cL_law 2168 = .ok (.iconst 2, 1) := fq1_5 (fl_33 (j := 56) rfl rfl)
theorem dL_law_2169 : decode cL_law 2169 = .ok (.iadd, 1) := fq1_96 (fl_33 (j := 57) rfl rfl)
theorem dL_law_2170 : decode cL_law 2170 = .ok (.iaload, 1) := fq1_46 (fl_33 (j := 58) rfl rfl)
theorem dL_law_2171 : decode cL_law 2171 = .ok (.invokevirtual 234, 3) := fq3_182 (fl_33 (j := 59) rfl rfl) (fl_33 (j := 60) rfl rfl) (fl_33 (j := 61) rfl rfl) rfl
theorem dL_law_2174 : decode cL_law 2174 = .ok (.pop, 1) := fq1_87 (fl_33 (j := 62) rfl rfl)
theorem dL_law_2175 : decode cL_law 2175 = .ok (.aload_n 2, 1) := fq1_44 (fl_33 (j := 63) rfl rfl)
theorem dL_law_2176 : decode cL_law 2176 = .ok (.aload_n 0, 1) := fq1_42 (fl_34 (j := 0) rfl rfl)
theorem dL_law_2177 : decode cL_law 2177 = .ok (.iload_n 3, 1) := fq1_29 (fl_34 (j := 1) rfl rfl)
theorem dL_law_2178 : decode cL_law 2178 = .ok (.iconst 1, 1) := fq1_4 (fl_34 (j := 2) rfl rfl)
theorem dL_law_2179 : decode cL_law 2179 = .ok (.iadd, 1) := fq1_96 (fl_34 (j := 3) rfl rfl)
theorem dL_law_2180 : decode cL_law 2180 = .ok (.iaload, 1) := fq1_46 (fl_34 (j := 4) rfl rfl)
theorem dL_law_2181 : decode cL_law 2181 = .ok (.aload_n 0, 1) := fq1_42 (fl_34 (j := 5) rfl rfl)
theorem dL_law_2182 : decode cL_law 2182 = .ok (.iload_n 3, 1) := fq1_29 (fl_34 (j := 6) rfl rfl)
theorem dL_law_2183 : decode cL_law 2183 = .ok (.iconst 2, 1) := fq1_5 (fl_34 (j := 7) rfl rfl)
theorem dL_law_2184 : decode cL_law 2184 = .ok (.iadd, 1) := fq1_96 (fl_34 (j := 8) rfl rfl)
theorem dL_law_2185 : decode cL_law 2185 = .ok (.iaload, 1) := fq1_46 (fl_34 (j := 9) rfl rfl)
theorem dL_law_2186 : decode cL_law 2186 = .ok (.invokevirtual 237, 3) := fq3_182 (fl_34 (j := 10) rfl rfl) (fl_34 (j := 11) rfl rfl) (fl_34 (j := 12) rfl rfl) rfl
theorem dL_law_2189 : decode cL_law 2189 = .ok (.pop, 1) := fq1_87 (fl_34 (j := 13) rfl rfl)
theorem dL_law_2190 : decode cL_law 2190 = .ok (.goto 656, 3) := fq3_167 (fl_34 (j := 14) rfl rfl) (fl_34 (j := 15) rfl rfl) (fl_34 (j := 16) rfl rfl) (s2p rfl (bl rfl))
theorem dL_law_2193 : decode cL_law 2193 = .ok (.aload_n 1, 1) := fq1_43 (fl_34 (j := 17) rfl rfl)
theorem dL_law_2194 : decode cL_law 2194 = .ok (.aload_n 0, 1) := fq1_42 (fl_34 (j := 18) rfl rfl)
theorem dL_law_2195 : decode cL_law 2195 = .ok (.iload_n 3, 1) := fq1_29 (fl_34 (j := 19) rfl rfl)
theorem dL_law_2196 : decode cL_law 2196 = .ok (.iconst 1, 1) := fq1_4 (fl_34 (j := 20) rfl rfl)
theorem dL_law_2197 : decode cL_law 2197 = .ok (.iadd, 1) := fq1_96 (fl_34 (j := 21) rfl rfl)
theorem dL_law_2198 : decode cL_law 2198 = .ok (.iaload, 1) := fq1_46 (fl_34 (j := 22) rfl rfl)
theorem dL_law_2199 : decode cL_law 2199 = .ok (.aload_n 0, 1) := fq1_42 (fl_34 (j := 23) rfl rfl)
theorem dL_law_2200 : decode cL_law 2200 = .ok (.iload_n 3, 1) := fq1_29 (fl_34 (j := 24) rfl rfl)
theorem dL_law_2201 : decode cL_law 2201 = .ok (.iconst 2, 1) := fq1_5 (fl_34 (j := 25) rfl rfl)
theorem dL_law_2202 : decode cL_law 2202 = .ok (.iadd, 1) := fq1_96 (fl_34 (j := 26) rfl rfl)
theorem dL_law_2203 : decode cL_law 2203 = .ok (.iaload, 1) := fq1_46 (fl_34 (j := 27) rfl rfl)
theorem dL_law_2204 : decode cL_law 2204 = .ok (.aload_n 0, 1) := fq1_42 (fl_34 (j := 28) rfl rfl)
theorem dL_law_2205 : decode cL_law 2205 = .ok (.iload_n 3, 1) := fq1_29 (fl_34 (j := 29) rfl rfl)
theorem dL_law_2206 : decode cL_law 2206 = .ok (.iconst 3, 1) := fq1_6 (fl_34 (j := 30) rfl rfl)
theorem dL_law_2207 : decode cL_law 2207 = .ok (.iadd, 1) := fq1_96 (fl_34 (j := 31) rfl rfl)
theorem dL_law_2208 : decode cL_law 2208 = .ok (.iaload, 1) := fq1_46 (fl_34 (j := 32) rfl rfl)
theorem dL_law_2209 : decode cL_law 2209 = .ok (.invokevirtual 238, 3) := fq3_182 (fl_34 (j := 33) rfl rfl) (fl_34 (j := 34) rfl rfl) (fl_34 (j := 35) rfl rfl) rfl
theorem dL_law_2212 : decode cL_law 2212 = .ok (.pop, 1) := fq1_87 (fl_34 (j := 36) rfl rfl)
theorem dL_law_2213 : decode cL_law 2213 = .ok (.aload_n 2, 1) := fq1_44 (fl_34 (j := 37) rfl rfl)
theorem dL_law_2214 : decode cL_law 2214 = .ok (.aload_n 0, 1) := fq1_42 (fl_34 (j := 38) rfl rfl)
theorem dL_law_2215 : decode cL_law 2215 = .ok (.iload_n 3, 1) := fq1_29 (fl_34 (j := 39) rfl rfl)
theorem dL_law_2216 : decode cL_law 2216 = .ok (.iconst 1, 1) := fq1_4 (fl_34 (j := 40) rfl rfl)
theorem dL_law_2217 : decode cL_law 2217 = .ok (.iadd, 1) := fq1_96 (fl_34 (j := 41) rfl rfl)
theorem dL_law_2218 : decode cL_law 2218 = .ok (.iaload, 1) := fq1_46 (fl_34 (j := 42) rfl rfl)
theorem dL_law_2219 : decode cL_law 2219 = .ok (.aload_n 0, 1) := fq1_42 (fl_34 (j := 43) rfl rfl)
theorem dL_law_2220 : decode cL_law 2220 = .ok (.iload_n 3, 1) := fq1_29 (fl_34 (j := 44) rfl rfl)
theorem dL_law_2221 : decode cL_law 2221 = .ok (.iconst 2, 1) := fq1_5 (fl_34 (j := 45) rfl rfl)
theorem dL_law_2222 : decode cL_law 2222 = .ok (.iadd, 1) := fq1_96 (fl_34 (j := 46) rfl rfl)
theorem dL_law_2223 : decode cL_law 2223 = .ok (.iaload, 1) := fq1_46 (fl_34 (j := 47) rfl rfl)
theorem dL_law_2224 : decode cL_law 2224 = .ok (.aload_n 0, 1) := fq1_42 (fl_34 (j := 48) rfl rfl)
theorem dL_law_2225 : decode cL_law 2225 = .ok (.iload_n 3, 1) := fq1_29 (fl_34 (j := 49) rfl rfl)
theorem dL_law_2226 : decode cL_law 2226 = .ok (.iconst 3, 1) := fq1_6 (fl_34 (j := 50) rfl rfl)
theorem dL_law_2227 : decode cL_law 2227 = .ok (.iadd, 1) := fq1_96 (fl_34 (j := 51) rfl rfl)
theorem dL_law_2228 : decode cL_law 2228 = .ok (.iaload, 1) := fq1_46 (fl_34 (j := 52) rfl rfl)
theorem dL_law_2229 : decode cL_law 2229 = .ok (.invokevirtual 241, 3) := fq3_182 (fl_34 (j := 53) rfl rfl) (fl_34 (j := 54) rfl rfl) (fl_34 (j := 55) rfl rfl) rfl
theorem dL_law_2232 : decode cL_law 2232 = .ok (.pop, 1) := fq1_87 (fl_34 (j := 56) rfl rfl)
theorem dL_law_2233 : decode cL_law 2233 = .ok (.goto 613, 3) := fq3_167 (fl_34 (j := 57) rfl rfl) (fl_34 (j := 58) rfl rfl) (fl_34 (j := 59) rfl rfl) (s2p rfl (bl rfl))
theorem dL_law_2236 : decode cL_law 2236 = .ok (.aload_n 1, 1) := fq1_43 (fl_34 (j := 60) rfl rfl)
theorem dL_law_2237 : decode cL_law 2237 = .ok (.aload_n 0, 1) := fq1_42 (fl_34 (j := 61) rfl rfl)
theorem dL_law_2238 : decode cL_law 2238 = .ok (.iload_n 3, 1) := fq1_29 (fl_34 (j := 62) rfl rfl)
theorem dL_law_2239 : decode cL_law 2239 = .ok (.iconst 1, 1) := fq1_4 (fl_34 (j := 63) rfl rfl)
theorem dL_law_2240 : decode cL_law 2240 = .ok (.iadd, 1) := fq1_96 (fl_35 (j := 0) rfl rfl)
theorem dL_law_2241 : decode cL_law 2241 = .ok (.iaload, 1) := fq1_46 (fl_35 (j := 1) rfl rfl)
theorem dL_law_2242 : decode cL_law 2242 = .ok (.aload_n 0, 1) := fq1_42 (fl_35 (j := 2) rfl rfl)
theorem dL_law_2243 : decode cL_law 2243 = .ok (.iload_n 3, 1) := fq1_29 (fl_35 (j := 3) rfl rfl)
theorem dL_law_2244 : decode cL_law 2244 = .ok (.iconst 2, 1) := fq1_5 (fl_35 (j := 4) rfl rfl)
theorem dL_law_2245 : decode cL_law 2245 = .ok (.iadd, 1) := fq1_96 (fl_35 (j := 5) rfl rfl)
theorem dL_law_2246 : decode cL_law 2246 = .ok (.iaload, 1) := fq1_46 (fl_35 (j := 6) rfl rfl)
theorem dL_law_2247 : decode cL_law 2247 = .ok (.aload_n 0, 1) := fq1_42 (fl_35 (j := 7) rfl rfl)
theorem dL_law_2248 : decode cL_law 2248 = .ok (.iload_n 3, 1) := fq1_29 (fl_35 (j := 8) rfl rfl)
theorem dL_law_2249 : decode cL_law 2249 = .ok (.iconst 3, 1) := fq1_6 (fl_35 (j := 9) rfl rfl)
theorem dL_law_2250 : decode cL_law 2250 = .ok (.iadd, 1) := fq1_96 (fl_35 (j := 10) rfl rfl)
theorem dL_law_2251 : decode cL_law 2251 = .ok (.iaload, 1) := fq1_46 (fl_35 (j := 11) rfl rfl)
theorem dL_law_2252 : decode cL_law 2252 = .ok (.aload_n 0, 1) := fq1_42 (fl_35 (j := 12) rfl rfl)
theorem dL_law_2253 : decode cL_law 2253 = .ok (.iload_n 3, 1) := fq1_29 (fl_35 (j := 13) rfl rfl)
theorem dL_law_2254 : decode cL_law 2254 = .ok (.iconst 4, 1) := fq1_7 (fl_35 (j := 14) rfl rfl)
theorem dL_law_2255 : decode cL_law 2255 = .ok (.iadd, 1) := fq1_96 (fl_35 (j := 15) rfl rfl)
theorem dL_law_2256 : decode cL_law 2256 = .ok (.iaload, 1) := fq1_46 (fl_35 (j := 16) rfl rfl)
theorem dL_law_2257 : decode cL_law 2257 = .ok (.invokevirtual 242, 3) := fq3_182 (fl_35 (j := 17) rfl rfl) (fl_35 (j := 18) rfl rfl) (fl_35 (j := 19) rfl rfl) rfl
theorem dL_law_2260 : decode cL_law 2260 = .ok (.pop, 1) := fq1_87 (fl_35 (j := 20) rfl rfl)
theorem dL_law_2261 : decode cL_law 2261 = .ok (.aload_n 2, 1) := fq1_44 (fl_35 (j := 21) rfl rfl)
theorem dL_law_2262 : decode cL_law 2262 = .ok (.aload_n 0, 1) := fq1_42 (fl_35 (j := 22) rfl rfl)
theorem dL_law_2263 : decode cL_law 2263 = .ok (.iload_n 3, 1) := fq1_29 (fl_35 (j := 23) rfl rfl)
theorem dL_law_2264 : decode cL_law 2264 = .ok (.iconst 1, 1) := fq1_4 (fl_35 (j := 24) rfl rfl)
theorem dL_law_2265 : decode cL_law 2265 = .ok (.iadd, 1) := fq1_96 (fl_35 (j := 25) rfl rfl)
theorem dL_law_2266 : decode cL_law 2266 = .ok (.iaload, 1) := fq1_46 (fl_35 (j := 26) rfl rfl)
theorem dL_law_2267 : decode cL_law 2267 = .ok (.aload_n 0, 1) := fq1_42 (fl_35 (j := 27) rfl rfl)
theorem dL_law_2268 : decode cL_law 2268 = .ok (.iload_n 3, 1) := fq1_29 (fl_35 (j := 28) rfl rfl)
theorem dL_law_2269 : decode cL_law 2269 = .ok (.iconst 2, 1) := fq1_5 (fl_35 (j := 29) rfl rfl)
theorem dL_law_2270 : decode cL_law 2270 = .ok (.iadd, 1) := fq1_96 (fl_35 (j := 30) rfl rfl)
theorem dL_law_2271 : decode cL_law 2271 = .ok (.iaload, 1) := fq1_46 (fl_35 (j := 31) rfl rfl)
theorem dL_law_2272 : decode cL_law 2272 = .ok (.aload_n 0, 1) := fq1_42 (fl_35 (j := 32) rfl rfl)
theorem dL_law_2273 : decode cL_law 2273 = .ok (.iload_n 3, 1) := fq1_29 (fl_35 (j := 33) rfl rfl)
theorem dL_law_2274 : decode cL_law 2274 = .ok (.iconst 3, 1) := fq1_6 (fl_35 (j := 34) rfl rfl)
theorem dL_law_2275 : decode cL_law 2275 = .ok (.iadd, 1) := fq1_96 (fl_35 (j := 35) rfl rfl)
theorem dL_law_2276 : decode cL_law 2276 = .ok (.iaload, 1) := fq1_46 (fl_35 (j := 36) rfl rfl)
theorem dL_law_2277 : decode cL_law 2277 = .ok (.aload_n 0, 1) := fq1_42 (fl_35 (j := 37) rfl rfl)
theorem dL_law_2278 : decode cL_law 2278 = .ok (.iload_n 3, 1) := fq1_29 (fl_35 (j := 38) rfl rfl)
theorem dL_law_2279 : decode cL_law 2279 = .ok (.iconst 4, 1) := fq1_7 (fl_35 (j := 39) rfl rfl)
theorem dL_law_2280 : decode cL_law 2280 = .ok (.iadd, 1) := fq1_96 (fl_35 (j := 40) rfl rfl)
theorem dL_law_2281 : decode cL_law 2281 = .ok (.iaload, 1) := fq1_46 (fl_35 (j := 41) rfl rfl)
theorem dL_law_2282 : decode cL_law 2282 = .ok (.invokevirtual 245, 3) := fq3_182 (fl_35 (j := 42) rfl rfl) (fl_35 (j := 43) rfl rfl) (fl_35 (j := 44) rfl rfl) rfl
theorem dL_law_2285 : decode cL_law 2285 = .ok (.pop, 1) := fq1_87 (fl_35 (j := 45) rfl rfl)
theorem dL_law_2286 : decode cL_law 2286 = .ok (.goto 560, 3) := fq3_167 (fl_35 (j := 46) rfl rfl) (fl_35 (j := 47) rfl rfl) (fl_35 (j := 48) rfl rfl) (s2p rfl (bl rfl))
theorem dL_law_2289 : decode cL_law 2289 = .ok (.aload_n 1, 1) := fq1_43 (fl_35 (j := 49) rfl rfl)
theorem dL_law_2290 : decode cL_law 2290 = .ok (.aload_n 0, 1) := fq1_42 (fl_35 (j := 50) rfl rfl)
theorem dL_law_2291 : decode cL_law 2291 = .ok (.iload_n 3, 1) := fq1_29 (fl_35 (j := 51) rfl rfl)
theorem dL_law_2292 : decode cL_law 2292 = .ok (.iconst 1, 1) := fq1_4 (fl_35 (j := 52) rfl rfl)
theorem dL_law_2293 : decode cL_law 2293 = .ok (.iadd, 1) := fq1_96 (fl_35 (j := 53) rfl rfl)
theorem dL_law_2294 : decode cL_law 2294 = .ok (.iaload, 1) := fq1_46 (fl_35 (j := 54) rfl rfl)
theorem dL_law_2295 : decode cL_law 2295 = .ok (.aload_n 0, 1) := fq1_42 (fl_35 (j := 55) rfl rfl)
theorem dL_law_2296 : decode cL_law 2296 = .ok (.iload_n 3, 1) := fq1_29 (fl_35 (j := 56) rfl rfl)
theorem dL_law_2297 : decode cL_law 2297 = .ok (.iconst 2, 1) := fq1_5 (fl_35 (j := 57) rfl rfl)
theorem dL_law_2298 : decode cL_law 2298 = .ok (.iadd, 1) := fq1_96 (fl_35 (j := 58) rfl rfl)
theorem dL_law_2299 : decode cL_law 2299 = .ok (.iaload, 1) := fq1_46 (fl_35 (j := 59) rfl rfl)
theorem dL_law_2300 : decode cL_law 2300 = .ok (.invokevirtual 246, 3) := fq3_182 (fl_35 (j := 60) rfl rfl) (fl_35 (j := 61) rfl rfl) (fl_35 (j := 62) rfl rfl) rfl
theorem dL_law_2303 : decode cL_law 2303 = .ok (.pop, 1) := fq1_87 (fl_35 (j := 63) rfl rfl)
theorem dL_law_2304 : decode cL_law 2304 = .ok (.aload_n 2, 1) := fq1_44 (fl_36 (j := 0) rfl rfl)
theorem dL_law_2305 : decode cL_law 2305 = .ok (.aload_n 0, 1) := fq1_42 (fl_36 (j := 1) rfl rfl)
theorem dL_law_2306 : decode cL_law 2306 = .ok (.iload_n 3, 1) := fq1_29 (fl_36 (j := 2) rfl rfl)
theorem dL_law_2307 : decode cL_law 2307 = .ok (.iconst 1, 1) := fq1_4 (fl_36 (j := 3) rfl rfl)
theorem dL_law_2308 : decode cL_law 2308 = .ok (.iadd, 1) := fq1_96 (fl_36 (j := 4) rfl rfl)
theorem dL_law_2309 : decode cL_law 2309 = .ok (.iaload, 1) := fq1_46 (fl_36 (j := 5) rfl rfl)
theorem dL_law_2310 : decode cL_law 2310 = .ok (.aload_n 0, 1) := fq1_42 (fl_36 (j := 6) rfl rfl)
theorem dL_law_2311 : decode cL_law 2311 = .ok (.iload_n 3, 1) := fq1_29 (fl_36 (j := 7) rfl rfl)
theorem dL_law_2312 : decode cL_law 2312 = .ok (.iconst 2, 1) := fq1_5 (fl_36 (j := 8) rfl rfl)
theorem dL_law_2313 : decode cL_law 2313 = .ok (.iadd, 1) := fq1_96 (fl_36 (j := 9) rfl rfl)
theorem dL_law_2314 : decode cL_law 2314 = .ok (.iaload, 1) := fq1_46 (fl_36 (j := 10) rfl rfl)
theorem dL_law_2315 : decode cL_law 2315 = .ok (.invokevirtual 249, 3) := fq3_182 (fl_36 (j := 11) rfl rfl) (fl_36 (j := 12) rfl rfl) (fl_36 (j := 13) rfl rfl) rfl
theorem dL_law_2318 : decode cL_law 2318 = .ok (.pop, 1) := fq1_87 (fl_36 (j := 14) rfl rfl)
theorem dL_law_2319 : decode cL_law 2319 = .ok (.goto 527, 3) := fq3_167 (fl_36 (j := 15) rfl rfl) (fl_36 (j := 16) rfl rfl) (fl_36 (j := 17) rfl rfl) (s2p rfl (bl rfl))
end

section
set_option maxHeartbeats 40000000 in
set_option maxRecDepth 100000 in
theorem law_c48 {p : Program} {e : Env} {s : State} {m : MethodId} {below : List Frame} {meth : Method} {c : Code} (l : Launch) {b L : Nat} {xs : Nat → Int32} {A : Nat → Prop} {D : va_G} {k : Nat → ClassId} {sa sv : Nat} {i : Int} (C : LFX p s m meth c b L xs A D k sa sv) (hi : 0 ≤ i ∧ i + 6 ≤ (L : Int)) (hk : LAT p l e s m below meth c b A D k 2846 i) : LAT p l e s m below meth c b A D k 2028 i := by
  obtain ⟨hx, hb, hr, hml, hown, hts, hKK, hX, hbl, hbA, hA, hAf, hlocks, hSY, hRR, hL⟩ := id C
  intro a IA LA FA QA VA IB LB FB QB VB IC LC FC QC VC ID LD FD QD VD IR LR FR QR VR r H locs ls hI hRT hP hD hS hl
  have hK := hKK.1
  obtain ⟨hP, hD⟩ : PD D A ((GA k a IA LA FA QA VA r) ++ ((GB k a IB LB FB QB VB r) ++ ((GC k a IC LC FC QC VC r) ++ ((GD k a ID LD FD QD VD r) ++ ((GR k a IR LR FR QR VR r) ++ (r.tl)))))) H := ⟨hP, hD⟩
  obtain ⟨hWI, hWI_0, hWI_1, hWI_2, hrd, htr0, htr1, htr2, htr3, hrgk, hrgt, hdrc, hev, hmk, hM, hMK, hTI, hFS, htd, hlt, rgH, rgS, rgY, hdr, hit, hmmk, heq, htq, hrel, hbf, htb, hkw, hSK, hSK0, hSK1, hSK2, hNE, hNE0, hNE1, hNE2, hLE, hYE, hQE, hLE0, hLE1, hLE2, hYE0, hYE1, hYE2⟩ := id hI
  obtain ⟨gw1, gw2, gw3, gw4, gw5, gw6, gw7, gw8, gw9, gw10, gw11⟩ := id hWI
  have hx0 := gw9
  have hYI := gw11
  have hpf : rgI (FR 3) (-128) 127 900 := fun e h1 h2 => by rw [← htb e h1 h2]; exact hbf e h1 h2
  obtain ⟨z1, hz1, hz1a, hz1b⟩ := i32_z (xs (iZ (i + 1)).toNatClampNeg)
  obtain ⟨z2, hz2, hz2a, hz2b⟩ := i32_z (xs (iZ (i + 2)).toNatClampNeg)
  obtain ⟨z3, hz3, hz3a, hz3b⟩ := i32_z (xs (iZ (i + 3)).toNatClampNeg)
  obtain ⟨z4, hz4, hz4a, hz4b⟩ := i32_z (xs (iZ (i + 4)).toNatClampNeg)
  obtain ⟨z5, hz5, hz5a, hz5b⟩ := i32_z (xs (iZ (i + 5)).toNatClampNeg)
  have hl : lv_has ls 4 [(3, .int (iZ i)), (2, .ref (a 106)), (1, .ref (a 0)), (0, .ref b)] := hl
  have hls := hQE.1
  replace hls : _ := hls
  refine lv_aload_n hx hb dL_law_2028 rfl (lv_at hl 2 rfl) ?_
  refine CKV2 (As := []) (rest := []) (tl := (GB k a IB LB FB QB VB r) ++ ((GC k a IC LC FC QC VC r) ++ ((GD k a ID LD FD QD VD r) ++ ((GR k a IR LR FR QR VR r) ++ (r.tl))))) hx hb hml hown hts hKK hP hD hS hA (p_idle l D k (a 0) (a 1) (a 2) (a 3) (a 4) (a 5) (a 6) (a 7) (a 8) (a 9) (a 10) (a 11) (IA 0) (IA 1) (IA 2) (LA 0) (LA 1) ([.ref (a 26), .ref (a 27), .ref (a 28), .int (iZ (IA 3)), .int (iZ (IA 4)), .int (iZ (IA 5)), .int (iZ (IA 6))]) (a 23) (a 27) (a 28) (a 24) (a 25) (IA 3) (IA 4) (IA 5) (FA 0) (FA 1) (a 29) (a 30) (a 31) (a 32) (IA 7) (IA 8) (FA 2) (FA 3) (FA 4) (FA 5) rfl rfl rfl rfl rfl (by first | with_reducible assumption | omega) hx0 (by first | with_reducible assumption | omega) (by first | with_reducible assumption | omega) (by first | with_reducible assumption | omega) (by first | with_reducible assumption | omega) (by first | with_reducible assumption | omega) gw10) ci_X11_idle qm_L_218 ⟨Nat.le_of_ble_eq_true rfl, Nat.le_of_ble_eq_true rfl⟩ (lroom _) [0, 1, 3, 8, 9, 10, 11, 2, 6, 7] [4, 5, 12, 13, 14, 15, 16, 17, 18, 19, 20, 21, 22, 23, 24, 25] rfl rfl rfl (by decide +kernel) (by decide +kernel) (by decide +kernel) 0 rfl rfl rfl hl.1 rfl (Nat.le_of_ble_eq_true rfl) dL_law_2029 (fun u_1 H locs hφ hP hD hS => ?_)
  obtain ⟨hP, hD⟩ := PD.by3 (is := [16, 17, 23, 18, 0, 1, 24, 25, 19, 20, 21, 22, 2, 3, 4, 5, 6, 7, 8, 9, 10, 11, 12, 13, 14, 15]) (y := (GA k a (u9 IA 2 u_1.1.2) LA FA QA VA r)) ⟨hP, hD⟩ (by decide +kernel) rfl rfl
  refine W.eq (g2 := F0 m 2032 ls [.int (iZ u_1.1.1)]) rfl ?_
  refine lv_pop hx hb dL_law_2032 rfl ?_
  refine lv_aload_n hx hb dL_law_2033 rfl (lv_at hl 1 rfl) ?_
  obtain ⟨hP, hD⟩ := PD.fr5 ⟨hP, hD⟩
  refine CKV2 (As := []) (rest := []) (tl := (GA k a (u9 IA 2 u_1.1.2) LA FA QA VA r) ++ ((GB k a IB LB FB QB VB r) ++ ((GC k a IC LC FC QC VC r) ++ ((GD k a ID LD FD QD VD r) ++ (r.tl))))) hx hb hml hown hts hKK hP hD hS hA (q_idle l D k (a 106) (a 107) (a 108) (a 109) (a 110) (a 111) (a 112) (a 113) (a 114) (a 115) (a 116) (a 117) (a 118) (a 119) (a 120) (a 121) (a 122) (IR 0) (IR 1) (IR 2) (IR 3) (IR 4) (IR 5) (IR 6) (IR 7) (IR 8) (IR 9) (IR 10) (IR 11) (IR 12) (IR 13) (IR 14) (IR 15) (IR 16) (IR 17) (LR 0) (LR 1) (FR 0) (FR 6) (FR 7) (FR 8) (FR 9) hM rgH) ci_X12_idle qm_L_221 ⟨Nat.le_of_ble_eq_true rfl, Nat.le_of_ble_eq_true rfl⟩ (lroom _) [0, 1, 9, 10, 11, 12] [2, 3, 4, 5, 6, 7, 8, 13, 14, 15, 16] rfl rfl rfl (by decide +kernel) (by decide +kernel) (by decide +kernel) 0 rfl rfl rfl hl.1 rfl (Nat.le_of_ble_eq_true rfl) dL_law_2034 (fun u_2 H locs hφ hP hD hS => ?_)
  have p_3 : rgI u_2.2.2.1.2.2.2 0 1000000 120 := hφ
  obtain ⟨hP, hD⟩ := PD.by3 (is := [11, 12, 0, 1, 2, 3, 4, 5, 6, 13, 14, 15, 16, 7, 8, 9, 10]) (y := (GR k a (u9 IR 0 u_2.1.2) LR (u9 (u9 (u9 (u9 FR 6 u_2.2.2.1.1) 7 u_2.2.2.1.2.1) 8 u_2.2.2.1.2.2.1) 9 u_2.2.2.1.2.2.2) QR VR r)) ⟨hP, hD⟩ (by decide +kernel) rfl rfl
  refine W.eq (g2 := F0 m 2037 ls [.int (iZ u_2.1.1)]) rfl ?_
  refine lv_pop hx hb dL_law_2037 rfl ?_
  refine lv_goto (tgt := 2846) hx hb dL_law_2038 rfl ?_
  obtain ⟨hP, hD⟩ := PD.fr5 ⟨hP, hD⟩
  obtain ⟨hP, hD⟩ := PD.fr5 ⟨hP, hD⟩
  obtain ⟨hP, hD⟩ := PD.fr5 ⟨hP, hD⟩
  obtain ⟨hP, hD⟩ := PD.fr5 ⟨hP, hD⟩
  exact hk a (u9 IA 2 u_1.1.2) LA FA QA VA IB LB FB QB VB IC LC FC QC VC ID LD FD QD VD (u9 IR 0 u_2.1.2) LR (u9 (u9 (u9 (u9 FR 6 u_2.2.2.1.1) 7 u_2.2.2.1.2.1) 8 u_2.2.2.1.2.2.1) 9 u_2.2.2.1.2.2.2) QR VR r H locs ls (show INV _ _ _ _ _ _ _ _ _ _ _ _ _ _ _ from ⟨hWI, hWI_0, hWI_1, hWI_2, hrd, htr0, htr1, htr2, htr3, hrgk, hrgt, hdrc, hev, hmk, hM, hMK, hTI, hFS, htd, hlt, (show rgI u_2.2.2.1.2.2.2 0 1000000 120 from (by assumption)), rgS, rgY, hdr, hit, hmmk, heq, htq, hrel, hbf, htb, hkw, hSK, hSK0, hSK1, hSK2, hNE, hNE0, hNE1, hNE2, hLE, hYE, hQE, hLE0, hLE1, hLE2, hYE0, hYE1, hYE2⟩) hRT hP hD hS (lv_sub hl [0, 1, 2, 3] rfl)
set_option maxHeartbeats 40000000 in
set_option maxRecDepth 100000 in
theorem law_c49 {p : Program} {e : Env} {s : State} {m : MethodId} {below : List Frame} {meth : Method} {c : Code} (l : Launch) {b L : Nat} {xs : Nat → Int32} {A : Nat → Prop} {D : va_G} {k : Nat → ClassId} {sa sv : Nat} {i : Int} (C : LFX p s m meth c b L xs A D k sa sv) (hi : 0 ≤ i ∧ i + 6 ≤ (L : Int)) (hk : LAT p l e s m below meth c b A D k 2846 i) : LAT p l e s m below meth c b A D k 2041 i := by
  obtain ⟨hx, hb, hr, hml, hown, hts, hKK, hX, hbl, hbA, hA, hAf, hlocks, hSY, hRR, hL⟩ := id C
  intro a IA LA FA QA VA IB LB FB QB VB IC LC FC QC VC ID LD FD QD VD IR LR FR QR VR r H locs ls hI hRT hP hD hS hl
  have hK := hKK.1
  obtain ⟨hP, hD⟩ : PD D A ((GA k a IA LA FA QA VA r) ++ ((GB k a IB LB FB QB VB r) ++ ((GC k a IC LC FC QC VC r) ++ ((GD k a ID LD FD QD VD r) ++ ((GR k a IR LR FR QR VR r) ++ (r.tl)))))) H := ⟨hP, hD⟩
  obtain ⟨hWI, hWI_0, hWI_1, hWI_2, hrd, htr0, htr1, htr2, htr3, hrgk, hrgt, hdrc, hev, hmk, hM, hMK, hTI, hFS, htd, hlt, rgH, rgS, rgY, hdr, hit, hmmk, heq, htq, hrel, hbf, htb, hkw, hSK, hSK0, hSK1, hSK2, hNE, hNE0, hNE1, hNE2, hLE, hYE, hQE, hLE0, hLE1, hLE2, hYE0, hYE1, hYE2⟩ := id hI
  obtain ⟨gw1, gw2, gw3, gw4, gw5, gw6, gw7, gw8, gw9, gw10, gw11⟩ := id hWI
  have hx0 := gw9
  have hYI := gw11
  have hpf : rgI (FR 3) (-128) 127 900 := fun e h1 h2 => by rw [← htb e h1 h2]; exact hbf e h1 h2
  obtain ⟨z1, hz1, hz1a, hz1b⟩ := i32_z (xs (iZ (i + 1)).toNatClampNeg)
  obtain ⟨z2, hz2, hz2a, hz2b⟩ := i32_z (xs (iZ (i + 2)).toNatClampNeg)
  obtain ⟨z3, hz3, hz3a, hz3b⟩ := i32_z (xs (iZ (i + 3)).toNatClampNeg)
  obtain ⟨z4, hz4, hz4a, hz4b⟩ := i32_z (xs (iZ (i + 4)).toNatClampNeg)
  obtain ⟨z5, hz5, hz5a, hz5b⟩ := i32_z (xs (iZ (i + 5)).toNatClampNeg)
  have hl : lv_has ls 4 [(3, .int (iZ i)), (2, .ref (a 106)), (1, .ref (a 0)), (0, .ref b)] := hl
  have hls := hQE.1
  replace hls : _ := hls
  refine lv_aload_n hx hb dL_law_2041 rfl (lv_at hl 2 rfl) ?_
  refine lv_aload_n hx hb dL_law_2042 rfl (lv_at hl 3 rfl) ?_
  refine lv_iload_n hx hb dL_law_2043 rfl (lv_at hl 0 rfl) ?_
  refine lv_iconst (v := iZ 1) hx hb dL_law_2044 rfl ?_
  refine lv_iadd hx hb dL_law_2045 ?_
  refine lv_topi (fun x_1 ex_1 => ?_)
  obtain rfl : x_1 = iZ (i + 1) := ex_1.trans (iZ_add i 1)
  refine va_sld hx hb hX hbl hbA hS (zi1 hi hL) dL_law_2046 ?_
  refine lv_topi (fun x_2 ex_2 => ?_)
  obtain rfl : x_2 = iZ z1 := ex_2.trans hz1
  refine lv_aload_n hx hb dL_law_2047 rfl (lv_at hl 3 rfl) ?_
  refine lv_iload_n hx hb dL_law_2048 rfl (lv_at hl 0 rfl) ?_
  refine lv_iconst (v := iZ 2) hx hb dL_law_2049 rfl ?_
  refine lv_iadd hx hb dL_law_2050 ?_
  refine lv_topi (fun x_3 ex_3 => ?_)
  obtain rfl : x_3 = iZ (i + 2) := ex_3.trans (iZ_add i 2)
  refine va_sld hx hb hX hbl hbA hS (zi2 hi hL) dL_law_2051 ?_
  refine lv_topi (fun x_4 ex_4 => ?_)
  obtain rfl : x_4 = iZ z2 := ex_4.trans hz2
  refine lv_aload_n hx hb dL_law_2052 rfl (lv_at hl 3 rfl) ?_
  refine lv_iload_n hx hb dL_law_2053 rfl (lv_at hl 0 rfl) ?_
  refine lv_iconst (v := iZ 3) hx hb dL_law_2054 rfl ?_
  refine lv_iadd hx hb dL_law_2055 ?_
  refine lv_topi (fun x_5 ex_5 => ?_)
  obtain rfl : x_5 = iZ (i + 3) := ex_5.trans (iZ_add i 3)
  refine va_sld hx hb hX hbl hbA hS (zi3 hi hL) dL_law_2056 ?_
  refine lv_topi (fun x_6 ex_6 => ?_)
  obtain rfl : x_6 = iZ z3 := ex_6.trans hz3
  obtain ⟨hP, hD⟩ := PD.mid4 ⟨hP, hD⟩
  refine CXM (mid := (GB k a IB LB FB QB VB r) ++ ((GC k a IC LC FC QC VC r) ++ ((GD k a ID LD FD QD VD r) ++ ((GR k a IR LR FR QR VR r))))) (c0 := 123) (s0 := 16705) (r := r) (As := [.int (iZ z1), .int (iZ z2), .int (iZ z3)]) (rest := []) hx hb hml hown hts hKK hP hD hS hA (p_echo l D k (a 0) (a 1) (a 2) (a 3) (a 4) (a 5) (a 6) (a 7) (a 8) (a 9) (a 10) (a 11) (IA 0) (IA 1) (IA 2) (LA 0) (LA 1) ([.ref (a 26), .ref (a 27), .ref (a 28), .int (iZ (IA 3)), .int (iZ (IA 4)), .int (iZ (IA 5)), .int (iZ (IA 6))]) (a 23) (a 27) (a 28) (a 24) (a 25) (IA 3) (IA 4) (IA 5) (FA 0) (FA 1) z1 z2 z3 r hRT rfl rfl rfl rfl rfl (by first | with_reducible assumption | omega) hx0 (by first | with_reducible assumption | omega) (by first | with_reducible assumption | omega) (by first | with_reducible assumption | omega) ⟨hz1a, hz1b⟩ ⟨hz2a, hz2b⟩ ⟨hz3a, hz3b⟩) ci_X11_echo qm_L_222 ⟨Nat.le_of_ble_eq_true rfl, Nat.le_of_ble_eq_true rfl⟩ ⟨Nat.le_of_ble_eq_true rfl, Nat.le_of_ble_eq_true rfl⟩ [0, 1, 17, 2, 6, 7] [3, 4, 5, 8, 9, 10, 11, 12, 13, 14, 15, 16, 18, 19, 20, 21, 22, 23, 24, 25] rfl rfl rfl (by decide +kernel) (by decide +kernel) (by decide +kernel) 0 rfl rfl rfl hl.1 rfl (Nat.le_of_ble_eq_true rfl) dL_law_2057 (fun u_7 H locs hφ hP hD hS => ?_)
  obtain ⟨r_8, v_9⟩ := u_7
  obtain ⟨p_10, rtr_8⟩ : ((((0 ≤ z1 ∧ z1 < (IA 3)) ∧ (0 ≤ z3 ∧ z3 < (IA 3)) ∧ ¬ z1 = z3 ∧ (0 ≤ z2 ∧ z2 ≤ 400)) ∧ (v_9.1.1 : Int) = arN (FA 0) (FA 1) (IA 4) z3 (arN (FA 0) (FA 1) (IA 4) z1 z2 z3) z1) ∨ (¬ ((0 ≤ z1 ∧ z1 < (IA 3)) ∧ (0 ≤ z3 ∧ z3 < (IA 3)) ∧ ¬ z1 = z3 ∧ (0 ≤ z2 ∧ z2 ≤ 400)) ∧ (v_9.1.1 : Int) = -1)) ∧ ((RT k) (RX (FA 0) (FA 1) (IA 3) (IA 4)) r_8) := hφ
  obtain ⟨hP, hD⟩ := PD.dim4 ⟨hP, hD⟩
  obtain ⟨hP, hD⟩ := PD.by3 (is := [20, 21, 23, 0, 1, 2, 24, 25, 3, 4, 5, 6, 7, 8, 9, 10, 11, 22, 12, 13, 14, 15, 16, 17, 18, 19]) (y := (GA k a (u9 IA 2 v_9.1.2) LA FA QA VA r_8)) ⟨hP, hD⟩ (by decide +kernel) rfl rfl
  refine W.ceq (cells' := 123 + cz true r_8.b) (slots' := 16705 + sz true r_8.b) rfl rfl ?_
  refine W.eq (g2 := F0 m 2060 ls [.int (iZ v_9.1.1)]) rfl ?_
  refine lv_pop hx hb dL_law_2060 rfl ?_
  refine lv_aload_n hx hb dL_law_2061 rfl (lv_at hl 1 rfl) ?_
  refine lv_aload_n hx hb dL_law_2062 rfl (lv_at hl 3 rfl) ?_
  refine lv_iload_n hx hb dL_law_2063 rfl (lv_at hl 0 rfl) ?_
  refine lv_iconst (v := iZ 1) hx hb dL_law_2064 rfl ?_
  refine lv_iadd hx hb dL_law_2065 ?_
  refine lv_topi (fun x_11 ex_11 => ?_)
  obtain rfl : x_11 = iZ (i + 1) := ex_11.trans (iZ_add i 1)
  refine va_sld hx hb hX hbl hbA hS (zi1 hi hL) dL_law_2066 ?_
  refine lv_topi (fun x_12 ex_12 => ?_)
  obtain rfl : x_12 = iZ z1 := ex_12.trans hz1
  refine lv_aload_n hx hb dL_law_2067 rfl (lv_at hl 3 rfl) ?_
  refine lv_iload_n hx hb dL_law_2068 rfl (lv_at hl 0 rfl) ?_
  refine lv_iconst (v := iZ 2) hx hb dL_law_2069 rfl ?_
  refine lv_iadd hx hb dL_law_2070 ?_
  refine lv_topi (fun x_13 ex_13 => ?_)
  obtain rfl : x_13 = iZ (i + 2) := ex_13.trans (iZ_add i 2)
  refine va_sld hx hb hX hbl hbA hS (zi2 hi hL) dL_law_2071 ?_
  refine lv_topi (fun x_14 ex_14 => ?_)
  obtain rfl : x_14 = iZ z2 := ex_14.trans hz2
  refine lv_aload_n hx hb dL_law_2072 rfl (lv_at hl 3 rfl) ?_
  refine lv_iload_n hx hb dL_law_2073 rfl (lv_at hl 0 rfl) ?_
  refine lv_iconst (v := iZ 3) hx hb dL_law_2074 rfl ?_
  refine lv_iadd hx hb dL_law_2075 ?_
  refine lv_topi (fun x_15 ex_15 => ?_)
  obtain rfl : x_15 = iZ (i + 3) := ex_15.trans (iZ_add i 3)
  refine va_sld hx hb hX hbl hbA hS (zi3 hi hL) dL_law_2076 ?_
  refine lv_topi (fun x_16 ex_16 => ?_)
  obtain rfl : x_16 = iZ z3 := ex_16.trans hz3
  obtain ⟨hP, hD⟩ := PD.fr5 ⟨hP, hD⟩
  refine CKV2 (As := [.int (iZ z1), .int (iZ z2), .int (iZ z3)]) (rest := []) (tl := (GA k a (u9 IA 2 v_9.1.2) LA FA QA VA r_8) ++ ((GB k a IB LB FB QB VB r) ++ ((GC k a IC LC FC QC VC r) ++ ((GD k a ID LD FD QD VD r) ++ (r_8.tl))))) hx hb hml hown hts hKK hP hD hS hA (q_echo l D k (a 106) (a 107) (a 108) (a 109) (a 110) (a 111) (a 112) (a 113) (a 114) (a 115) (a 116) (a 117) (a 118) (a 119) (a 120) (a 121) (a 122) (IR 0) (IR 1) (IR 2) (IR 3) (IR 4) (IR 5) (IR 6) (IR 7) (IR 8) (IR 9) (IR 10) (IR 11) (IR 12) (IR 13) (IR 14) (IR 15) (IR 16) (IR 17) (LR 0) (LR 1) (FR 0) z1 z2 z3 hM ⟨hz1a, hz1b⟩ ⟨hz2a, hz2b⟩ ⟨hz3a, hz3b⟩) ci_X12_echo qm_L_225 ⟨Nat.le_of_ble_eq_true rfl, Nat.le_of_ble_eq_true rfl⟩ (lroom _) [0, 1] [2, 3, 4, 5, 6, 7, 8, 9, 10, 11, 12, 13, 14, 15, 16] rfl rfl rfl (by decide +kernel) (by decide +kernel) (by decide +kernel) 0 rfl rfl rfl hl.1 rfl (Nat.le_of_ble_eq_true rfl) dL_law_2077 (fun u_17 H locs hφ hP hD hS => ?_)
  have p_18 : (((0 ≤ z1 ∧ z1 < (gz (FR 0) 0)) ∧ (0 ≤ z3 ∧ z3 < (gz (FR 0) 0)) ∧ ¬ z1 = z3 ∧ (0 ≤ z2 ∧ z2 ≤ 400)) ∧ ((1000000 ≤ ecF (sh (FR 0) 10) (sh (FR 0) 46) (gz (FR 0) 1) z1 z2 z3 ∧ (u_17.1.1 : Int) = -1) ∨ (ecF (sh (FR 0) 10) (sh (FR 0) 46) (gz (FR 0) 1) z1 z2 z3 < 1000000 ∧ (u_17.1.1 : Int) = ecF (sh (FR 0) 10) (sh (FR 0) 46) (gz (FR 0) 1) z1 z2 z3))) ∨ (¬ ((0 ≤ z1 ∧ z1 < (gz (FR 0) 0)) ∧ (0 ≤ z3 ∧ z3 < (gz (FR 0) 0)) ∧ ¬ z1 = z3 ∧ (0 ≤ z2 ∧ z2 ≤ 400)) ∧ (u_17.1.1 : Int) = -1) := hφ
  obtain ⟨hP, hD⟩ := PD.by3 (is := [15, 16, 0, 1, 2, 3, 4, 5, 6, 7, 8, 9, 10, 11, 12, 13, 14]) (y := (GR k a (u9 IR 0 u_17.1.2) LR FR QR VR r_8)) ⟨hP, hD⟩ (by decide +kernel) rfl rfl
  refine W.eq (g2 := F0 m 2080 ls [.int (iZ u_17.1.1)]) rfl ?_
  refine lv_pop hx hb dL_law_2080 rfl ?_
  refine lv_goto (tgt := 2846) hx hb dL_law_2081 rfl ?_
  obtain ⟨hP, hD⟩ := PD.fr5 ⟨hP, hD⟩
  obtain ⟨hP, hD⟩ := PD.fr5 ⟨hP, hD⟩
  obtain ⟨hP, hD⟩ := PD.fr5 ⟨hP, hD⟩
  obtain ⟨hP, hD⟩ := PD.fr5 ⟨hP, hD⟩
  exact hk a (u9 IA 2 v_9.1.2) LA FA QA VA IB LB FB QB VB IC LC FC QC VC ID LD FD QD VD (u9 IR 0 u_17.1.2) LR FR QR VR r_8 H locs ls (show INV _ _ _ _ _ _ _ _ _ _ _ _ _ _ _ from ⟨hWI, hWI_0, hWI_1, hWI_2, hrd, htr0, htr1, htr2, htr3, hrgk, hrgt, hdrc, hev, hmk, hM, hMK, hTI, hFS, htd, hlt, rgH, rgS, rgY, hdr, hit, hmmk, heq, htq, hrel, hbf, htb, hkw, hSK, hSK0, hSK1, hSK2, hNE, hNE0, hNE1, hNE2, hLE, hYE, hQE, hLE0, hLE1, hLE2, hYE0, hYE1, hYE2⟩) rtr_8 hP hD hS (lv_sub hl [0, 1, 2, 3] rfl)
set_option maxHeartbeats 40000000 in
set_option maxRecDepth 100000 in
theorem law_c50 {p : Program} {e : Env} {s : State} {m : MethodId} {below : List Frame} {meth : Method} {c : Code} (l : Launch) {b L : Nat} {xs : Nat → Int32} {A : Nat → Prop} {D : va_G} {k : Nat → ClassId} {sa sv : Nat} {i : Int} (C : LFX p s m meth c b L xs A D k sa sv) (hi : 0 ≤ i ∧ i + 6 ≤ (L : Int)) (hk : LAT p l e s m below meth c b A D k 2846 i) : LAT p l e s m below meth c b A D k 2084 i := by
  obtain ⟨hx, hb, hr, hml, hown, hts, hKK, hX, hbl, hbA, hA, hAf, hlocks, hSY, hRR, hL⟩ := id C
  intro a IA LA FA QA VA IB LB FB QB VB IC LC FC QC VC ID LD FD QD VD IR LR FR QR VR r H locs ls hI hRT hP hD hS hl
  have hK := hKK.1
  obtain ⟨hP, hD⟩ : PD D A ((GA k a IA LA FA QA VA r) ++ ((GB k a IB LB FB QB VB r) ++ ((GC k a IC LC FC QC VC r) ++ ((GD k a ID LD FD QD VD r) ++ ((GR k a IR LR FR QR VR r) ++ (r.tl)))))) H := ⟨hP, hD⟩
  obtain ⟨hWI, hWI_0, hWI_1, hWI_2, hrd, htr0, htr1, htr2, htr3, hrgk, hrgt, hdrc, hev, hmk, hM, hMK, hTI, hFS, htd, hlt, rgH, rgS, rgY, hdr, hit, hmmk, heq, htq, hrel, hbf, htb, hkw, hSK, hSK0, hSK1, hSK2, hNE, hNE0, hNE1, hNE2, hLE, hYE, hQE, hLE0, hLE1, hLE2, hYE0, hYE1, hYE2⟩ := id hI
  obtain ⟨gw1, gw2, gw3, gw4, gw5, gw6, gw7, gw8, gw9, gw10, gw11⟩ := id hWI
  have hx0 := gw9
  have hYI := gw11
  have hpf : rgI (FR 3) (-128) 127 900 := fun e h1 h2 => by rw [← htb e h1 h2]; exact hbf e h1 h2
  obtain ⟨z1, hz1, hz1a, hz1b⟩ := i32_z (xs (iZ (i + 1)).toNatClampNeg)
  obtain ⟨z2, hz2, hz2a, hz2b⟩ := i32_z (xs (iZ (i + 2)).toNatClampNeg)
  obtain ⟨z3, hz3, hz3a, hz3b⟩ := i32_z (xs (iZ (i + 3)).toNatClampNeg)
  obtain ⟨z4, hz4, hz4a, hz4b⟩ := i32_z (xs (iZ (i + 4)).toNatClampNeg)
  obtain ⟨z5, hz5, hz5a, hz5b⟩ := i32_z (xs (iZ (i + 5)).toNatClampNeg)
  have hl : lv_has ls 4 [(3, .int (iZ i)), (2, .ref (a 106)), (1, .ref (a 0)), (0, .ref b)] := hl
  have hls := hQE.1
  replace hls : _ := hls
  refine lv_aload_n hx hb dL_law_2084 rfl (lv_at hl 2 rfl) ?_
  refine lv_aload_n hx hb dL_law_2085 rfl (lv_at hl 3 rfl) ?_
  refine lv_iload_n hx hb dL_law_2086 rfl (lv_at hl 0 rfl) ?_
  refine lv_iconst (v := iZ 1) hx hb dL_law_2087 rfl ?_
  refine lv_iadd hx hb dL_law_2088 ?_
  refine lv_topi (fun x_1 ex_1 => ?_)
  obtain rfl : x_1 = iZ (i + 1) := ex_1.trans (iZ_add i 1)
  refine va_sld hx hb hX hbl hbA hS (zi1 hi hL) dL_law_2089 ?_
  refine lv_topi (fun x_2 ex_2 => ?_)
  obtain rfl : x_2 = iZ z1 := ex_2.trans hz1
  refine lv_aload_n hx hb dL_law_2090 rfl (lv_at hl 3 rfl) ?_
  refine lv_iload_n hx hb dL_law_2091 rfl (lv_at hl 0 rfl) ?_
  refine lv_iconst (v := iZ 2) hx hb dL_law_2092 rfl ?_
  refine lv_iadd hx hb dL_law_2093 ?_
  refine lv_topi (fun x_3 ex_3 => ?_)
  obtain rfl : x_3 = iZ (i + 2) := ex_3.trans (iZ_add i 2)
  refine va_sld hx hb hX hbl hbA hS (zi2 hi hL) dL_law_2094 ?_
  refine lv_topi (fun x_4 ex_4 => ?_)
  obtain rfl : x_4 = iZ z2 := ex_4.trans hz2
  refine lv_aload_n hx hb dL_law_2095 rfl (lv_at hl 3 rfl) ?_
  refine lv_iload_n hx hb dL_law_2096 rfl (lv_at hl 0 rfl) ?_
  refine lv_iconst (v := iZ 3) hx hb dL_law_2097 rfl ?_
  refine lv_iadd hx hb dL_law_2098 ?_
  refine lv_topi (fun x_5 ex_5 => ?_)
  obtain rfl : x_5 = iZ (i + 3) := ex_5.trans (iZ_add i 3)
  refine va_sld hx hb hX hbl hbA hS (zi3 hi hL) dL_law_2099 ?_
  refine lv_topi (fun x_6 ex_6 => ?_)
  obtain rfl : x_6 = iZ z3 := ex_6.trans hz3
  obtain ⟨hP, hD⟩ := PD.mid4 ⟨hP, hD⟩
  refine CXM (mid := (GB k a IB LB FB QB VB r) ++ ((GC k a IC LC FC QC VC r) ++ ((GD k a ID LD FD QD VD r) ++ ((GR k a IR LR FR QR VR r))))) (c0 := 123) (s0 := 16705) (r := r) (As := [.int (iZ z1), .int (iZ z2), .int (iZ z3)]) (rest := []) hx hb hml hown hts hKK hP hD hS hA (p_answered l D k (a 0) (a 1) (a 2) (a 3) (a 4) (a 5) (a 6) (a 7) (a 8) (a 9) (a 10) (a 11) (IA 0) (IA 1) (IA 2) (LA 0) (LA 1) ([.ref (a 26), .ref (a 27), .ref (a 28), .int (iZ (IA 3)), .int (iZ (IA 4)), .int (iZ (IA 5)), .int (iZ (IA 6))]) (a 23) (a 27) (a 28) (a 24) (a 25) (IA 3) (IA 4) (IA 5) (FA 0) (FA 1) z1 z2 z3 r hRT rfl rfl rfl rfl rfl (by first | with_reducible assumption | omega) hx0 (by first | with_reducible assumption | omega) (by first | with_reducible assumption | omega) (by first | with_reducible assumption | omega) ⟨hz1a, hz1b⟩ ⟨hz2a, hz2b⟩ ⟨hz3a, hz3b⟩) ci_X11_answered qm_L_226 ⟨Nat.le_of_ble_eq_true rfl, Nat.le_of_ble_eq_true rfl⟩ ⟨Nat.le_of_ble_eq_true rfl, Nat.le_of_ble_eq_true rfl⟩ [0, 1, 17, 2, 6, 7] [3, 4, 5, 8, 9, 10, 11, 12, 13, 14, 15, 16, 18, 19, 20, 21, 22, 23, 24, 25] rfl rfl rfl (by decide +kernel) (by decide +kernel) (by decide +kernel) 0 rfl rfl rfl hl.1 rfl (Nat.le_of_ble_eq_true rfl) dL_law_2100 (fun u_7 H locs hφ hP hD hS => ?_)
  obtain ⟨r_8, v_9⟩ := u_7
  have rtr_8 : (RT k) (RX (FA 0) (FA 1) (IA 3) (IA 4)) r_8 := hφ
  obtain ⟨hP, hD⟩ := PD.dim4 ⟨hP, hD⟩
  obtain ⟨hP, hD⟩ := PD.by3 (is := [20, 21, 23, 0, 1, 2, 24, 25, 3, 4, 5, 6, 7, 8, 9, 10, 11, 22, 12, 13, 14, 15, 16, 17, 18, 19]) (y := (GA k a (u9 IA 2 v_9.1.2) LA FA QA VA r_8)) ⟨hP, hD⟩ (by decide +kernel) rfl rfl
  refine W.ceq (cells' := 123 + cz true r_8.b) (slots' := 16705 + sz true r_8.b) rfl rfl ?_
  refine W.eq (g2 := F0 m 2103 ls [.int (iZ v_9.1.1)]) rfl ?_
  refine lv_pop hx hb dL_law_2103 rfl ?_
  refine lv_aload_n hx hb dL_law_2104 rfl (lv_at hl 1 rfl) ?_
  refine lv_aload_n hx hb dL_law_2105 rfl (lv_at hl 3 rfl) ?_
  refine lv_iload_n hx hb dL_law_2106 rfl (lv_at hl 0 rfl) ?_
  refine lv_iconst (v := iZ 1) hx hb dL_law_2107 rfl ?_
  refine lv_iadd hx hb dL_law_2108 ?_
  refine lv_topi (fun x_10 ex_10 => ?_)
  obtain rfl : x_10 = iZ (i + 1) := ex_10.trans (iZ_add i 1)
  refine va_sld hx hb hX hbl hbA hS (zi1 hi hL) dL_law_2109 ?_
  refine lv_topi (fun x_11 ex_11 => ?_)
  obtain rfl : x_11 = iZ z1 := ex_11.trans hz1
  refine lv_aload_n hx hb dL_law_2110 rfl (lv_at hl 3 rfl) ?_
  refine lv_iload_n hx hb dL_law_2111 rfl (lv_at hl 0 rfl) ?_
  refine lv_iconst (v := iZ 2) hx hb dL_law_2112 rfl ?_
  refine lv_iadd hx hb dL_law_2113 ?_
  refine lv_topi (fun x_12 ex_12 => ?_)
  obtain rfl : x_12 = iZ (i + 2) := ex_12.trans (iZ_add i 2)
  refine va_sld hx hb hX hbl hbA hS (zi2 hi hL) dL_law_2114 ?_
  refine lv_topi (fun x_13 ex_13 => ?_)
  obtain rfl : x_13 = iZ z2 := ex_13.trans hz2
  refine lv_aload_n hx hb dL_law_2115 rfl (lv_at hl 3 rfl) ?_
  refine lv_iload_n hx hb dL_law_2116 rfl (lv_at hl 0 rfl) ?_
  refine lv_iconst (v := iZ 3) hx hb dL_law_2117 rfl ?_
  refine lv_iadd hx hb dL_law_2118 ?_
  refine lv_topi (fun x_14 ex_14 => ?_)
  obtain rfl : x_14 = iZ (i + 3) := ex_14.trans (iZ_add i 3)
  refine va_sld hx hb hX hbl hbA hS (zi3 hi hL) dL_law_2119 ?_
  refine lv_topi (fun x_15 ex_15 => ?_)
  obtain rfl : x_15 = iZ z3 := ex_15.trans hz3
  obtain ⟨hP, hD⟩ := PD.fr5 ⟨hP, hD⟩
  refine CKV2 (As := [.int (iZ z1), .int (iZ z2), .int (iZ z3)]) (rest := []) (tl := (GA k a (u9 IA 2 v_9.1.2) LA FA QA VA r_8) ++ ((GB k a IB LB FB QB VB r) ++ ((GC k a IC LC FC QC VC r) ++ ((GD k a ID LD FD QD VD r) ++ (r_8.tl))))) hx hb hml hown hts hKK hP hD hS hA (q_answered l D k (a 106) (a 107) (a 108) (a 109) (a 110) (a 111) (a 112) (a 113) (a 114) (a 115) (a 116) (a 117) (a 118) (a 119) (a 120) (a 121) (a 122) (IR 0) (IR 1) (IR 2) (IR 3) (IR 4) (IR 5) (IR 6) (IR 7) (IR 8) (IR 9) (IR 10) (IR 11) (IR 12) (IR 13) (IR 14) (IR 15) (IR 16) (IR 17) (LR 0) (LR 1) (FR 0) z1 z2 z3 hM ⟨hz1a, hz1b⟩ ⟨hz2a, hz2b⟩ ⟨hz3a, hz3b⟩) ci_X12_answered qm_L_229 ⟨Nat.le_of_ble_eq_true rfl, Nat.le_of_ble_eq_true rfl⟩ (lroom _) [0, 1] [2, 3, 4, 5, 6, 7, 8, 9, 10, 11, 12, 13, 14, 15, 16] rfl rfl rfl (by decide +kernel) (by decide +kernel) (by decide +kernel) 0 rfl rfl rfl hl.1 rfl (Nat.le_of_ble_eq_true rfl) dL_law_2120 (fun u_16 H locs hφ hP hD hS => ?_)
  obtain ⟨hP, hD⟩ := PD.by3 (is := [15, 16, 0, 1, 2, 3, 4, 5, 6, 7, 8, 9, 10, 11, 12, 13, 14]) (y := (GR k a (u9 IR 0 u_16.1.2) LR FR QR VR r_8)) ⟨hP, hD⟩ (by decide +kernel) rfl rfl
  refine W.eq (g2 := F0 m 2123 ls [.int (iZ u_16.1.1)]) rfl ?_
  refine lv_pop hx hb dL_law_2123 rfl ?_
  refine lv_goto (tgt := 2846) hx hb dL_law_2124 rfl ?_
  obtain ⟨hP, hD⟩ := PD.fr5 ⟨hP, hD⟩
  obtain ⟨hP, hD⟩ := PD.fr5 ⟨hP, hD⟩
  obtain ⟨hP, hD⟩ := PD.fr5 ⟨hP, hD⟩
  obtain ⟨hP, hD⟩ := PD.fr5 ⟨hP, hD⟩
  exact hk a (u9 IA 2 v_9.1.2) LA FA QA VA IB LB FB QB VB IC LC FC QC VC ID LD FD QD VD (u9 IR 0 u_16.1.2) LR FR QR VR r_8 H locs ls (show INV _ _ _ _ _ _ _ _ _ _ _ _ _ _ _ from ⟨hWI, hWI_0, hWI_1, hWI_2, hrd, htr0, htr1, htr2, htr3, hrgk, hrgt, hdrc, hev, hmk, hM, hMK, hTI, hFS, htd, hlt, rgH, rgS, rgY, hdr, hit, hmmk, heq, htq, hrel, hbf, htb, hkw, hSK, hSK0, hSK1, hSK2, hNE, hNE0, hNE1, hNE2, hLE, hYE, hQE, hLE0, hLE1, hLE2, hYE0, hYE1, hYE2⟩) rtr_8 hP hD hS (lv_sub hl [0, 1, 2, 3] rfl)
set_option maxHeartbeats 40000000 in
set_option maxRecDepth 100000 in
theorem law_c51 {p : Program} {e : Env} {s : State} {m : MethodId} {below : List Frame} {meth : Method} {c : Code} (l : Launch) {b L : Nat} {xs : Nat → Int32} {A : Nat → Prop} {D : va_G} {k : Nat → ClassId} {sa sv : Nat} {i : Int} (C : LFX p s m meth c b L xs A D k sa sv) (hi : 0 ≤ i ∧ i + 6 ≤ (L : Int)) (hk : LAT p l e s m below meth c b A D k 2846 i) : LAT p l e s m below meth c b A D k 2127 i := by
  obtain ⟨hx, hb, hr, hml, hown, hts, hKK, hX, hbl, hbA, hA, hAf, hlocks, hSY, hRR, hL⟩ := id C
  intro a IA LA FA QA VA IB LB FB QB VB IC LC FC QC VC ID LD FD QD VD IR LR FR QR VR r H locs ls hI hRT hP hD hS hl
  have hK := hKK.1
  obtain ⟨hP, hD⟩ : PD D A ((GA k a IA LA FA QA VA r) ++ ((GB k a IB LB FB QB VB r) ++ ((GC k a IC LC FC QC VC r) ++ ((GD k a ID LD FD QD VD r) ++ ((GR k a IR LR FR QR VR r) ++ (r.tl)))))) H := ⟨hP, hD⟩
  obtain ⟨hWI, hWI_0, hWI_1, hWI_2, hrd, htr0, htr1, htr2, htr3, hrgk, hrgt, hdrc, hev, hmk, hM, hMK, hTI, hFS, htd, hlt, rgH, rgS, rgY, hdr, hit, hmmk, heq, htq, hrel, hbf, htb, hkw, hSK, hSK0, hSK1, hSK2, hNE, hNE0, hNE1, hNE2, hLE, hYE, hQE, hLE0, hLE1, hLE2, hYE0, hYE1, hYE2⟩ := id hI
  obtain ⟨gw1, gw2, gw3, gw4, gw5, gw6, gw7, gw8, gw9, gw10, gw11⟩ := id hWI
  have hx0 := gw9
  have hYI := gw11
  have hpf : rgI (FR 3) (-128) 127 900 := fun e h1 h2 => by rw [← htb e h1 h2]; exact hbf e h1 h2
  obtain ⟨z1, hz1, hz1a, hz1b⟩ := i32_z (xs (iZ (i + 1)).toNatClampNeg)
  obtain ⟨z2, hz2, hz2a, hz2b⟩ := i32_z (xs (iZ (i + 2)).toNatClampNeg)
  obtain ⟨z3, hz3, hz3a, hz3b⟩ := i32_z (xs (iZ (i + 3)).toNatClampNeg)
  obtain ⟨z4, hz4, hz4a, hz4b⟩ := i32_z (xs (iZ (i + 4)).toNatClampNeg)
  obtain ⟨z5, hz5, hz5a, hz5b⟩ := i32_z (xs (iZ (i + 5)).toNatClampNeg)
  have hl : lv_has ls 4 [(3, .int (iZ i)), (2, .ref (a 106)), (1, .ref (a 0)), (0, .ref b)] := hl
  have hls := hQE.1
  replace hls : _ := hls
  refine lv_aload_n hx hb dL_law_2127 rfl (lv_at hl 2 rfl) ?_
  refine lv_aload_n hx hb dL_law_2128 rfl (lv_at hl 3 rfl) ?_
  refine lv_iload_n hx hb dL_law_2129 rfl (lv_at hl 0 rfl) ?_
  refine lv_iconst (v := iZ 1) hx hb dL_law_2130 rfl ?_
  refine lv_iadd hx hb dL_law_2131 ?_
  refine lv_topi (fun x_1 ex_1 => ?_)
  obtain rfl : x_1 = iZ (i + 1) := ex_1.trans (iZ_add i 1)
  refine va_sld hx hb hX hbl hbA hS (zi1 hi hL) dL_law_2132 ?_
  refine lv_topi (fun x_2 ex_2 => ?_)
  obtain rfl : x_2 = iZ z1 := ex_2.trans hz1
  refine lv_aload_n hx hb dL_law_2133 rfl (lv_at hl 3 rfl) ?_
  refine lv_iload_n hx hb dL_law_2134 rfl (lv_at hl 0 rfl) ?_
  refine lv_iconst (v := iZ 2) hx hb dL_law_2135 rfl ?_
  refine lv_iadd hx hb dL_law_2136 ?_
  refine lv_topi (fun x_3 ex_3 => ?_)
  obtain rfl : x_3 = iZ (i + 2) := ex_3.trans (iZ_add i 2)
  refine va_sld hx hb hX hbl hbA hS (zi2 hi hL) dL_law_2137 ?_
  refine lv_topi (fun x_4 ex_4 => ?_)
  obtain rfl : x_4 = iZ z2 := ex_4.trans hz2
  refine CKV2 (As := [.int (iZ z1), .int (iZ z2)]) (rest := []) (tl := (GB k a IB LB FB QB VB r) ++ ((GC k a IC LC FC QC VC r) ++ ((GD k a ID LD FD QD VD r) ++ ((GR k a IR LR FR QR VR r) ++ (r.tl))))) hx hb hml hown hts hKK hP hD hS hA (p_joint l D k (a 0) (a 1) (a 2) (a 3) (a 4) (a 5) (a 6) (a 7) (a 8) (a 9) (a 10) (a 11) (IA 0) (IA 1) (IA 2) (LA 0) (LA 1) ([.ref (a 26), .ref (a 27), .ref (a 28), .int (iZ (IA 3)), .int (iZ (IA 4)), .int (iZ (IA 5)), .int (iZ (IA 6))]) (a 23) (a 27) (a 28) (a 24) (a 25) (IA 3) (IA 4) (IA 5) (FA 0) (FA 1) (a 29) (a 30) (a 31) (a 32) (IA 7) (IA 8) (FA 2) (FA 3) (FA 4) (FA 5) z1 z2 rfl rfl rfl rfl rfl (by first | with_reducible assumption | omega) hx0 (by first | with_reducible assumption | omega) (by first | with_reducible assumption | omega) (by first | with_reducible assumption | omega) (by first | with_reducible assumption | omega) (by first | with_reducible assumption | omega) gw10 ⟨hz1a, hz1b⟩ ⟨hz2a, hz2b⟩) ci_X11_joint qm_L_230 ⟨Nat.le_of_ble_eq_true rfl, Nat.le_of_ble_eq_true rfl⟩ (lroom _) [0, 1, 3, 8, 9, 10, 11, 2, 6, 7] [4, 5, 12, 13, 14, 15, 16, 17, 18, 19, 20, 21, 22, 23, 24, 25] rfl rfl rfl (by decide +kernel) (by decide +kernel) (by decide +kernel) 0 rfl rfl rfl hl.1 rfl (Nat.le_of_ble_eq_true rfl) dL_law_2138 (fun u_5 H locs hφ hP hD hS => ?_)
  obtain ⟨hP, hD⟩ := PD.by3 (is := [16, 17, 23, 18, 0, 1, 24, 25, 19, 20, 21, 22, 2, 3, 4, 5, 6, 7, 8, 9, 10, 11, 12, 13, 14, 15]) (y := (GA k a (u9 IA 2 u_5.1.2) LA FA QA VA r)) ⟨hP, hD⟩ (by decide +kernel) rfl rfl
  refine W.eq (g2 := F0 m 2141 ls [.int (iZ u_5.1.1)]) rfl ?_
  refine lv_pop hx hb dL_law_2141 rfl ?_
  refine lv_aload_n hx hb dL_law_2142 rfl (lv_at hl 1 rfl) ?_
  refine lv_aload_n hx hb dL_law_2143 rfl (lv_at hl 3 rfl) ?_
  refine lv_iload_n hx hb dL_law_2144 rfl (lv_at hl 0 rfl) ?_
  refine lv_iconst (v := iZ 1) hx hb dL_law_2145 rfl ?_
  refine lv_iadd hx hb dL_law_2146 ?_
  refine lv_topi (fun x_6 ex_6 => ?_)
  obtain rfl : x_6 = iZ (i + 1) := ex_6.trans (iZ_add i 1)
  refine va_sld hx hb hX hbl hbA hS (zi1 hi hL) dL_law_2147 ?_
  refine lv_topi (fun x_7 ex_7 => ?_)
  obtain rfl : x_7 = iZ z1 := ex_7.trans hz1
  refine lv_aload_n hx hb dL_law_2148 rfl (lv_at hl 3 rfl) ?_
  refine lv_iload_n hx hb dL_law_2149 rfl (lv_at hl 0 rfl) ?_
  refine lv_iconst (v := iZ 2) hx hb dL_law_2150 rfl ?_
  refine lv_iadd hx hb dL_law_2151 ?_
  refine lv_topi (fun x_8 ex_8 => ?_)
  obtain rfl : x_8 = iZ (i + 2) := ex_8.trans (iZ_add i 2)
  refine va_sld hx hb hX hbl hbA hS (zi2 hi hL) dL_law_2152 ?_
  refine lv_topi (fun x_9 ex_9 => ?_)
  obtain rfl : x_9 = iZ z2 := ex_9.trans hz2
  obtain ⟨hP, hD⟩ := PD.fr5 ⟨hP, hD⟩
  refine CKV2 (As := [.int (iZ z1), .int (iZ z2)]) (rest := []) (tl := (GA k a (u9 IA 2 u_5.1.2) LA FA QA VA r) ++ ((GB k a IB LB FB QB VB r) ++ ((GC k a IC LC FC QC VC r) ++ ((GD k a ID LD FD QD VD r) ++ (r.tl))))) hx hb hml hown hts hKK hP hD hS hA (q_joint l D k (a 106) (a 107) (a 108) (a 109) (a 110) (a 111) (a 112) (a 113) (a 114) (a 115) (a 116) (a 117) (a 118) (a 119) (a 120) (a 121) (a 122) (IR 0) (IR 1) (IR 2) (IR 3) (IR 4) (IR 5) (IR 6) (IR 7) (IR 8) (IR 9) (IR 10) (IR 11) (IR 12) (IR 13) (IR 14) (IR 15) (IR 16) (IR 17) (LR 0) (LR 1) (FR 0) (FR 6) (FR 7) (FR 8) (FR 9) z1 z2 hM rgH ⟨hz1a, hz1b⟩ ⟨hz2a, hz2b⟩) ci_X12_joint qm_L_233 ⟨Nat.le_of_ble_eq_true rfl, Nat.le_of_ble_eq_true rfl⟩ (lroom _) [0, 1, 9, 10, 11, 12] [2, 3, 4, 5, 6, 7, 8, 13, 14, 15, 16] rfl rfl rfl (by decide +kernel) (by decide +kernel) (by decide +kernel) 0 rfl rfl rfl hl.1 rfl (Nat.le_of_ble_eq_true rfl) dL_law_2153 (fun u_10 H locs hφ hP hD hS => ?_)
  have p_11 : rgI u_10.2.2.1.2.2.2 0 1000000 120 := hφ
  obtain ⟨hP, hD⟩ := PD.by3 (is := [11, 12, 0, 1, 2, 3, 4, 5, 6, 13, 14, 15, 16, 7, 8, 9, 10]) (y := (GR k a (u9 IR 0 u_10.1.2) LR (u9 (u9 (u9 (u9 FR 6 u_10.2.2.1.1) 7 u_10.2.2.1.2.1) 8 u_10.2.2.1.2.2.1) 9 u_10.2.2.1.2.2.2) QR VR r)) ⟨hP, hD⟩ (by decide +kernel) rfl rfl
  refine W.eq (g2 := F0 m 2156 ls [.int (iZ u_10.1.1)]) rfl ?_
  refine lv_pop hx hb dL_law_2156 rfl ?_
  refine lv_goto (tgt := 2846) hx hb dL_law_2157 rfl ?_
  obtain ⟨hP, hD⟩ := PD.fr5 ⟨hP, hD⟩
  obtain ⟨hP, hD⟩ := PD.fr5 ⟨hP, hD⟩
  obtain ⟨hP, hD⟩ := PD.fr5 ⟨hP, hD⟩
  obtain ⟨hP, hD⟩ := PD.fr5 ⟨hP, hD⟩
  exact hk a (u9 IA 2 u_5.1.2) LA FA QA VA IB LB FB QB VB IC LC FC QC VC ID LD FD QD VD (u9 IR 0 u_10.1.2) LR (u9 (u9 (u9 (u9 FR 6 u_10.2.2.1.1) 7 u_10.2.2.1.2.1) 8 u_10.2.2.1.2.2.1) 9 u_10.2.2.1.2.2.2) QR VR r H locs ls (show INV _ _ _ _ _ _ _ _ _ _ _ _ _ _ _ from ⟨hWI, hWI_0, hWI_1, hWI_2, hrd, htr0, htr1, htr2, htr3, hrgk, hrgt, hdrc, hev, hmk, hM, hMK, hTI, hFS, htd, hlt, (show rgI u_10.2.2.1.2.2.2 0 1000000 120 from (by assumption)), rgS, rgY, hdr, hit, hmmk, heq, htq, hrel, hbf, htb, hkw, hSK, hSK0, hSK1, hSK2, hNE, hNE0, hNE1, hNE2, hLE, hYE, hQE, hLE0, hLE1, hLE2, hYE0, hYE1, hYE2⟩) hRT hP hD hS (lv_sub hl [0, 1, 2, 3] rfl)
set_option maxHeartbeats 40000000 in
set_option maxRecDepth 100000 in
theorem law_c52 {p : Program} {e : Env} {s : State} {m : MethodId} {below : List Frame} {meth : Method} {c : Code} (l : Launch) {b L : Nat} {xs : Nat → Int32} {A : Nat → Prop} {D : va_G} {k : Nat → ClassId} {sa sv : Nat} {i : Int} (C : LFX p s m meth c b L xs A D k sa sv) (hi : 0 ≤ i ∧ i + 6 ≤ (L : Int)) (hk : LAT p l e s m below meth c b A D k 2846 i) : LAT p l e s m below meth c b A D k 2160 i := by
  obtain ⟨hx, hb, hr, hml, hown, hts, hKK, hX, hbl, hbA, hA, hAf, hlocks, hSY, hRR, hL⟩ := id C
  intro a IA LA FA QA VA IB LB FB QB VB IC LC FC QC VC ID LD FD QD VD IR LR FR QR VR r H locs ls hI hRT hP hD hS hl
  have hK := hKK.1
  obtain ⟨hP, hD⟩ : PD D A ((GA k a IA LA FA QA VA r) ++ ((GB k a IB LB FB QB VB r) ++ ((GC k a IC LC FC QC VC r) ++ ((GD k a ID LD FD QD VD r) ++ ((GR k a IR LR FR QR VR r) ++ (r.tl)))))) H := ⟨hP, hD⟩
  obtain ⟨hWI, hWI_0, hWI_1, hWI_2, hrd, htr0, htr1, htr2, htr3, hrgk, hrgt, hdrc, hev, hmk, hM, hMK, hTI, hFS, htd, hlt, rgH, rgS, rgY, hdr, hit, hmmk, heq, htq, hrel, hbf, htb, hkw, hSK, hSK0, hSK1, hSK2, hNE, hNE0, hNE1, hNE2, hLE, hYE, hQE, hLE0, hLE1, hLE2, hYE0, hYE1, hYE2⟩ := id hI
  obtain ⟨gw1, gw2, gw3, gw4, gw5, gw6, gw7, gw8, gw9, gw10, gw11⟩ := id hWI
  have hx0 := gw9
  have hYI := gw11
  have hpf : rgI (FR 3) (-128) 127 900 := fun e h1 h2 => by rw [← htb e h1 h2]; exact hbf e h1 h2
  obtain ⟨z1, hz1, hz1a, hz1b⟩ := i32_z (xs (iZ (i + 1)).toNatClampNeg)
  obtain ⟨z2, hz2, hz2a, hz2b⟩ := i32_z (xs (iZ (i + 2)).toNatClampNeg)
  obtain ⟨z3, hz3, hz3a, hz3b⟩ := i32_z (xs (iZ (i + 3)).toNatClampNeg)
  obtain ⟨z4, hz4, hz4a, hz4b⟩ := i32_z (xs (iZ (i + 4)).toNatClampNeg)
  obtain ⟨z5, hz5, hz5a, hz5b⟩ := i32_z (xs (iZ (i + 5)).toNatClampNeg)
  have hl : lv_has ls 4 [(3, .int (iZ i)), (2, .ref (a 106)), (1, .ref (a 0)), (0, .ref b)] := hl
  have hls := hQE.1
  replace hls : _ := hls
  refine lv_aload_n hx hb dL_law_2160 rfl (lv_at hl 2 rfl) ?_
  refine lv_aload_n hx hb dL_law_2161 rfl (lv_at hl 3 rfl) ?_
  refine lv_iload_n hx hb dL_law_2162 rfl (lv_at hl 0 rfl) ?_
  refine lv_iconst (v := iZ 1) hx hb dL_law_2163 rfl ?_
  refine lv_iadd hx hb dL_law_2164 ?_
  refine lv_topi (fun x_1 ex_1 => ?_)
  obtain rfl : x_1 = iZ (i + 1) := ex_1.trans (iZ_add i 1)
  refine va_sld hx hb hX hbl hbA hS (zi1 hi hL) dL_law_2165 ?_
  refine lv_topi (fun x_2 ex_2 => ?_)
  obtain rfl : x_2 = iZ z1 := ex_2.trans hz1
  refine lv_aload_n hx hb dL_law_2166 rfl (lv_at hl 3 rfl) ?_
  refine lv_iload_n hx hb dL_law_2167 rfl (lv_at hl 0 rfl) ?_
  refine lv_iconst (v := iZ 2) hx hb dL_law_2168 rfl ?_
  refine lv_iadd hx hb dL_law_2169 ?_
  refine lv_topi (fun x_3 ex_3 => ?_)
  obtain rfl : x_3 = iZ (i + 2) := ex_3.trans (iZ_add i 2)
  refine va_sld hx hb hX hbl hbA hS (zi2 hi hL) dL_law_2170 ?_
  refine lv_topi (fun x_4 ex_4 => ?_)
  obtain rfl : x_4 = iZ z2 := ex_4.trans hz2
  obtain ⟨hP, hD⟩ := PD.mid4 ⟨hP, hD⟩
  refine CXM (mid := (GB k a IB LB FB QB VB r) ++ ((GC k a IC LC FC QC VC r) ++ ((GD k a ID LD FD QD VD r) ++ ((GR k a IR LR FR QR VR r))))) (c0 := 123) (s0 := 16705) (r := r) (As := [.int (iZ z1), .int (iZ z2)]) (rest := []) hx hb hml hown hts hKK hP hD hS hA (p_confirmed l D k (a 0) (a 1) (a 2) (a 3) (a 4) (a 5) (a 6) (a 7) (a 8) (a 9) (a 10) (a 11) (IA 0) (IA 1) (IA 2) (LA 0) (LA 1) ([.ref (a 26), .ref (a 27), .ref (a 28), .int (iZ (IA 3)), .int (iZ (IA 4)), .int (iZ (IA 5)), .int (iZ (IA 6))]) (a 23) (a 27) (a 28) (a 24) (a 25) (IA 3) (IA 4) (IA 5) (FA 0) (FA 1) (a 29) (a 30) (a 31) (a 32) (IA 7) (IA 8) (FA 2) (FA 3) (FA 4) (FA 5) z1 z2 r hRT rfl rfl rfl rfl rfl (by first | with_reducible assumption | omega) hx0 (by first | with_reducible assumption | omega) (by first | with_reducible assumption | omega) (by first | with_reducible assumption | omega) (by first | with_reducible assumption | omega) (by first | with_reducible assumption | omega) gw10 ⟨hz1a, hz1b⟩ ⟨hz2a, hz2b⟩) ci_X11_confirmed qm_L_234 ⟨Nat.le_of_ble_eq_true rfl, Nat.le_of_ble_eq_true rfl⟩ ⟨Nat.le_of_ble_eq_true rfl, Nat.le_of_ble_eq_true rfl⟩ [0, 1, 3, 8, 9, 10, 11, 17, 2, 6, 7] [4, 5, 12, 13, 14, 15, 16, 18, 19, 20, 21, 22, 23, 24, 25] rfl rfl rfl (by decide +kernel) (by decide +kernel) (by decide +kernel) 0 rfl rfl rfl hl.1 rfl (Nat.le_of_ble_eq_true rfl) dL_law_2171 (fun u_5 H locs hφ hP hD hS => ?_)
  obtain ⟨r_6, v_7⟩ := u_5
  have rtr_6 : (RT k) (RX (FA 0) (FA 1) (IA 3) (IA 4)) r_6 := hφ
  obtain ⟨hP, hD⟩ := PD.dim4 ⟨hP, hD⟩
  obtain ⟨hP, hD⟩ := PD.by3 (is := [15, 16, 23, 17, 0, 1, 24, 25, 18, 19, 20, 21, 2, 3, 4, 5, 6, 22, 7, 8, 9, 10, 11, 12, 13, 14]) (y := (GA k a (u9 IA 2 v_7.1.2) LA FA QA VA r_6)) ⟨hP, hD⟩ (by decide +kernel) rfl rfl
  refine W.ceq (cells' := 123 + cz true r_6.b) (slots' := 16705 + sz true r_6.b) rfl rfl ?_
  refine W.eq (g2 := F0 m 2174 ls [.int (iZ v_7.1.1)]) rfl ?_
  refine lv_pop hx hb dL_law_2174 rfl ?_
  refine lv_aload_n hx hb dL_law_2175 rfl (lv_at hl 1 rfl) ?_
  refine lv_aload_n hx hb dL_law_2176 rfl (lv_at hl 3 rfl) ?_
  refine lv_iload_n hx hb dL_law_2177 rfl (lv_at hl 0 rfl) ?_
  refine lv_iconst (v := iZ 1) hx hb dL_law_2178 rfl ?_
  refine lv_iadd hx hb dL_law_2179 ?_
  refine lv_topi (fun x_8 ex_8 => ?_)
  obtain rfl : x_8 = iZ (i + 1) := ex_8.trans (iZ_add i 1)
  refine va_sld hx hb hX hbl hbA hS (zi1 hi hL) dL_law_2180 ?_
  refine lv_topi (fun x_9 ex_9 => ?_)
  obtain rfl : x_9 = iZ z1 := ex_9.trans hz1
  refine lv_aload_n hx hb dL_law_2181 rfl (lv_at hl 3 rfl) ?_
  refine lv_iload_n hx hb dL_law_2182 rfl (lv_at hl 0 rfl) ?_
  refine lv_iconst (v := iZ 2) hx hb dL_law_2183 rfl ?_
  refine lv_iadd hx hb dL_law_2184 ?_
  refine lv_topi (fun x_10 ex_10 => ?_)
  obtain rfl : x_10 = iZ (i + 2) := ex_10.trans (iZ_add i 2)
  refine va_sld hx hb hX hbl hbA hS (zi2 hi hL) dL_law_2185 ?_
  refine lv_topi (fun x_11 ex_11 => ?_)
  obtain rfl : x_11 = iZ z2 := ex_11.trans hz2
  obtain ⟨hP, hD⟩ := PD.fr5 ⟨hP, hD⟩
  refine CKV2 (As := [.int (iZ z1), .int (iZ z2)]) (rest := []) (tl := (GA k a (u9 IA 2 v_7.1.2) LA FA QA VA r_6) ++ ((GB k a IB LB FB QB VB r) ++ ((GC k a IC LC FC QC VC r) ++ ((GD k a ID LD FD QD VD r) ++ (r_6.tl))))) hx hb hml hown hts hKK hP hD hS hA (q_confirmed l D k (a 106) (a 107) (a 108) (a 109) (a 110) (a 111) (a 112) (a 113) (a 114) (a 115) (a 116) (a 117) (a 118) (a 119) (a 120) (a 121) (a 122) (IR 0) (IR 1) (IR 2) (IR 3) (IR 4) (IR 5) (IR 6) (IR 7) (IR 8) (IR 9) (IR 10) (IR 11) (IR 12) (IR 13) (IR 14) (IR 15) (IR 16) (IR 17) (LR 0) (LR 1) (FR 0) (FR 6) (FR 7) (FR 8) (FR 9) z1 z2 hM rgH ⟨hz1a, hz1b⟩ ⟨hz2a, hz2b⟩) ci_X12_confirmed qm_L_237 ⟨Nat.le_of_ble_eq_true rfl, Nat.le_of_ble_eq_true rfl⟩ (lroom _) [0, 1, 9, 10, 11, 12] [2, 3, 4, 5, 6, 7, 8, 13, 14, 15, 16] rfl rfl rfl (by decide +kernel) (by decide +kernel) (by decide +kernel) 0 rfl rfl rfl hl.1 rfl (Nat.le_of_ble_eq_true rfl) dL_law_2186 (fun u_12 H locs hφ hP hD hS => ?_)
  have p_13 : rgI u_12.2.2.1.2.2.2 0 1000000 120 := hφ
  obtain ⟨hP, hD⟩ := PD.by3 (is := [11, 12, 0, 1, 2, 3, 4, 5, 6, 13, 14, 15, 16, 7, 8, 9, 10]) (y := (GR k a (u9 IR 0 u_12.1.2) LR (u9 (u9 (u9 (u9 FR 6 u_12.2.2.1.1) 7 u_12.2.2.1.2.1) 8 u_12.2.2.1.2.2.1) 9 u_12.2.2.1.2.2.2) QR VR r_6)) ⟨hP, hD⟩ (by decide +kernel) rfl rfl
  refine W.eq (g2 := F0 m 2189 ls [.int (iZ u_12.1.1)]) rfl ?_
  refine lv_pop hx hb dL_law_2189 rfl ?_
  refine lv_goto (tgt := 2846) hx hb dL_law_2190 rfl ?_
  obtain ⟨hP, hD⟩ := PD.fr5 ⟨hP, hD⟩
  obtain ⟨hP, hD⟩ := PD.fr5 ⟨hP, hD⟩
  obtain ⟨hP, hD⟩ := PD.fr5 ⟨hP, hD⟩
  obtain ⟨hP, hD⟩ := PD.fr5 ⟨hP, hD⟩
  exact hk a (u9 IA 2 v_7.1.2) LA FA QA VA IB LB FB QB VB IC LC FC QC VC ID LD FD QD VD (u9 IR 0 u_12.1.2) LR (u9 (u9 (u9 (u9 FR 6 u_12.2.2.1.1) 7 u_12.2.2.1.2.1) 8 u_12.2.2.1.2.2.1) 9 u_12.2.2.1.2.2.2) QR VR r_6 H locs ls (show INV _ _ _ _ _ _ _ _ _ _ _ _ _ _ _ from ⟨hWI, hWI_0, hWI_1, hWI_2, hrd, htr0, htr1, htr2, htr3, hrgk, hrgt, hdrc, hev, hmk, hM, hMK, hTI, hFS, htd, hlt, (show rgI u_12.2.2.1.2.2.2 0 1000000 120 from (by assumption)), rgS, rgY, hdr, hit, hmmk, heq, htq, hrel, hbf, htb, hkw, hSK, hSK0, hSK1, hSK2, hNE, hNE0, hNE1, hNE2, hLE, hYE, hQE, hLE0, hLE1, hLE2, hYE0, hYE1, hYE2⟩) rtr_6 hP hD hS (lv_sub hl [0, 1, 2, 3] rfl)
set_option maxHeartbeats 40000000 in
set_option maxRecDepth 100000 in
theorem law_c53 {p : Program} {e : Env} {s : State} {m : MethodId} {below : List Frame} {meth : Method} {c : Code} (l : Launch) {b L : Nat} {xs : Nat → Int32} {A : Nat → Prop} {D : va_G} {k : Nat → ClassId} {sa sv : Nat} {i : Int} (C : LFX p s m meth c b L xs A D k sa sv) (hi : 0 ≤ i ∧ i + 6 ≤ (L : Int)) (hk : LAT p l e s m below meth c b A D k 2846 i) : LAT p l e s m below meth c b A D k 2193 i := by
  obtain ⟨hx, hb, hr, hml, hown, hts, hKK, hX, hbl, hbA, hA, hAf, hlocks, hSY, hRR, hL⟩ := id C
  intro a IA LA FA QA VA IB LB FB QB VB IC LC FC QC VC ID LD FD QD VD IR LR FR QR VR r H locs ls hI hRT hP hD hS hl
  have hK := hKK.1
  obtain ⟨hP, hD⟩ : PD D A ((GA k a IA LA FA QA VA r) ++ ((GB k a IB LB FB QB VB r) ++ ((GC k a IC LC FC QC VC r) ++ ((GD k a ID LD FD QD VD r) ++ ((GR k a IR LR FR QR VR r) ++ (r.tl)))))) H := ⟨hP, hD⟩
  obtain ⟨hWI, hWI_0, hWI_1, hWI_2, hrd, htr0, htr1, htr2, htr3, hrgk, hrgt, hdrc, hev, hmk, hM, hMK, hTI, hFS, htd, hlt, rgH, rgS, rgY, hdr, hit, hmmk, heq, htq, hrel, hbf, htb, hkw, hSK, hSK0, hSK1, hSK2, hNE, hNE0, hNE1, hNE2, hLE, hYE, hQE, hLE0, hLE1, hLE2, hYE0, hYE1, hYE2⟩ := id hI
  obtain ⟨gw1, gw2, gw3, gw4, gw5, gw6, gw7, gw8, gw9, gw10, gw11⟩ := id hWI
  have hx0 := gw9
  have hYI := gw11
  have hpf : rgI (FR 3) (-128) 127 900 := fun e h1 h2 => by rw [← htb e h1 h2]; exact hbf e h1 h2
  obtain ⟨z1, hz1, hz1a, hz1b⟩ := i32_z (xs (iZ (i + 1)).toNatClampNeg)
  obtain ⟨z2, hz2, hz2a, hz2b⟩ := i32_z (xs (iZ (i + 2)).toNatClampNeg)
  obtain ⟨z3, hz3, hz3a, hz3b⟩ := i32_z (xs (iZ (i + 3)).toNatClampNeg)
  obtain ⟨z4, hz4, hz4a, hz4b⟩ := i32_z (xs (iZ (i + 4)).toNatClampNeg)
  obtain ⟨z5, hz5, hz5a, hz5b⟩ := i32_z (xs (iZ (i + 5)).toNatClampNeg)
  have hl : lv_has ls 4 [(3, .int (iZ i)), (2, .ref (a 106)), (1, .ref (a 0)), (0, .ref b)] := hl
  have hls := hQE.1
  replace hls : _ := hls
  refine lv_aload_n hx hb dL_law_2193 rfl (lv_at hl 2 rfl) ?_
  refine lv_aload_n hx hb dL_law_2194 rfl (lv_at hl 3 rfl) ?_
  refine lv_iload_n hx hb dL_law_2195 rfl (lv_at hl 0 rfl) ?_
  refine lv_iconst (v := iZ 1) hx hb dL_law_2196 rfl ?_
  refine lv_iadd hx hb dL_law_2197 ?_
  refine lv_topi (fun x_1 ex_1 => ?_)
  obtain rfl : x_1 = iZ (i + 1) := ex_1.trans (iZ_add i 1)
  refine va_sld hx hb hX hbl hbA hS (zi1 hi hL) dL_law_2198 ?_
  refine lv_topi (fun x_2 ex_2 => ?_)
  obtain rfl : x_2 = iZ z1 := ex_2.trans hz1
  refine lv_aload_n hx hb dL_law_2199 rfl (lv_at hl 3 rfl) ?_
  refine lv_iload_n hx hb dL_law_2200 rfl (lv_at hl 0 rfl) ?_
  refine lv_iconst (v := iZ 2) hx hb dL_law_2201 rfl ?_
  refine lv_iadd hx hb dL_law_2202 ?_
  refine lv_topi (fun x_3 ex_3 => ?_)
  obtain rfl : x_3 = iZ (i + 2) := ex_3.trans (iZ_add i 2)
  refine va_sld hx hb hX hbl hbA hS (zi2 hi hL) dL_law_2203 ?_
  refine lv_topi (fun x_4 ex_4 => ?_)
  obtain rfl : x_4 = iZ z2 := ex_4.trans hz2
  refine lv_aload_n hx hb dL_law_2204 rfl (lv_at hl 3 rfl) ?_
  refine lv_iload_n hx hb dL_law_2205 rfl (lv_at hl 0 rfl) ?_
  refine lv_iconst (v := iZ 3) hx hb dL_law_2206 rfl ?_
  refine lv_iadd hx hb dL_law_2207 ?_
  refine lv_topi (fun x_5 ex_5 => ?_)
  obtain rfl : x_5 = iZ (i + 3) := ex_5.trans (iZ_add i 3)
  refine va_sld hx hb hX hbl hbA hS (zi3 hi hL) dL_law_2208 ?_
  refine lv_topi (fun x_6 ex_6 => ?_)
  obtain rfl : x_6 = iZ z3 := ex_6.trans hz3
  obtain ⟨hP, hD⟩ := PD.mid4 ⟨hP, hD⟩
  refine CXM (mid := (GB k a IB LB FB QB VB r) ++ ((GC k a IC LC FC QC VC r) ++ ((GD k a ID LD FD QD VD r) ++ ((GR k a IR LR FR QR VR r))))) (c0 := 123) (s0 := 16705) (r := r) (As := [.int (iZ z1), .int (iZ z2), .int (iZ z3)]) (rest := []) hx hb hml hown hts hKK hP hD hS hA (p_sure l D k (a 0) (a 1) (a 2) (a 3) (a 4) (a 5) (a 6) (a 7) (a 8) (a 9) (a 10) (a 11) (IA 0) (IA 1) (IA 2) (LA 0) (LA 1) ([.ref (a 26), .ref (a 27), .ref (a 28), .int (iZ (IA 3)), .int (iZ (IA 4)), .int (iZ (IA 5)), .int (iZ (IA 6))]) (a 23) (a 27) (a 28) (a 24) (a 25) (IA 3) (IA 4) (IA 5) (FA 0) (FA 1) (a 29) (a 30) (a 31) (a 32) (IA 7) (IA 8) (FA 2) (FA 3) (FA 4) (FA 5) z1 z2 z3 r hRT rfl rfl rfl rfl rfl (by first | with_reducible assumption | omega) hx0 (by first | with_reducible assumption | omega) (by first | with_reducible assumption | omega) (by first | with_reducible assumption | omega) (by first | with_reducible assumption | omega) (by first | with_reducible assumption | omega) gw10 ⟨hz1a, hz1b⟩ ⟨hz2a, hz2b⟩ ⟨hz3a, hz3b⟩) ci_X11_sure qm_L_238 ⟨Nat.le_of_ble_eq_true rfl, Nat.le_of_ble_eq_true rfl⟩ ⟨Nat.le_of_ble_eq_true rfl, Nat.le_of_ble_eq_true rfl⟩ [0, 1, 3, 8, 9, 10, 11, 17, 2, 6, 7] [4, 5, 12, 13, 14, 15, 16, 18, 19, 20, 21, 22, 23, 24, 25] rfl rfl rfl (by decide +kernel) (by decide +kernel) (by decide +kernel) 0 rfl rfl rfl hl.1 rfl (Nat.le_of_ble_eq_true rfl) dL_law_2209 (fun u_7 H locs hφ hP hD hS => ?_)
  obtain ⟨r_8, v_9⟩ := u_7
  have rtr_8 : (RT k) (RX (FA 0) (FA 1) (IA 3) (IA 4)) r_8 := hφ
  obtain ⟨hP, hD⟩ := PD.dim4 ⟨hP, hD⟩
  obtain ⟨hP, hD⟩ := PD.by3 (is := [15, 16, 23, 17, 0, 1, 24, 25, 18, 19, 20, 21, 2, 3, 4, 5, 6, 22, 7, 8, 9, 10, 11, 12, 13, 14]) (y := (GA k a (u9 IA 2 v_9.1.2) LA FA QA VA r_8)) ⟨hP, hD⟩ (by decide +kernel) rfl rfl
  refine W.ceq (cells' := 123 + cz true r_8.b) (slots' := 16705 + sz true r_8.b) rfl rfl ?_
  refine W.eq (g2 := F0 m 2212 ls [.int (iZ v_9.1.1)]) rfl ?_
  refine lv_pop hx hb dL_law_2212 rfl ?_
  refine lv_aload_n hx hb dL_law_2213 rfl (lv_at hl 1 rfl) ?_
  refine lv_aload_n hx hb dL_law_2214 rfl (lv_at hl 3 rfl) ?_
  refine lv_iload_n hx hb dL_law_2215 rfl (lv_at hl 0 rfl) ?_
  refine lv_iconst (v := iZ 1) hx hb dL_law_2216 rfl ?_
  refine lv_iadd hx hb dL_law_2217 ?_
  refine lv_topi (fun x_10 ex_10 => ?_)
  obtain rfl : x_10 = iZ (i + 1) := ex_10.trans (iZ_add i 1)
  refine va_sld hx hb hX hbl hbA hS (zi1 hi hL) dL_law_2218 ?_
  refine lv_topi (fun x_11 ex_11 => ?_)
  obtain rfl : x_11 = iZ z1 := ex_11.trans hz1
  refine lv_aload_n hx hb dL_law_2219 rfl (lv_at hl 3 rfl) ?_
  refine lv_iload_n hx hb dL_law_2220 rfl (lv_at hl 0 rfl) ?_
  refine lv_iconst (v := iZ 2) hx hb dL_law_2221 rfl ?_
  refine lv_iadd hx hb dL_law_2222 ?_
  refine lv_topi (fun x_12 ex_12 => ?_)
  obtain rfl : x_12 = iZ (i + 2) := ex_12.trans (iZ_add i 2)
  refine va_sld hx hb hX hbl hbA hS (zi2 hi hL) dL_law_2223 ?_
  refine lv_topi (fun x_13 ex_13 => ?_)
  obtain rfl : x_13 = iZ z2 := ex_13.trans hz2
  refine lv_aload_n hx hb dL_law_2224 rfl (lv_at hl 3 rfl) ?_
  refine lv_iload_n hx hb dL_law_2225 rfl (lv_at hl 0 rfl) ?_
  refine lv_iconst (v := iZ 3) hx hb dL_law_2226 rfl ?_
  refine lv_iadd hx hb dL_law_2227 ?_
  refine lv_topi (fun x_14 ex_14 => ?_)
  obtain rfl : x_14 = iZ (i + 3) := ex_14.trans (iZ_add i 3)
  refine va_sld hx hb hX hbl hbA hS (zi3 hi hL) dL_law_2228 ?_
  refine lv_topi (fun x_15 ex_15 => ?_)
  obtain rfl : x_15 = iZ z3 := ex_15.trans hz3
  obtain ⟨hP, hD⟩ := PD.fr5 ⟨hP, hD⟩
  refine CKV2 (As := [.int (iZ z1), .int (iZ z2), .int (iZ z3)]) (rest := []) (tl := (GA k a (u9 IA 2 v_9.1.2) LA FA QA VA r_8) ++ ((GB k a IB LB FB QB VB r) ++ ((GC k a IC LC FC QC VC r) ++ ((GD k a ID LD FD QD VD r) ++ (r_8.tl))))) hx hb hml hown hts hKK hP hD hS hA (q_sure l D k (a 106) (a 107) (a 108) (a 109) (a 110) (a 111) (a 112) (a 113) (a 114) (a 115) (a 116) (a 117) (a 118) (a 119) (a 120) (a 121) (a 122) (IR 0) (IR 1) (IR 2) (IR 3) (IR 4) (IR 5) (IR 6) (IR 7) (IR 8) (IR 9) (IR 10) (IR 11) (IR 12) (IR 13) (IR 14) (IR 15) (IR 16) (IR 17) (LR 0) (LR 1) (FR 0) (FR 6) (FR 7) (FR 8) (FR 9) z1 z2 z3 hM rgH ⟨hz1a, hz1b⟩ ⟨hz2a, hz2b⟩ ⟨hz3a, hz3b⟩) ci_X12_sure qm_L_241 ⟨Nat.le_of_ble_eq_true rfl, Nat.le_of_ble_eq_true rfl⟩ (lroom _) [0, 1, 9, 10, 11, 12] [2, 3, 4, 5, 6, 7, 8, 13, 14, 15, 16] rfl rfl rfl (by decide +kernel) (by decide +kernel) (by decide +kernel) 0 rfl rfl rfl hl.1 rfl (Nat.le_of_ble_eq_true rfl) dL_law_2229 (fun u_16 H locs hφ hP hD hS => ?_)
  have p_17 : rgI u_16.2.2.1.2.2.2 0 1000000 120 := hφ
  obtain ⟨hP, hD⟩ := PD.by3 (is := [11, 12, 0, 1, 2, 3, 4, 5, 6, 13, 14, 15, 16, 7, 8, 9, 10]) (y := (GR k a (u9 IR 0 u_16.1.2) LR (u9 (u9 (u9 (u9 FR 6 u_16.2.2.1.1) 7 u_16.2.2.1.2.1) 8 u_16.2.2.1.2.2.1) 9 u_16.2.2.1.2.2.2) QR VR r_8)) ⟨hP, hD⟩ (by decide +kernel) rfl rfl
  refine W.eq (g2 := F0 m 2232 ls [.int (iZ u_16.1.1)]) rfl ?_
  refine lv_pop hx hb dL_law_2232 rfl ?_
  refine lv_goto (tgt := 2846) hx hb dL_law_2233 rfl ?_
  obtain ⟨hP, hD⟩ := PD.fr5 ⟨hP, hD⟩
  obtain ⟨hP, hD⟩ := PD.fr5 ⟨hP, hD⟩
  obtain ⟨hP, hD⟩ := PD.fr5 ⟨hP, hD⟩
  obtain ⟨hP, hD⟩ := PD.fr5 ⟨hP, hD⟩
  exact hk a (u9 IA 2 v_9.1.2) LA FA QA VA IB LB FB QB VB IC LC FC QC VC ID LD FD QD VD (u9 IR 0 u_16.1.2) LR (u9 (u9 (u9 (u9 FR 6 u_16.2.2.1.1) 7 u_16.2.2.1.2.1) 8 u_16.2.2.1.2.2.1) 9 u_16.2.2.1.2.2.2) QR VR r_8 H locs ls (show INV _ _ _ _ _ _ _ _ _ _ _ _ _ _ _ from ⟨hWI, hWI_0, hWI_1, hWI_2, hrd, htr0, htr1, htr2, htr3, hrgk, hrgt, hdrc, hev, hmk, hM, hMK, hTI, hFS, htd, hlt, (show rgI u_16.2.2.1.2.2.2 0 1000000 120 from (by assumption)), rgS, rgY, hdr, hit, hmmk, heq, htq, hrel, hbf, htb, hkw, hSK, hSK0, hSK1, hSK2, hNE, hNE0, hNE1, hNE2, hLE, hYE, hQE, hLE0, hLE1, hLE2, hYE0, hYE1, hYE2⟩) rtr_8 hP hD hS (lv_sub hl [0, 1, 2, 3] rfl)
set_option maxHeartbeats 40000000 in
set_option maxRecDepth 100000 in
theorem law_c54 {p : Program} {e : Env} {s : State} {m : MethodId} {below : List Frame} {meth : Method} {c : Code} (l : Launch) {b L : Nat} {xs : Nat → Int32} {A : Nat → Prop} {D : va_G} {k : Nat → ClassId} {sa sv : Nat} {i : Int} (C : LFX p s m meth c b L xs A D k sa sv) (hi : 0 ≤ i ∧ i + 6 ≤ (L : Int)) (hk : LAT p l e s m below meth c b A D k 2846 i) : LAT p l e s m below meth c b A D k 2236 i := by
  obtain ⟨hx, hb, hr, hml, hown, hts, hKK, hX, hbl, hbA, hA, hAf, hlocks, hSY, hRR, hL⟩ := id C
  intro a IA LA FA QA VA IB LB FB QB VB IC LC FC QC VC ID LD FD QD VD IR LR FR QR VR r H locs ls hI hRT hP hD hS hl
  have hK := hKK.1
  obtain ⟨hP, hD⟩ : PD D A ((GA k a IA LA FA QA VA r) ++ ((GB k a IB LB FB QB VB r) ++ ((GC k a IC LC FC QC VC r) ++ ((GD k a ID LD FD QD VD r) ++ ((GR k a IR LR FR QR VR r) ++ (r.tl)))))) H := ⟨hP, hD⟩
  obtain ⟨hWI, hWI_0, hWI_1, hWI_2, hrd, htr0, htr1, htr2, htr3, hrgk, hrgt, hdrc, hev, hmk, hM, hMK, hTI, hFS, htd, hlt, rgH, rgS, rgY, hdr, hit, hmmk, heq, htq, hrel, hbf, htb, hkw, hSK, hSK0, hSK1, hSK2, hNE, hNE0, hNE1, hNE2, hLE, hYE, hQE, hLE0, hLE1, hLE2, hYE0, hYE1, hYE2⟩ := id hI
  obtain ⟨gw1, gw2, gw3, gw4, gw5, gw6, gw7, gw8, gw9, gw10, gw11⟩ := id hWI
  have hx0 := gw9
  have hYI := gw11
  have hpf : rgI (FR 3) (-128) 127 900 := fun e h1 h2 => by rw [← htb e h1 h2]; exact hbf e h1 h2
  obtain ⟨z1, hz1, hz1a, hz1b⟩ := i32_z (xs (iZ (i + 1)).toNatClampNeg)
  obtain ⟨z2, hz2, hz2a, hz2b⟩ := i32_z (xs (iZ (i + 2)).toNatClampNeg)
  obtain ⟨z3, hz3, hz3a, hz3b⟩ := i32_z (xs (iZ (i + 3)).toNatClampNeg)
  obtain ⟨z4, hz4, hz4a, hz4b⟩ := i32_z (xs (iZ (i + 4)).toNatClampNeg)
  obtain ⟨z5, hz5, hz5a, hz5b⟩ := i32_z (xs (iZ (i + 5)).toNatClampNeg)
  have hl : lv_has ls 4 [(3, .int (iZ i)), (2, .ref (a 106)), (1, .ref (a 0)), (0, .ref b)] := hl
  have hls := hQE.1
  replace hls : _ := hls
  refine lv_aload_n hx hb dL_law_2236 rfl (lv_at hl 2 rfl) ?_
  refine lv_aload_n hx hb dL_law_2237 rfl (lv_at hl 3 rfl) ?_
  refine lv_iload_n hx hb dL_law_2238 rfl (lv_at hl 0 rfl) ?_
  refine lv_iconst (v := iZ 1) hx hb dL_law_2239 rfl ?_
  refine lv_iadd hx hb dL_law_2240 ?_
  refine lv_topi (fun x_1 ex_1 => ?_)
  obtain rfl : x_1 = iZ (i + 1) := ex_1.trans (iZ_add i 1)
  refine va_sld hx hb hX hbl hbA hS (zi1 hi hL) dL_law_2241 ?_
  refine lv_topi (fun x_2 ex_2 => ?_)
  obtain rfl : x_2 = iZ z1 := ex_2.trans hz1
  refine lv_aload_n hx hb dL_law_2242 rfl (lv_at hl 3 rfl) ?_
  refine lv_iload_n hx hb dL_law_2243 rfl (lv_at hl 0 rfl) ?_
  refine lv_iconst (v := iZ 2) hx hb dL_law_2244 rfl ?_
  refine lv_iadd hx hb dL_law_2245 ?_
  refine lv_topi (fun x_3 ex_3 => ?_)
  obtain rfl : x_3 = iZ (i + 2) := ex_3.trans (iZ_add i 2)
  refine va_sld hx hb hX hbl hbA hS (zi2 hi hL) dL_law_2246 ?_
  refine lv_topi (fun x_4 ex_4 => ?_)
  obtain rfl : x_4 = iZ z2 := ex_4.trans hz2
  refine lv_aload_n hx hb dL_law_2247 rfl (lv_at hl 3 rfl) ?_
  refine lv_iload_n hx hb dL_law_2248 rfl (lv_at hl 0 rfl) ?_
  refine lv_iconst (v := iZ 3) hx hb dL_law_2249 rfl ?_
  refine lv_iadd hx hb dL_law_2250 ?_
  refine lv_topi (fun x_5 ex_5 => ?_)
  obtain rfl : x_5 = iZ (i + 3) := ex_5.trans (iZ_add i 3)
  refine va_sld hx hb hX hbl hbA hS (zi3 hi hL) dL_law_2251 ?_
  refine lv_topi (fun x_6 ex_6 => ?_)
  obtain rfl : x_6 = iZ z3 := ex_6.trans hz3
  refine lv_aload_n hx hb dL_law_2252 rfl (lv_at hl 3 rfl) ?_
  refine lv_iload_n hx hb dL_law_2253 rfl (lv_at hl 0 rfl) ?_
  refine lv_iconst (v := iZ 4) hx hb dL_law_2254 rfl ?_
  refine lv_iadd hx hb dL_law_2255 ?_
  refine lv_topi (fun x_7 ex_7 => ?_)
  obtain rfl : x_7 = iZ (i + 4) := ex_7.trans (iZ_add i 4)
  refine va_sld hx hb hX hbl hbA hS (zi4 hi hL) dL_law_2256 ?_
  refine lv_topi (fun x_8 ex_8 => ?_)
  obtain rfl : x_8 = iZ z4 := ex_8.trans hz4
  obtain ⟨hP, hD⟩ := PD.mid4 ⟨hP, hD⟩
  refine CXM (mid := (GB k a IB LB FB QB VB r) ++ ((GC k a IC LC FC QC VC r) ++ ((GD k a ID LD FD QD VD r) ++ ((GR k a IR LR FR QR VR r))))) (c0 := 123) (s0 := 16705) (r := r) (As := [.int (iZ z1), .int (iZ z2), .int (iZ z3), .int (iZ z4)]) (rest := []) hx hb hml hown hts hKK hP hD hS hA (p_cheap l D k (a 0) (a 1) (a 2) (a 3) (a 4) (a 5) (a 6) (a 7) (a 8) (a 9) (a 10) (a 11) (IA 0) (IA 1) (IA 2) (LA 0) (LA 1) ([.ref (a 26), .ref (a 27), .ref (a 28), .int (iZ (IA 3)), .int (iZ (IA 4)), .int (iZ (IA 5)), .int (iZ (IA 6))]) (a 23) (a 27) (a 28) (a 24) (a 25) (IA 3) (IA 4) (IA 5) (FA 0) (FA 1) (a 101) (a 102) (a 103) (a 104) (FA 11) (FA 12) (FA 13) (FA 14) z1 z2 z3 z4 r hRT rfl rfl rfl rfl rfl (by first | with_reducible assumption | omega) hx0 (by first | with_reducible assumption | omega) (by first | with_reducible assumption | omega) (by first | with_reducible assumption | omega) hrgk hrgt ⟨hz1a, hz1b⟩ ⟨hz2a, hz2b⟩ ⟨hz3a, hz3b⟩ ⟨hz4a, hz4b⟩) ci_X11_cheap qm_L_242 ⟨Nat.le_of_ble_eq_true rfl, Nat.le_of_ble_eq_true rfl⟩ ⟨Nat.le_of_ble_eq_true rfl, Nat.le_of_ble_eq_true rfl⟩ [0, 1, 18, 17, 19, 20, 21, 22, 2, 6, 7] [3, 4, 5, 8, 9, 10, 11, 12, 13, 14, 15, 16, 23, 24, 25] rfl rfl rfl (by decide +kernel) (by decide +kernel) (by decide +kernel) 0 rfl rfl rfl hl.1 rfl (Nat.le_of_ble_eq_true rfl) dL_law_2257 (fun u_9 H locs hφ hP hD hS => ?_)
  obtain ⟨r_10, v_11⟩ := u_9
  obtain ⟨p_12, p_13, rtr_10⟩ : (rgI v_11.2.2.1.1 (-1) 420 6) ∧ (rgI v_11.2.2.1.2.1 (-1) 5 6) ∧ ((RT k) (RX (FA 0) (FA 1) (IA 3) (IA 4)) r_10) := hφ
  obtain ⟨hP, hD⟩ := PD.dim4 ⟨hP, hD⟩
  obtain ⟨hP, hD⟩ := PD.by3 (is := [15, 16, 23, 0, 1, 2, 24, 25, 3, 4, 5, 6, 7, 8, 9, 10, 11, 18, 17, 19, 20, 21, 22, 12, 13, 14]) (y := (GA k a (u9 IA 2 v_11.1.2) LA (u9 (u9 (u9 (u9 FA 11 v_11.2.2.1.1) 12 v_11.2.2.1.2.1) 13 v_11.2.2.1.2.2.1) 14 v_11.2.2.1.2.2.2) QA VA r_10)) ⟨hP, hD⟩ (by decide +kernel) rfl rfl
  refine W.ceq (cells' := 123 + cz true r_10.b) (slots' := 16705 + sz true r_10.b) rfl rfl ?_
  refine W.eq (g2 := F0 m 2260 ls [.int (iZ v_11.1.1)]) rfl ?_
  refine lv_pop hx hb dL_law_2260 rfl ?_
  refine lv_aload_n hx hb dL_law_2261 rfl (lv_at hl 1 rfl) ?_
  refine lv_aload_n hx hb dL_law_2262 rfl (lv_at hl 3 rfl) ?_
  refine lv_iload_n hx hb dL_law_2263 rfl (lv_at hl 0 rfl) ?_
  refine lv_iconst (v := iZ 1) hx hb dL_law_2264 rfl ?_
  refine lv_iadd hx hb dL_law_2265 ?_
  refine lv_topi (fun x_14 ex_14 => ?_)
  obtain rfl : x_14 = iZ (i + 1) := ex_14.trans (iZ_add i 1)
  refine va_sld hx hb hX hbl hbA hS (zi1 hi hL) dL_law_2266 ?_
  refine lv_topi (fun x_15 ex_15 => ?_)
  obtain rfl : x_15 = iZ z1 := ex_15.trans hz1
  refine lv_aload_n hx hb dL_law_2267 rfl (lv_at hl 3 rfl) ?_
  refine lv_iload_n hx hb dL_law_2268 rfl (lv_at hl 0 rfl) ?_
  refine lv_iconst (v := iZ 2) hx hb dL_law_2269 rfl ?_
  refine lv_iadd hx hb dL_law_2270 ?_
  refine lv_topi (fun x_16 ex_16 => ?_)
  obtain rfl : x_16 = iZ (i + 2) := ex_16.trans (iZ_add i 2)
  refine va_sld hx hb hX hbl hbA hS (zi2 hi hL) dL_law_2271 ?_
  refine lv_topi (fun x_17 ex_17 => ?_)
  obtain rfl : x_17 = iZ z2 := ex_17.trans hz2
  refine lv_aload_n hx hb dL_law_2272 rfl (lv_at hl 3 rfl) ?_
  refine lv_iload_n hx hb dL_law_2273 rfl (lv_at hl 0 rfl) ?_
  refine lv_iconst (v := iZ 3) hx hb dL_law_2274 rfl ?_
  refine lv_iadd hx hb dL_law_2275 ?_
  refine lv_topi (fun x_18 ex_18 => ?_)
  obtain rfl : x_18 = iZ (i + 3) := ex_18.trans (iZ_add i 3)
  refine va_sld hx hb hX hbl hbA hS (zi3 hi hL) dL_law_2276 ?_
  refine lv_topi (fun x_19 ex_19 => ?_)
  obtain rfl : x_19 = iZ z3 := ex_19.trans hz3
  refine lv_aload_n hx hb dL_law_2277 rfl (lv_at hl 3 rfl) ?_
  refine lv_iload_n hx hb dL_law_2278 rfl (lv_at hl 0 rfl) ?_
  refine lv_iconst (v := iZ 4) hx hb dL_law_2279 rfl ?_
  refine lv_iadd hx hb dL_law_2280 ?_
  refine lv_topi (fun x_20 ex_20 => ?_)
  obtain rfl : x_20 = iZ (i + 4) := ex_20.trans (iZ_add i 4)
  refine va_sld hx hb hX hbl hbA hS (zi4 hi hL) dL_law_2281 ?_
  refine lv_topi (fun x_21 ex_21 => ?_)
  obtain rfl : x_21 = iZ z4 := ex_21.trans hz4
  obtain ⟨hP, hD⟩ := PD.fr5 ⟨hP, hD⟩
  refine CKV2 (As := [.int (iZ z1), .int (iZ z2), .int (iZ z3), .int (iZ z4)]) (rest := []) (tl := (GA k a (u9 IA 2 v_11.1.2) LA (u9 (u9 (u9 (u9 FA 11 v_11.2.2.1.1) 12 v_11.2.2.1.2.1) 13 v_11.2.2.1.2.2.1) 14 v_11.2.2.1.2.2.2) QA VA r_10) ++ ((GB k a IB LB FB QB VB r) ++ ((GC k a IC LC FC QC VC r) ++ ((GD k a ID LD FD QD VD r) ++ (r_10.tl))))) hx hb hml hown hts hKK hP hD hS hA (q_cheap l D k (a 106) (a 107) (a 108) (a 109) (a 110) (a 111) (a 112) (a 113) (a 114) (a 115) (a 116) (a 117) (a 118) (a 119) (a 120) (a 121) (a 122) (IR 0) (IR 1) (IR 2) (IR 3) (IR 4) (IR 5) (IR 6) (IR 7) (IR 8) (IR 9) (IR 10) (IR 11) (IR 12) (IR 13) (IR 14) (IR 15) (IR 16) (IR 17) (LR 0) (LR 1) (FR 0) (FR 10) z1 z2 z3 z4 hM ⟨hz1a, hz1b⟩ ⟨hz2a, hz2b⟩ ⟨hz3a, hz3b⟩ ⟨hz4a, hz4b⟩) ci_X12_cheap qm_L_245 ⟨Nat.le_of_ble_eq_true rfl, Nat.le_of_ble_eq_true rfl⟩ (lroom _) [0, 1, 13] [2, 3, 4, 5, 6, 7, 8, 9, 10, 11, 12, 14, 15, 16] rfl rfl rfl (by decide +kernel) (by decide +kernel) (by decide +kernel) 0 rfl rfl rfl hl.1 rfl (Nat.le_of_ble_eq_true rfl) dL_law_2282 (fun u_22 H locs hφ hP hD hS => ?_)
  obtain ⟨hP, hD⟩ := PD.by3 (is := [14, 15, 0, 1, 2, 3, 4, 5, 6, 7, 8, 9, 10, 16, 11, 12, 13]) (y := (GR k a (u9 IR 0 u_22.1.2) LR (u9 FR 10 u_22.2.2.1) QR VR r_10)) ⟨hP, hD⟩ (by decide +kernel) rfl rfl
  refine W.eq (g2 := F0 m 2285 ls [.int (iZ u_22.1.1)]) rfl ?_
  refine lv_pop hx hb dL_law_2285 rfl ?_
  refine lv_goto (tgt := 2846) hx hb dL_law_2286 rfl ?_
  obtain ⟨hP, hD⟩ := PD.fr5 ⟨hP, hD⟩
  obtain ⟨hP, hD⟩ := PD.fr5 ⟨hP, hD⟩
  obtain ⟨hP, hD⟩ := PD.fr5 ⟨hP, hD⟩
  obtain ⟨hP, hD⟩ := PD.fr5 ⟨hP, hD⟩
  exact hk a (u9 IA 2 v_11.1.2) LA (u9 (u9 (u9 (u9 FA 11 v_11.2.2.1.1) 12 v_11.2.2.1.2.1) 13 v_11.2.2.1.2.2.1) 14 v_11.2.2.1.2.2.2) QA VA IB LB FB QB VB IC LC FC QC VC ID LD FD QD VD (u9 IR 0 u_22.1.2) LR (u9 FR 10 u_22.2.2.1) QR VR r_10 H locs ls (show INV _ _ _ _ _ _ _ _ _ _ _ _ _ _ _ from ⟨hWI, hWI_0, hWI_1, hWI_2, hrd, htr0, htr1, htr2, htr3, (show rgI v_11.2.2.1.1 (-1) 420 6 from (by assumption)), (show rgI v_11.2.2.1.2.1 (-1) 5 6 from (by assumption)), hdrc, hev, hmk, hM, hMK, hTI, hFS, htd, hlt, rgH, rgS, rgY, hdr, hit, hmmk, heq, htq, hrel, hbf, htb, hkw, hSK, hSK0, hSK1, hSK2, hNE, hNE0, hNE1, hNE2, hLE, hYE, hQE, hLE0, hLE1, hLE2, hYE0, hYE1, hYE2⟩) rtr_10 hP hD hS (lv_sub hl [0, 1, 2, 3] rfl)
set_option maxHeartbeats 40000000 in
set_option maxRecDepth 100000 in
theorem law_c55 {p : Program} {e : Env} {s : State} {m : MethodId} {below : List Frame} {meth : Method} {c : Code} (l : Launch) {b L : Nat} {xs : Nat → Int32} {A : Nat → Prop} {D : va_G} {k : Nat → ClassId} {sa sv : Nat} {i : Int} (C : LFX p s m meth c b L xs A D k sa sv) (hi : 0 ≤ i ∧ i + 6 ≤ (L : Int)) (hk : LAT p l e s m below meth c b A D k 2846 i) : LAT p l e s m below meth c b A D k 2289 i := by
  obtain ⟨hx, hb, hr, hml, hown, hts, hKK, hX, hbl, hbA, hA, hAf, hlocks, hSY, hRR, hL⟩ := id C
  intro a IA LA FA QA VA IB LB FB QB VB IC LC FC QC VC ID LD FD QD VD IR LR FR QR VR r H locs ls hI hRT hP hD hS hl
  have hK := hKK.1
  obtain ⟨hP, hD⟩ : PD D A ((GA k a IA LA FA QA VA r) ++ ((GB k a IB LB FB QB VB r) ++ ((GC k a IC LC FC QC VC r) ++ ((GD k a ID LD FD QD VD r) ++ ((GR k a IR LR FR QR VR r) ++ (r.tl)))))) H := ⟨hP, hD⟩
  obtain ⟨hWI, hWI_0, hWI_1, hWI_2, hrd, htr0, htr1, htr2, htr3, hrgk, hrgt, hdrc, hev, hmk, hM, hMK, hTI, hFS, htd, hlt, rgH, rgS, rgY, hdr, hit, hmmk, heq, htq, hrel, hbf, htb, hkw, hSK, hSK0, hSK1, hSK2, hNE, hNE0, hNE1, hNE2, hLE, hYE, hQE, hLE0, hLE1, hLE2, hYE0, hYE1, hYE2⟩ := id hI
  obtain ⟨gw1, gw2, gw3, gw4, gw5, gw6, gw7, gw8, gw9, gw10, gw11⟩ := id hWI
  have hx0 := gw9
  have hYI := gw11
  have hpf : rgI (FR 3) (-128) 127 900 := fun e h1 h2 => by rw [← htb e h1 h2]; exact hbf e h1 h2
  obtain ⟨z1, hz1, hz1a, hz1b⟩ := i32_z (xs (iZ (i + 1)).toNatClampNeg)
  obtain ⟨z2, hz2, hz2a, hz2b⟩ := i32_z (xs (iZ (i + 2)).toNatClampNeg)
  obtain ⟨z3, hz3, hz3a, hz3b⟩ := i32_z (xs (iZ (i + 3)).toNatClampNeg)
  obtain ⟨z4, hz4, hz4a, hz4b⟩ := i32_z (xs (iZ (i + 4)).toNatClampNeg)
  obtain ⟨z5, hz5, hz5a, hz5b⟩ := i32_z (xs (iZ (i + 5)).toNatClampNeg)
  have hl : lv_has ls 4 [(3, .int (iZ i)), (2, .ref (a 106)), (1, .ref (a 0)), (0, .ref b)] := hl
  have hls := hQE.1
  replace hls : _ := hls
  refine lv_aload_n hx hb dL_law_2289 rfl (lv_at hl 2 rfl) ?_
  refine lv_aload_n hx hb dL_law_2290 rfl (lv_at hl 3 rfl) ?_
  refine lv_iload_n hx hb dL_law_2291 rfl (lv_at hl 0 rfl) ?_
  refine lv_iconst (v := iZ 1) hx hb dL_law_2292 rfl ?_
  refine lv_iadd hx hb dL_law_2293 ?_
  refine lv_topi (fun x_1 ex_1 => ?_)
  obtain rfl : x_1 = iZ (i + 1) := ex_1.trans (iZ_add i 1)
  refine va_sld hx hb hX hbl hbA hS (zi1 hi hL) dL_law_2294 ?_
  refine lv_topi (fun x_2 ex_2 => ?_)
  obtain rfl : x_2 = iZ z1 := ex_2.trans hz1
  refine lv_aload_n hx hb dL_law_2295 rfl (lv_at hl 3 rfl) ?_
  refine lv_iload_n hx hb dL_law_2296 rfl (lv_at hl 0 rfl) ?_
  refine lv_iconst (v := iZ 2) hx hb dL_law_2297 rfl ?_
  refine lv_iadd hx hb dL_law_2298 ?_
  refine lv_topi (fun x_3 ex_3 => ?_)
  obtain rfl : x_3 = iZ (i + 2) := ex_3.trans (iZ_add i 2)
  refine va_sld hx hb hX hbl hbA hS (zi2 hi hL) dL_law_2299 ?_
  refine lv_topi (fun x_4 ex_4 => ?_)
  obtain rfl : x_4 = iZ z2 := ex_4.trans hz2
  refine CKV2 (As := [.int (iZ z1), .int (iZ z2)]) (rest := []) (tl := (GB k a IB LB FB QB VB r) ++ ((GC k a IC LC FC QC VC r) ++ ((GD k a ID LD FD QD VD r) ++ ((GR k a IR LR FR QR VR r) ++ (r.tl))))) hx hb hml hown hts hKK hP hD hS hA (p_price l D k (a 0) (a 1) (a 2) (a 3) (a 4) (a 5) (a 6) (a 7) (a 8) (a 9) (a 10) (a 11) (IA 0) (IA 1) (IA 2) (LA 0) (LA 1) ([.ref (a 26), .ref (a 27), .ref (a 28), .int (iZ (IA 3)), .int (iZ (IA 4)), .int (iZ (IA 5)), .int (iZ (IA 6))]) (a 23) (a 27) (a 28) (a 24) (a 25) (IA 3) (IA 4) (IA 5) (FA 0) (FA 1) z1 z2 rfl rfl rfl rfl rfl (by first | with_reducible assumption | omega) hx0 (by first | with_reducible assumption | omega) (by first | with_reducible assumption | omega) (by first | with_reducible assumption | omega) ⟨hz1a, hz1b⟩ ⟨hz2a, hz2b⟩) ci_X11_price qm_L_246 ⟨Nat.le_of_ble_eq_true rfl, Nat.le_of_ble_eq_true rfl⟩ (lroom _) [0, 1, 2, 6, 7] [3, 4, 5, 8, 9, 10, 11, 12, 13, 14, 15, 16, 17, 18, 19, 20, 21, 22, 23, 24, 25] rfl rfl rfl (by decide +kernel) (by decide +kernel) (by decide +kernel) 0 rfl rfl rfl hl.1 rfl (Nat.le_of_ble_eq_true rfl) dL_law_2300 (fun u_5 H locs hφ hP hD hS => ?_)
  have p_6 : (((0 ≤ z1 ∧ z1 < (IA 3)) ∧ (0 ≤ z2 ∧ z2 ≤ 500)) ∧ (u_5.1.1 : Int) = pr (FA 0) z1 z2) ∨ (¬ ((0 ≤ z1 ∧ z1 < (IA 3)) ∧ (0 ≤ z2 ∧ z2 ≤ 500)) ∧ (u_5.1.1 : Int) = -1) := hφ
  obtain ⟨hP, hD⟩ := PD.by3 (is := [21, 22, 23, 0, 1, 2, 24, 25, 3, 4, 5, 6, 7, 8, 9, 10, 11, 12, 13, 14, 15, 16, 17, 18, 19, 20]) (y := (GA k a (u9 IA 2 u_5.1.2) LA FA QA VA r)) ⟨hP, hD⟩ (by decide +kernel) rfl rfl
  refine W.eq (g2 := F0 m 2303 ls [.int (iZ u_5.1.1)]) rfl ?_
  refine lv_pop hx hb dL_law_2303 rfl ?_
  refine lv_aload_n hx hb dL_law_2304 rfl (lv_at hl 1 rfl) ?_
  refine lv_aload_n hx hb dL_law_2305 rfl (lv_at hl 3 rfl) ?_
  refine lv_iload_n hx hb dL_law_2306 rfl (lv_at hl 0 rfl) ?_
  refine lv_iconst (v := iZ 1) hx hb dL_law_2307 rfl ?_
  refine lv_iadd hx hb dL_law_2308 ?_
  refine lv_topi (fun x_7 ex_7 => ?_)
  obtain rfl : x_7 = iZ (i + 1) := ex_7.trans (iZ_add i 1)
  refine va_sld hx hb hX hbl hbA hS (zi1 hi hL) dL_law_2309 ?_
  refine lv_topi (fun x_8 ex_8 => ?_)
  obtain rfl : x_8 = iZ z1 := ex_8.trans hz1
  refine lv_aload_n hx hb dL_law_2310 rfl (lv_at hl 3 rfl) ?_
  refine lv_iload_n hx hb dL_law_2311 rfl (lv_at hl 0 rfl) ?_
  refine lv_iconst (v := iZ 2) hx hb dL_law_2312 rfl ?_
  refine lv_iadd hx hb dL_law_2313 ?_
  refine lv_topi (fun x_9 ex_9 => ?_)
  obtain rfl : x_9 = iZ (i + 2) := ex_9.trans (iZ_add i 2)
  refine va_sld hx hb hX hbl hbA hS (zi2 hi hL) dL_law_2314 ?_
  refine lv_topi (fun x_10 ex_10 => ?_)
  obtain rfl : x_10 = iZ z2 := ex_10.trans hz2
  obtain ⟨hP, hD⟩ := PD.fr5 ⟨hP, hD⟩
  refine CKV2 (As := [.int (iZ z1), .int (iZ z2)]) (rest := []) (tl := (GA k a (u9 IA 2 u_5.1.2) LA FA QA VA r) ++ ((GB k a IB LB FB QB VB r) ++ ((GC k a IC LC FC QC VC r) ++ ((GD k a ID LD FD QD VD r) ++ (r.tl))))) hx hb hml hown hts hKK hP hD hS hA (q_price l D k (a 106) (a 107) (a 108) (a 109) (a 110) (a 111) (a 112) (a 113) (a 114) (a 115) (a 116) (a 117) (a 118) (a 119) (a 120) (a 121) (a 122) (IR 0) (IR 1) (IR 2) (IR 3) (IR 4) (IR 5) (IR 6) (IR 7) (IR 8) (IR 9) (IR 10) (IR 11) (IR 12) (IR 13) (IR 14) (IR 15) (IR 16) (IR 17) (LR 0) (LR 1) (FR 0) z1 z2 hM ⟨hz1a, hz1b⟩ ⟨hz2a, hz2b⟩) ci_X12_price qm_L_249 ⟨Nat.le_of_ble_eq_true rfl, Nat.le_of_ble_eq_true rfl⟩ (lroom _) [0, 1] [2, 3, 4, 5, 6, 7, 8, 9, 10, 11, 12, 13, 14, 15, 16] rfl rfl rfl (by decide +kernel) (by decide +kernel) (by decide +kernel) 0 rfl rfl rfl hl.1 rfl (Nat.le_of_ble_eq_true rfl) dL_law_2315 (fun u_11 H locs hφ hP hD hS => ?_)
  have p_12 : (((0 ≤ z1 ∧ z1 < (gz (FR 0) 0)) ∧ (0 ≤ z2 ∧ z2 ≤ 500)) ∧ (u_11.1.1 : Int) = pr (sh (FR 0) 10) z1 z2) ∨ (¬ ((0 ≤ z1 ∧ z1 < (gz (FR 0) 0)) ∧ (0 ≤ z2 ∧ z2 ≤ 500)) ∧ (u_11.1.1 : Int) = -1) := hφ
  obtain ⟨hP, hD⟩ := PD.by3 (is := [15, 16, 0, 1, 2, 3, 4, 5, 6, 7, 8, 9, 10, 11, 12, 13, 14]) (y := (GR k a (u9 IR 0 u_11.1.2) LR FR QR VR r)) ⟨hP, hD⟩ (by decide +kernel) rfl rfl
  refine W.eq (g2 := F0 m 2318 ls [.int (iZ u_11.1.1)]) rfl ?_
  refine lv_pop hx hb dL_law_2318 rfl ?_
  refine lv_goto (tgt := 2846) hx hb dL_law_2319 rfl ?_
  obtain ⟨hP, hD⟩ := PD.fr5 ⟨hP, hD⟩
  obtain ⟨hP, hD⟩ := PD.fr5 ⟨hP, hD⟩
  obtain ⟨hP, hD⟩ := PD.fr5 ⟨hP, hD⟩
  obtain ⟨hP, hD⟩ := PD.fr5 ⟨hP, hD⟩
  exact hk a (u9 IA 2 u_5.1.2) LA FA QA VA IB LB FB QB VB IC LC FC QC VC ID LD FD QD VD (u9 IR 0 u_11.1.2) LR FR QR VR r H locs ls (show INV _ _ _ _ _ _ _ _ _ _ _ _ _ _ _ from ⟨hWI, hWI_0, hWI_1, hWI_2, hrd, htr0, htr1, htr2, htr3, hrgk, hrgt, hdrc, hev, hmk, hM, hMK, hTI, hFS, htd, hlt, rgH, rgS, rgY, hdr, hit, hmmk, heq, htq, hrel, hbf, htb, hkw, hSK, hSK0, hSK1, hSK2, hNE, hNE0, hNE1, hNE2, hLE, hYE, hQE, hLE0, hLE1, hLE2, hYE0, hYE1, hYE2⟩) hRT hP hD hS (lv_sub hl [0, 1, 2, 3] rfl)
end
