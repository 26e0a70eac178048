theorem qc_X11_priceSeen : Cond.code yX11_priceSeen cX11_priceSeen 5 (some .int) ∈ gw := tbt (tb5 (List.mem_of_getElem? (i := 126) rfl)) rfl
theorem qi_yX11_priceSeen : Cond.instanceMethod yX11_priceSeen ∈ gw := tbt (tb5 (List.mem_of_getElem? (i := 124) rfl)) rfl
theorem qs_X11_priceSeen : Cond.selects (yX11_priceSeen).cls yX11_priceSeen yX11_priceSeen ∈ gw := tbt (tb5 (List.mem_of_getElem? (i := 125) rfl)) rfl
theorem ci_X11_priceSeen : CIv yX11_priceSeen cX11_priceSeen 5 (some .int) 3 := ⟨qc_X11_priceSeen, qi_yX11_priceSeen, qs_X11_priceSeen, qz_X11, by decide +kernel⟩
theorem qm_L_250 : Cond.methodLink RL 250 yX11_priceSeen ∈ gw := tbt (tb5 (List.mem_of_getElem? (i := 123) rfl)) rfl
theorem qc_X12_priceSeen : Cond.code yX12_priceSeen cX12_priceSeen 5 (some .int) ∈ gw := tbt (tb8 (List.mem_of_getElem? (i := 162) rfl)) rfl
theorem qi_yX12_priceSeen : Cond.instanceMethod yX12_priceSeen ∈ gw := tbt (tb8 (List.mem_of_getElem? (i := 160) rfl)) rfl
theorem qs_X12_priceSeen : Cond.selects (yX12_priceSeen).cls yX12_priceSeen yX12_priceSeen ∈ gw := tbt (tb8 (List.mem_of_getElem? (i := 161) rfl)) rfl
theorem ci_X12_priceSeen : CIv yX12_priceSeen cX12_priceSeen 5 (some .int) 3 := ⟨qc_X12_priceSeen, qi_yX12_priceSeen, qs_X12_priceSeen, qz_X12, by decide +kernel⟩
theorem qm_L_253 : Cond.methodLink RL 253 yX12_priceSeen ∈ gw := tbt (tb8 (List.mem_of_getElem? (i := 159) rfl)) rfl
theorem qc_X11_gain : Cond.code yX11_gain cX11_gain 4 (some .int) ∈ gw := tbt (tb5 (List.mem_of_getElem? (i := 130) rfl)) rfl
theorem qi_yX11_gain : Cond.instanceMethod yX11_gain ∈ gw := tbt (tb5 (List.mem_of_getElem? (i := 128) rfl)) rfl
theorem qs_X11_gain : Cond.selects (yX11_gain).cls yX11_gain yX11_gain ∈ gw := tbt (tb5 (List.mem_of_getElem? (i := 129) rfl)) rfl
theorem ci_X11_gain : CIv yX11_gain cX11_gain 4 (some .int) 3 := ⟨qc_X11_gain, qi_yX11_gain, qs_X11_gain, qz_X11, by decide +kernel⟩
theorem qm_L_254 : Cond.methodLink RL 254 yX11_gain ∈ gw := tbt (tb5 (List.mem_of_getElem? (i := 127) rfl)) rfl
theorem qc_X12_gain : Cond.code yX12_gain cX12_gain 4 (some .int) ∈ gw := tbt (tb8 (List.mem_of_getElem? (i := 166) rfl)) rfl
theorem qi_yX12_gain : Cond.instanceMethod yX12_gain ∈ gw := tbt (tb8 (List.mem_of_getElem? (i := 164) rfl)) rfl
theorem qs_X12_gain : Cond.selects (yX12_gain).cls yX12_gain yX12_gain ∈ gw := tbt (tb8 (List.mem_of_getElem? (i := 165) rfl)) rfl
theorem ci_X12_gain : CIv yX12_gain cX12_gain 4 (some .int) 3 := ⟨qc_X12_gain, qi_yX12_gain, qs_X12_gain, qz_X12, by decide +kernel⟩
theorem qm_L_257 : Cond.methodLink RL 257 yX12_gain ∈ gw := tbt (tb8 (List.mem_of_getElem? (i := 163) rfl)) rfl
theorem qc_X11_hoped : Cond.code yX11_hoped cX11_hoped 5 (some .int) ∈ gw := tbt (tb5 (List.mem_of_getElem? (i := 140) rfl)) rfl
theorem qi_yX11_hoped : Cond.instanceMethod yX11_hoped ∈ gw := tbt (tb5 (List.mem_of_getElem? (i := 138) rfl)) rfl
theorem qs_X11_hoped : Cond.selects (yX11_hoped).cls yX11_hoped yX11_hoped ∈ gw := tbt (tb5 (List.mem_of_getElem? (i := 139) rfl)) rfl
theorem ci_X11_hoped : CIv yX11_hoped cX11_hoped 5 (some .int) 3 := ⟨qc_X11_hoped, qi_yX11_hoped, qs_X11_hoped, qz_X11, by decide +kernel⟩
theorem qm_L_258 : Cond.methodLink RL 258 yX11_hoped ∈ gw := tbt (tb5 (List.mem_of_getElem? (i := 137) rfl)) rfl
theorem qc_X12_hoped : Cond.code yX12_hoped cX12_hoped 5 (some .int) ∈ gw := tbt (tb8 (List.mem_of_getElem? (i := 174) rfl)) rfl
theorem qi_yX12_hoped : Cond.instanceMethod yX12_hoped ∈ gw := tbt (tb8 (List.mem_of_getElem? (i := 172) rfl)) rfl
theorem qs_X12_hoped : Cond.selects (yX12_hoped).cls yX12_hoped yX12_hoped ∈ gw := tbt (tb8 (List.mem_of_getElem? (i := 173) rfl)) rfl
theorem ci_X12_hoped : CIv yX12_hoped cX12_hoped 5 (some .int) 3 := ⟨qc_X12_hoped, qi_yX12_hoped, qs_X12_hoped, qz_X12, by decide +kernel⟩
theorem qm_L_261 : Cond.methodLink RL 261 yX12_hoped ∈ gw := tbt (tb8 (List.mem_of_getElem? (i := 171) rfl)) rfl
theorem qc_X11_market : Cond.code yX11_market cX11_market 7 (some .int) ∈ gw := tbt (tb5 (List.mem_of_getElem? (i := 144) rfl)) rfl
theorem qi_yX11_market : Cond.instanceMethod yX11_market ∈ gw := tbt (tb5 (List.mem_of_getElem? (i := 142) rfl)) rfl
theorem qs_X11_market : Cond.selects (yX11_market).cls yX11_market yX11_market ∈ gw := tbt (tb5 (List.mem_of_getElem? (i := 143) rfl)) rfl
theorem ci_X11_market : CIv yX11_market cX11_market 7 (some .int) 2 := ⟨qc_X11_market, qi_yX11_market, qs_X11_market, qz_X11, by decide +kernel⟩
theorem qm_L_262 : Cond.methodLink RL 262 yX11_market ∈ gw := tbt (tb5 (List.mem_of_getElem? (i := 141) rfl)) rfl
theorem qc_X12_market : Cond.code yX12_market cX12_market 5 (some .int) ∈ gw := tbt (tb8 (List.mem_of_getElem? (i := 178) rfl)) rfl
theorem qi_yX12_market : Cond.instanceMethod yX12_market ∈ gw := tbt (tb8 (List.mem_of_getElem? (i := 176) rfl)) rfl
theorem qs_X12_market : Cond.selects (yX12_market).cls yX12_market yX12_market ∈ gw := tbt (tb8 (List.mem_of_getElem? (i := 177) rfl)) rfl
theorem ci_X12_market : CIv yX12_market cX12_market 5 (some .int) 2 := ⟨qc_X12_market, qi_yX12_market, qs_X12_market, qz_X12, by decide +kernel⟩
theorem qm_L_265 : Cond.methodLink RL 265 yX12_market ∈ gw := tbt (tb8 (List.mem_of_getElem? (i := 175) rfl)) rfl
theorem qc_X11_meanPrice : Cond.code yX11_meanPrice cX11_meanPrice 8 (some .boolean) ∈ gw := tbt (tb5 (List.mem_of_getElem? (i := 148) rfl)) rfl
theorem qi_yX11_meanPrice : Cond.instanceMethod yX11_meanPrice ∈ gw := tbt (tb5 (List.mem_of_getElem? (i := 146) rfl)) rfl
theorem qs_X11_meanPrice : Cond.selects (yX11_meanPrice).cls yX11_meanPrice yX11_meanPrice ∈ gw := tbt (tb5 (List.mem_of_getElem? (i := 147) rfl)) rfl
theorem ci_X11_meanPrice : CIv yX11_meanPrice cX11_meanPrice 8 (some .boolean) 3 := ⟨qc_X11_meanPrice, qi_yX11_meanPrice, qs_X11_meanPrice, qz_X11, by decide +kernel⟩
theorem qm_L_266 : Cond.methodLink RL 266 yX11_meanPrice ∈ gw := tbt (tb5 (List.mem_of_getElem? (i := 145) rfl)) rfl
theorem qc_X12_meanPrice : Cond.code yX12_meanPrice cX12_meanPrice 7 (some .boolean) ∈ gw := tbt (tb8 (List.mem_of_getElem? (i := 182) rfl)) rfl
theorem qi_yX12_meanPrice : Cond.instanceMethod yX12_meanPrice ∈ gw := tbt (tb8 (List.mem_of_getElem? (i := 180) rfl)) rfl
theorem qs_X12_meanPrice : Cond.selects (yX12_meanPrice).cls yX12_meanPrice yX12_meanPrice ∈ gw := tbt (tb8 (List.mem_of_getElem? (i := 181) rfl)) rfl
theorem ci_X12_meanPrice : CIv yX12_meanPrice cX12_meanPrice 7 (some .boolean) 3 := ⟨qc_X12_meanPrice, qi_yX12_meanPrice, qs_X12_meanPrice, qz_X12, by decide +kernel⟩
theorem qm_L_269 : Cond.methodLink RL 269 yX12_meanPrice ∈ gw := tbt (tb8 (List.mem_of_getElem? (i := 179) rfl)) rfl
theorem qc_X11_pass : Cond.code yX11_pass cX11_pass 2 (some .int) ∈ gw := tbt (tb5 (List.mem_of_getElem? (i := 162) rfl)) rfl
theorem qi_yX11_pass : Cond.instanceMethod yX11_pass ∈ gw := tbt (tb5 (List.mem_of_getElem? (i := 160) rfl)) rfl
theorem qs_X11_pass : Cond.selects (yX11_pass).cls yX11_pass yX11_pass ∈ gw := tbt (tb5 (List.mem_of_getElem? (i := 161) rfl)) rfl
theorem ci_X11_pass : CIv yX11_pass cX11_pass 2 (some .int) 1 := ⟨qc_X11_pass, qi_yX11_pass, qs_X11_pass, qz_X11, by decide +kernel⟩
theorem qm_L_270 : Cond.methodLink RL 270 yX11_pass ∈ gw := tbt (tb5 (List.mem_of_getElem? (i := 159) rfl)) rfl
theorem qc_X12_pass : Cond.code yX12_pass cX12_pass 4 (some .int) ∈ gw := tbt (tb8 (List.mem_of_getElem? (i := 190) rfl)) rfl
theorem qi_yX12_pass : Cond.instanceMethod yX12_pass ∈ gw := tbt (tb8 (List.mem_of_getElem? (i := 188) rfl)) rfl
theorem qs_X12_pass : Cond.selects (yX12_pass).cls yX12_pass yX12_pass ∈ gw := tbt (tb8 (List.mem_of_getElem? (i := 189) rfl)) rfl
theorem ci_X12_pass : CIv yX12_pass cX12_pass 4 (some .int) 1 := ⟨qc_X12_pass, qi_yX12_pass, qs_X12_pass, qz_X12, by decide +kernel⟩
theorem qm_L_273 : Cond.methodLink RL 273 yX12_pass ∈ gw := tbt (tb8 (List.mem_of_getElem? (i := 187) rfl)) rfl
theorem qc_X11_wore : Cond.code yX11_wore cX11_wore 3 (some .int) ∈ gw := tbt (tb5 (List.mem_of_getElem? (i := 179) rfl)) rfl
theorem qi_yX11_wore : Cond.instanceMethod yX11_wore ∈ gw := tbt (tb5 (List.mem_of_getElem? (i := 177) rfl)) rfl
theorem qs_X11_wore : Cond.selects (yX11_wore).cls yX11_wore yX11_wore ∈ gw := tbt (tb5 (List.mem_of_getElem? (i := 178) rfl)) rfl
theorem ci_X11_wore : CIv yX11_wore cX11_wore 3 (some .int) 2 := ⟨qc_X11_wore, qi_yX11_wore, qs_X11_wore, qz_X11, by decide +kernel⟩
theorem qm_L_274 : Cond.methodLink RL 274 yX11_wore ∈ gw := tbt (tb5 (List.mem_of_getElem? (i := 176) rfl)) rfl
theorem qc_X12_wore : Cond.code yX12_wore cX12_wore 3 (some .int) ∈ gw := tbt (tb8 (List.mem_of_getElem? (i := 207) rfl)) rfl
theorem qi_yX12_wore : Cond.instanceMethod yX12_wore ∈ gw := tbt (tb8 (List.mem_of_getElem? (i := 205) rfl)) rfl
theorem qs_X12_wore : Cond.selects (yX12_wore).cls yX12_wore yX12_wore ∈ gw := tbt (tb8 (List.mem_of_getElem? (i := 206) rfl)) rfl
theorem ci_X12_wore : CIv yX12_wore cX12_wore 3 (some .int) 2 := ⟨qc_X12_wore, qi_yX12_wore, qs_X12_wore, qz_X12, by decide +kernel⟩
theorem qm_L_277 : Cond.methodLink RL 277 yX12_wore ∈ gw := tbt (tb8 (List.mem_of_getElem? (i := 204) rfl)) rfl
theorem qc_X11_wear : Cond.code yX11_wear cX11_wear 3 (some .boolean) ∈ gw := tbt (tb5 (List.mem_of_getElem? (i := 184) rfl)) rfl
theorem qi_yX11_wear : Cond.instanceMethod yX11_wear ∈ gw := tbt (tb5 (List.mem_of_getElem? (i := 182) rfl)) rfl
theorem qs_X11_wear : Cond.selects (yX11_wear).cls yX11_wear yX11_wear ∈ gw := tbt (tb5 (List.mem_of_getElem? (i := 183) rfl)) rfl
theorem ci_X11_wear : CIv yX11_wear cX11_wear 3 (some .boolean) 2 := ⟨qc_X11_wear, qi_yX11_wear, qs_X11_wear, qz_X11, by decide +kernel⟩
theorem qm_L_278 : Cond.methodLink RL 278 yX11_wear ∈ gw := tbt (tb5 (List.mem_of_getElem? (i := 181) rfl)) rfl
theorem qc_X12_wear : Cond.code yX12_wear cX12_wear 3 (some .boolean) ∈ gw := tbt (tb8 (List.mem_of_getElem? (i := 211) rfl)) rfl
theorem qi_yX12_wear : Cond.instanceMethod yX12_wear ∈ gw := tbt (tb8 (List.mem_of_getElem? (i := 209) rfl)) rfl
theorem qs_X12_wear : Cond.selects (yX12_wear).cls yX12_wear yX12_wear ∈ gw := tbt (tb8 (List.mem_of_getElem? (i := 210) rfl)) rfl
theorem ci_X12_wear : CIv yX12_wear cX12_wear 3 (some .boolean) 2 := ⟨qc_X12_wear, qi_yX12_wear, qs_X12_wear, qz_X12, by decide +kernel⟩
theorem qm_L_282 : Cond.methodLink RL 282 yX12_wear ∈ gw := tbt (tb8 (List.mem_of_getElem? (i := 208) rfl)) rfl
theorem dL_law_2322 : decode cL_law 2322 = .ok (.aload_n 1, 1) := fq1_43 (fl_36 (j := 18) rfl rfl)
theorem dL_law_2323 : decode cL_law 2323 = .ok (.aload_n 0, 1) := fq1_42 (fl_36 (j := 19) rfl rfl)
theorem dL_law_2324 : decode cL_law 2324 = .ok (.iload_n 3, 1) := fq1_29 (fl_36 (j := 20) rfl rfl)
theorem dL_law_2325 : decode cL_law 2325 = .ok (.iconst 1, 1) := fq1_4 (fl_36 (j := 21) rfl rfl)
theorem dL_law_2326 : decode cL_law 2326 = .ok (.iadd, 1) := fq1_96 (fl_36 (j := 22) rfl rfl)
theorem dL_law_2327 : decode cL_law 2327 = .ok (.iaload, 1) := fq1_46 (fl_36 (j := 23) rfl rfl)
theorem dL_law_2328 : decode cL_law 2328 = .ok (.aload_n 0, 1) := fq1_42 (fl_36 (j := 24) rfl rfl)
theorem dL_law_2329 : decode cL_law 2329 = .ok (.iload_n 3, 1) := fq1_29 (fl_36 (j := 25) rfl rfl)
theorem dL_law_2330 : decode cL_law 2330 = .ok (.iconst 2, 1) := fq1_5 (fl_36 (j := 26) rfl rfl)
theorem dL_law_2331 : decode cL_law 2331 = .ok (.iadd, 1) := fq1_96 (fl_36 (j := 27) rfl rfl)
theorem dL_law_2332 : decode cL_law 2332 = .ok (.iaload, 1) := fq1_46 (fl_36 (j := 28) rfl rfl)
theorem dL_law_2333 : decode cL_law 2333 = .ok (.aload_n 0, 1) := fq1_42 (fl_36 (j := 29) rfl rfl)
theorem dL_law_2334 : decode cL_law 2334 = .ok (.iload_n 3, 1) := fq1_29 (fl_36 (j := 30) rfl rfl)
theorem dL_law_2335 : decode cL_law 2335 = .ok (.iconst 3, 1) := fq1_6 (fl_36 (j := 31) rfl rfl)
theorem dL_law_2336 : decode cL_law 2336 = .ok (.iadd, 1) := fq1_96 (fl_36 (j := 32) rfl rfl)
theorem dL_law_2337 : decode cL_law 2337 = .ok (.iaload, 1) := fq1_46 (fl_36 (j := 33) rfl rfl)
theorem dL_law_2338 : decode cL_law 2338 = .ok (.invokevirtual 250, 3) := fq3_182 (fl_36 (j := 34) rfl rfl) (fl_36 (j := 35) rfl rfl) (fl_36 (j := 36) rfl rfl) (by decide)
theorem dL_law_2341 : decode cL_law 2341 = .ok (.pop, 1) := fq1_87 (fl_36 (j := 37) rfl rfl)
theorem dL_law_2342 : decode cL_law 2342 = .ok (.aload_n 2, 1) := fq1_44 (fl_36 (j := 38) rfl rfl)
theorem dL_law_2343 : decode cL_law 2343 = .ok (.aload_n 0, 1) := fq1_42 (fl_36 (j := 39) rfl rfl)
theorem dL_law_2344 : decode cL_law 2344 = .ok (.iload_n 3, 1) := fq1_29 (fl_36 (j := 40) rfl rfl)
theorem dL_law_2345 : decode cL_law 2345 = .ok (.iconst 1, 1) := fq1_4 (fl_36 (j := 41) rfl rfl)
theorem dL_law_2346 : decode cL_law 2346 = .ok (.iadd, 1) := fq1_96 (fl_36 (j := 42) rfl rfl)
theorem dL_law_2347 : decode cL_law 2347 = .ok (.iaload, 1) := fq1_46 (fl_36 (j := 43) rfl rfl)
theorem dL_law_2348 : decode cL_law 2348 = .ok (.aload_n 0, 1) := fq1_42 (fl_36 (j := 44) rfl rfl)
theorem dL_law_2349 : decode cL_law 2349 = .ok (.iload_n 3, 1) := fq1_29 (fl_36 (j := 45) rfl rfl)
theorem dL_law_2350 : decode cL_law 2350 = .ok (.iconst 2, 1) := fq1_5 (fl_36 (j := 46) rfl rfl)
theorem dL_law_2351 : decode cL_law 2351 = .ok (.iadd, 1) := fq1_96 (fl_36 (j := 47) rfl rfl)
theorem dL_law_2352 : decode cL_law 2352 = .ok (.iaload, 1) := fq1_46 (fl_36 (j := 48) rfl rfl)
theorem dL_law_2353 : decode cL_law 2353 = .ok (.aload_n 0, 1) := fq1_42 (fl_36 (j := 49) rfl rfl)
theorem dL_law_2354 : decode cL_law 2354 = .ok (.iload_n 3, 1) := fq1_29 (fl_36 (j := 50) rfl rfl)
theorem dL_law_2355 : decode cL_law 2355 = .ok (.iconst 3, 1) := fq1_6 (fl_36 (j := 51) rfl rfl)
theorem dL_law_2356 : decode cL_law 2356 = .ok (.iadd, 1) := fq1_96 (fl_36 (j := 52) rfl rfl)
theorem dL_law_2357 : decode cL_law 2357 = .ok (.iaload, 1) := fq1_46 (fl_36 (j := 53) rfl rfl)
theorem dL_law_2358 : decode cL_law 2358 = .ok (.invokevirtual 253, 3) := fq3_182 (fl_36 (j := 54) rfl rfl) (fl_36 (j := 55) rfl rfl) (fl_36 (j := 56) rfl rfl) (by decide)
theorem dL_law_2361 : decode cL_law 2361 = .ok (.pop, 1) := fq1_87 (fl_36 (j := 57) rfl rfl)
theorem dL_law_2362 : decode cL_law 2362 = .ok (.goto 484, 3) := fq3_167 (fl_36 (j := 58) rfl rfl) (fl_36 (j := 59) rfl rfl) (fl_36 (j := 60) rfl rfl) (by decide)
theorem dL_law_2365 : decode cL_law 2365 = .ok (.aload_n 1, 1) := fq1_43 (fl_36 (j := 61) rfl rfl)
theorem dL_law_2366 : decode cL_law 2366 = .ok (.aload_n 0, 1) := fq1_42 (fl_36 (j := 62) rfl rfl)
theorem dL_law_2367 : decode cL_law 2367 = .ok (.iload_n 3, 1) := fq1_29 (fl_36 (j := 63) rfl rfl)
theorem dL_law_2368 : decode cL_law 2368 = .ok (.iconst 1, 1) := fq1_4 (fl_37 (j := 0) rfl rfl)
theorem dL_law_2369 : decode cL_law 2369 = .ok (.iadd, 1) := fq1_96 (fl_37 (j := 1) rfl rfl)
theorem dL_law_2370 : decode cL_law 2370 = .ok (.iaload, 1) := fq1_46 (fl_37 (j := 2) rfl rfl)
theorem dL_law_2371 : decode cL_law 2371 = .ok (.aload_n 0, 1) := fq1_42 (fl_37 (j := 3) rfl rfl)
theorem dL_law_2372 : decode cL_law 2372 = .ok (.iload_n 3, 1) := fq1_29 (fl_37 (j := 4) rfl rfl)
theorem dL_law_2373 : decode cL_law 2373 = .ok (.iconst 2, 1) := fq1_5 (fl_37 (j := 5) rfl rfl)
theorem dL_law_2374 : decode cL_law 2374 = .ok (.iadd, 1) := fq1_96 (fl_37 (j := 6) rfl rfl)
theorem dL_law_2375 : decode cL_law 2375 = .ok (.iaload, 1) := fq1_46 (fl_37 (j := 7) rfl rfl)
theorem dL_law_2376 : decode cL_law 2376 = .ok (.aload_n 0, 1) := fq1_42 (fl_37 (j := 8) rfl rfl)
theorem dL_law_2377 : decode cL_law 2377 = .ok (.iload_n 3, 1) := fq1_29 (fl_37 (j := 9) rfl rfl)
theorem dL_law_2378 : decode cL_law 2378 = .ok (.iconst 3, 1) := fq1_6 (fl_37 (j := 10) rfl rfl)
theorem dL_law_2379 : decode cL_law 2379 = .ok (.iadd, 1) := fq1_96 (fl_37 (j := 11) rfl rfl)
theorem dL_law_2380 : decode cL_law 2380 = .ok (.iaload, 1) := fq1_46 (fl_37 (j := 12) rfl rfl)
theorem dL_law_2381 : decode cL_law 2381 = .ok (.invokevirtual 254, 3) := fq3_182 (fl_37 (j := 13) rfl rfl) (fl_37 (j := 14) rfl rfl) (fl_37 (j := 15) rfl rfl) (by decide)
theorem dL_law_2384 : decode cL_law 2384 = .ok (.pop, 1) := fq1_87 (fl_37 (j := 16) rfl rfl)
theorem dL_law_2385 : decode cL_law 2385 = .ok (.aload_n 2, 1) := fq1_44 (fl_37 (j := 17) rfl rfl)
theorem dL_law_2386 : decode cL_law 2386 = .ok (.aload_n 0, 1) := fq1_42 (fl_37 (j := 18) rfl rfl)
theorem dL_law_2387 : decode cL_law 2387 = .ok (.iload_n 3, 1) := fq1_29 (fl_37 (j := 19) rfl rfl)
theorem dL_law_2388 : decode cL_law 2388 = .ok (.iconst 1, 1) := fq1_4 (fl_37 (j := 20) rfl rfl)
theorem dL_law_2389 : decode cL_law 2389 = .ok (.iadd, 1) := fq1_96 (fl_37 (j := 21) rfl rfl)
theorem dL_law_2390 : decode cL_law 2390 = .ok (.iaload, 1) := fq1_46 (fl_37 (j := 22) rfl rfl)
theorem dL_law_2391 : decode cL_law 2391 = .ok (.aload_n 0, 1) := fq1_42 (fl_37 (j := 23) rfl rfl)
theorem dL_law_2392 : decode cL_law 2392 = .ok (.iload_n 3, 1) := fq1_29 (fl_37 (j := 24) rfl rfl)
theorem dL_law_2393 : decode cL_law 2393 = .ok (.iconst 2, 1) := fq1_5 (fl_37 (j := 25) rfl rfl)
theorem dL_law_2394 : decode cL_law 2394 = .ok (.iadd, 1) := fq1_96 (fl_37 (j := 26) rfl rfl)
theorem dL_law_2395 : decode cL_law 2395 = .ok (.iaload, 1) := fq1_46 (fl_37 (j := 27) rfl rfl)
theorem dL_law_2396 : decode cL_law 2396 = .ok (.aload_n 0, 1) := fq1_42 (fl_37 (j := 28) rfl rfl)
theorem dL_law_2397 : decode cL_law 2397 = .ok (.iload_n 3, 1) := fq1_29 (fl_37 (j := 29) rfl rfl)
theorem dL_law_2398 : decode cL_law 2398 = .ok (.iconst 3, 1) := fq1_6 (fl_37 (j := 30) rfl rfl)
theorem dL_law_2399 : decode cL_law 2399 = .ok (.iadd, 1) := fq1_96 (fl_37 (j := 31) rfl rfl)
theorem dL_law_2400 : decode cL_law 2400 = .ok (.iaload, 1) := fq1_46 (fl_37 (j := 32) rfl rfl)
theorem dL_law_2401 : decode cL_law 2401 = .ok (.invokevirtual 257, 3) := fq3_182 (fl_37 (j := 33) rfl rfl) (fl_37 (j := 34) rfl rfl) (fl_37 (j := 35) rfl rfl) (by decide)
theorem dL_law_2404 : decode cL_law 2404 = .ok (.pop, 1) := fq1_87 (fl_37 (j := 36) rfl rfl)
theorem dL_law_2405 : decode cL_law 2405 = .ok (.goto 441, 3) := fq3_167 (fl_37 (j := 37) rfl rfl) (fl_37 (j := 38) rfl rfl) (fl_37 (j := 39) rfl rfl) (by decide)
theorem dL_law_2408 : decode cL_law 2408 = .ok (.aload_n 1, 1) := fq1_43 (fl_37 (j := 40) rfl rfl)
theorem dL_law_2409 : decode cL_law 2409 = .ok (.aload_n 0, 1) := fq1_42 (fl_37 (j := 41) rfl rfl)
theorem dL_law_2410 : decode cL_law 2410 = .ok (.iload_n 3, 1) := fq1_29 (fl_37 (j := 42) rfl rfl)
theorem dL_law_2411 : decode cL_law 2411 = .ok (.iconst 1, 1) := fq1_4 (fl_37 (j := 43) rfl rfl)
theorem dL_law_2412 : decode cL_law 2412 = .ok (.iadd, 1) := fq1_96 (fl_37 (j := 44) rfl rfl)
theorem dL_law_2413 : decode cL_law 2413 = .ok (.iaload, 1) := fq1_46 (fl_37 (j := 45) rfl rfl)
theorem dL_law_2414 : decode cL_law 2414 = .ok (.aload_n 0, 1) := fq1_42 (fl_37 (j := 46) rfl rfl)
theorem dL_law_2415 : decode cL_law 2415 = .ok (.iload_n 3, 1) := fq1_29 (fl_37 (j := 47) rfl rfl)
theorem dL_law_2416 : decode cL_law 2416 = .ok (.iconst 2, 1) := fq1_5 (fl_37 (j := 48) rfl rfl)
theorem dL_law_2417 : decode cL_law 2417 = .ok (.iadd, 1) := fq1_96 (fl_37 (j := 49) rfl rfl)
theorem dL_law_2418 : decode cL_law 2418 = .ok (.iaload, 1) := fq1_46 (fl_37 (j := 50) rfl rfl)
theorem dL_law_2419 : decode cL_law 2419 = .ok (.aload_n 0, 1) := fq1_42 (fl_37 (j := 51) rfl rfl)
theorem dL_law_2420 : decode cL_law 2420 = .ok (.iload_n 3, 1) := fq1_29 (fl_37 (j := 52) rfl rfl)
theorem dL_law_2421 : decode cL_law 2421 = .ok (.iconst 3, 1) := fq1_6 (fl_37 (j := 53) rfl rfl)
theorem dL_law_2422 : decode cL_law 2422 = .ok (.iadd, 1) := fq1_96 (fl_37 (j := 54) rfl rfl)
theorem dL_law_2423 : decode cL_law 2423 = .ok (.iaload, 1) := fq1_46 (fl_37 (j := 55) rfl rfl)
theorem dL_law_2424 : decode cL_law 2424 = .ok (.invokevirtual 258, 3) := fq3_182 (fl_37 (j := 56) rfl rfl) (fl_37 (j := 57) rfl rfl) (fl_37 (j := 58) rfl rfl) (by decide)
theorem dL_law_2427 : decode cL_law 2427 = .ok (.pop, 1) := fq1_87 (fl_37 (j := 59) rfl rfl)
theorem dL_law_2428 : decode cL_law 2428 = .ok (.aload_n 2, 1) := fq1_44 (fl_37 (j := 60) rfl rfl)
theorem dL_law_2429 : decode cL_law 2429 = .ok (.aload_n 0, 1) := fq1_42 (fl_37 (j := 61) rfl rfl)
theorem dL_law_2430 : decode cL_law 2430 = .ok (.iload_n 3, 1) := fq1_29 (fl_37 (j := 62) rfl rfl)
theorem dL_law_2431 : decode cL_law 2431 = .ok (.iconst 1, 1) := fq1_4 (fl_37 (j := 63) rfl rfl)
theorem dL_law_2432 : decode cL_law 2432 = .ok (.iadd, 1) := fq1_96 (fl_38 (j := 0) rfl rfl)
theorem dL_law_2433 : decode cL_law 2433 = .ok (.iaload, 1) := fq1_46 (fl_38 (j := 1) rfl rfl)
theorem dL_law_2434 : decode cL_law 2434 = .ok (.aload_n 0, 1) := fq1_42 (fl_38 (j := 2) rfl rfl)
theorem dL_law_2435 : decode cL_law 2435 = .ok (.iload_n 3, 1) := fq1_29 (fl_38 (j := 3) rfl rfl)
theorem dL_law_2436 : decode cL_law 2436 = .ok (.iconst 2, 1) := fq1_5 (fl_38 (j := 4) rfl rfl)
theorem dL_law_2437 : decode cL_law 2437 = .ok (.iadd, 1) := fq1_96 (fl_38 (j := 5) rfl rfl)
theorem dL_law_2438 : decode cL_law 2438 = .ok (.iaload, 1) := fq1_46 (fl_38 (j := 6) rfl rfl)
theorem dL_law_2439 : decode cL_law 2439 = .ok (.aload_n 0, 1) := fq1_42 (fl_38 (j := 7) rfl rfl)
theorem dL_law_2440 : decode cL_law 2440 = .ok (.iload_n 3, 1) := fq1_29 (fl_38 (j := 8) rfl rfl)
theorem dL_law_2441 : decode cL_law 2441 = .ok (.iconst 3, 1) := fq1_6 (fl_38 (j := 9) rfl rfl)
theorem dL_law_2442 : decode cL_law 2442 = .ok (.iadd, 1) := fq1_96 (fl_38 (j := 10) rfl rfl)
theorem dL_law_2443 : decode cL_law 2443 = .ok (.iaload, 1) := fq1_46 (fl_38 (j := 11) rfl rfl)
theorem dL_law_2444 : decode cL_law 2444 = .ok (.invokevirtual 261, 3) := fq3_182 (fl_38 (j := 12) rfl rfl) (fl_38 (j := 13) rfl rfl) (fl_38 (j := 14) rfl rfl) (by decide)
theorem dL_law_2447 : decode cL_law 2447 = .ok (.pop, 1) := fq1_87 (fl_38 (j := 15) rfl rfl)
theorem dL_law_2448 : decode cL_law 2448 = .ok (.goto 398, 3) := fq3_167 (fl_38 (j := 16) rfl rfl) (fl_38 (j := 17) rfl rfl) (fl_38 (j := 18) rfl rfl) (by decide)
theorem dL_law_2451 : decode cL_law 2451 = .ok (.aload_n 1, 1) := fq1_43 (fl_38 (j := 19) rfl rfl)
theorem dL_law_2452 : decode cL_law 2452 = .ok (.aload_n 0, 1) := fq1_42 (fl_38 (j := 20) rfl rfl)
theorem dL_law_2453 : decode cL_law 2453 = .ok (.iload_n 3, 1) := fq1_29 (fl_38 (j := 21) rfl rfl)
theorem dL_law_2454 : decode cL_law 2454 = .ok (.iconst 1, 1) := fq1_4 (fl_38 (j := 22) rfl rfl)
theorem dL_law_2455 : decode cL_law 2455 = .ok (.iadd, 1) := fq1_96 (fl_38 (j := 23) rfl rfl)
theorem dL_law_2456 : decode cL_law 2456 = .ok (.iaload, 1) := fq1_46 (fl_38 (j := 24) rfl rfl)
theorem dL_law_2457 : decode cL_law 2457 = .ok (.aload_n 0, 1) := fq1_42 (fl_38 (j := 25) rfl rfl)
theorem dL_law_2458 : decode cL_law 2458 = .ok (.iload_n 3, 1) := fq1_29 (fl_38 (j := 26) rfl rfl)
theorem dL_law_2459 : decode cL_law 2459 = .ok (.iconst 2, 1) := fq1_5 (fl_38 (j := 27) rfl rfl)
theorem dL_law_2460 : decode cL_law 2460 = .ok (.iadd, 1) := fq1_96 (fl_38 (j := 28) rfl rfl)
theorem dL_law_2461 : decode cL_law 2461 = .ok (.iaload, 1) := fq1_46 (fl_38 (j := 29) rfl rfl)
theorem dL_law_2462 : decode cL_law 2462 = .ok (.invokevirtual 262, 3) := fq3_182 (fl_38 (j := 30) rfl rfl) (fl_38 (j := 31) rfl rfl) (fl_38 (j := 32) rfl rfl) (by decide)
theorem dL_law_2465 : decode cL_law 2465 = .ok (.pop, 1) := fq1_87 (fl_38 (j := 33) rfl rfl)
theorem dL_law_2466 : decode cL_law 2466 = .ok (.aload_n 2, 1) := fq1_44 (fl_38 (j := 34) rfl rfl)
theorem dL_law_2467 : decode cL_law 2467 = .ok (.aload_n 0, 1) := fq1_42 (fl_38 (j := 35) rfl rfl)
theorem dL_law_2468 : decode cL_law 2468 = .ok (.iload_n 3, 1) := fq1_29 (fl_38 (j := 36) rfl rfl)
theorem dL_law_2469 : decode cL_law 2469 = .ok (.iconst 1, 1) := fq1_4 (fl_38 (j := 37) rfl rfl)
theorem dL_law_2470 : decode cL_law 2470 = .ok (.iadd, 1) := fq1_96 (fl_38 (j := 38) rfl rfl)
theorem dL_law_2471 : decode cL_law 2471 = .ok (.iaload, 1) := fq1_46 (fl_38 (j := 39) rfl rfl)
theorem dL_law_2472 : decode cL_law 2472 = .ok (.aload_n 0, 1) := fq1_42 (fl_38 (j := 40) rfl rfl)
theorem dL_law_2473 : decode cL_law 2473 = .ok (.iload_n 3, 1) := fq1_29 (fl_38 (j := 41) rfl rfl)
theorem dL_law_2474 : decode cL_law 2474 = .ok (.iconst 2, 1) := fq1_5 (fl_38 (j := 42) rfl rfl)
theorem dL_law_2475 : decode cL_law 2475 = .ok (.iadd, 1) := fq1_96 (fl_38 (j := 43) rfl rfl)
theorem dL_law_2476 : decode cL_law 2476 = .ok (.iaload, 1) := fq1_46 (fl_38 (j := 44) rfl rfl)
theorem dL_law_2477 : decode cL_law 2477 = .ok (.invokevirtual 265, 3) := fq3_182 (fl_38 (j := 45) rfl rfl) (fl_38 (j := 46) rfl rfl) (fl_38 (j := 47) rfl rfl) (by decide)
theorem dL_law_2480 : decode cL_law 2480 = .ok (.pop, 1) := fq1_87 (fl_38 (j := 48) rfl rfl)
theorem dL_law_2481 : decode cL_law 2481 = .ok (.goto 365, 3) := fq3_167 (fl_38 (j := 49) rfl rfl) (fl_38 (j := 50) rfl rfl) (fl_38 (j := 51) rfl rfl) (by decide)
theorem dL_law_2484 : decode cL_law 2484 = .ok (.aload_n 1, 1) := fq1_43 (fl_38 (j := 52) rfl rfl)
theorem dL_law_2485 : decode cL_law 2485 = .ok (.aload_n 0, 1) := fq1_42 (fl_38 (j := 53) rfl rfl)
theorem dL_law_2486 : decode cL_law 2486 = .ok (.iload_n 3, 1) := fq1_29 (fl_38 (j := 54) rfl rfl)
theorem dL_law_2487 : decode cL_law 2487 = .ok (.iconst 1, 1) := fq1_4 (fl_38 (j := 55) rfl rfl)
theorem dL_law_2488 : decode cL_law 2488 = .ok (.iadd, 1) := fq1_96 (fl_38 (j := 56) rfl rfl)
theorem dL_law_2489 : decode cL_law 2489 = .ok (.iaload, 1) := fq1_46 (fl_38 (j := 57) rfl rfl)
theorem dL_law_2490 : decode cL_law 2490 = .ok (.aload_n 0, 1) := fq1_42 (fl_38 (j := 58) rfl rfl)
theorem dL_law_2491 : decode cL_law 2491 = .ok (.iload_n 3, 1) := fq1_29 (fl_38 (j := 59) rfl rfl)
theorem dL_law_2492 : decode cL_law 2492 = .ok (.iconst 2, 1) := fq1_5 (fl_38 (j := 60) rfl rfl)
theorem dL_law_2493 : decode cL_law 2493 = .ok (.iadd, 1) := fq1_96 (fl_38 (j := 61) rfl rfl)
theorem dL_law_2494 : decode cL_law 2494 = .ok (.iaload, 1) := fq1_46 (fl_38 (j := 62) rfl rfl)
theorem dL_law_2495 : decode cL_law 2495 = .ok (.aload_n 0, 1) := fq1_42 (fl_38 (j := 63) rfl rfl)
theorem dL_law_2496 : decode cL_law 2496 = .ok (.iload_n 3, 1) := fq1_29 (fl_39 (j := 0) rfl rfl)
theorem dL_law_2497 : decode cL_law 2497 = .ok (.iconst 3, 1) := fq1_6 (fl_39 (j := 1) rfl rfl)
theorem dL_law_2498 : decode cL_law 2498 = .ok (.iadd, 1) := fq1_96 (fl_39 (j := 2) rfl rfl)
theorem dL_law_2499 : decode cL_law 2499 = .ok (.iaload, 1) := fq1_46 (fl_39 (j := 3) rfl rfl)
theorem dL_law_2500 : decode cL_law 2500 = .ok (.invokevirtual 266, 3) := fq3_182 (fl_39 (j := 4) rfl rfl) (fl_39 (j := 5) rfl rfl) (fl_39 (j := 6) rfl rfl) (by decide)
theorem dL_law_2503 : decode cL_law 2503 = .ok (.pop, 1) := fq1_87 (fl_39 (j := 7) rfl rfl)
theorem dL_law_2504 : decode cL_law 2504 = .ok (.aload_n 2, 1) := fq1_44 (fl_39 (j := 8) rfl rfl)
theorem dL_law_2505 : decode cL_law 2505 = .ok (.aload_n 0, 1) := fq1_42 (fl_39 (j := 9) rfl rfl)
theorem dL_law_2506 : decode cL_law 2506 = .ok (.iload_n 3, 1) := fq1_29 (fl_39 (j := 10) rfl rfl)
theorem dL_law_2507 : decode cL_law 2507 = .ok (.iconst 1, 1) := fq1_4 (fl_39 (j := 11) rfl rfl)
theorem dL_law_2508 : decode cL_law 2508 = .ok (.iadd, 1) := fq1_96 (fl_39 (j := 12) rfl rfl)
theorem dL_law_2509 : decode cL_law 2509 = .ok (.iaload, 1) := fq1_46 (fl_39 (j := 13) rfl rfl)
theorem dL_law_2510 : decode cL_law 2510 = .ok (.aload_n 0, 1) := fq1_42 (fl_39 (j := 14) rfl rfl)
theorem dL_law_2511 : decode cL_law 2511 = .ok (.iload_n 3, 1) := fq1_29 (fl_39 (j := 15) rfl rfl)
theorem dL_law_2512 : decode cL_law 2512 = .ok (.iconst 2, 1) := fq1_5 (fl_39 (j := 16) rfl rfl)
theorem dL_law_2513 : decode cL_law 2513 = .ok (.iadd, 1) := fq1_96 (fl_39 (j := 17) rfl rfl)
theorem dL_law_2514 : decode cL_law 2514 = .ok (.iaload, 1) := fq1_46 (fl_39 (j := 18) rfl rfl)
theorem dL_law_2515 : decode cL_law 2515 = .ok (.aload_n 0, 1) := fq1_42 (fl_39 (j := 19) rfl rfl)
theorem dL_law_2516 : decode cL_law 2516 = .ok (.iload_n 3, 1) := fq1_29 (fl_39 (j := 20) rfl rfl)
theorem dL_law_2517 : decode cL_law 2517 = .ok (.iconst 3, 1) := fq1_6 (fl_39 (j := 21) rfl rfl)
theorem dL_law_2518 : decode cL_law 2518 = .ok (.iadd, 1) := fq1_96 (fl_39 (j := 22) rfl rfl)
theorem dL_law_2519 : decode cL_law 2519 = .ok (.iaload, 1) := fq1_46 (fl_39 (j := 23) rfl rfl)
theorem dL_law_2520 : decode cL_law 2520 = .ok (.invokevirtual 269, 3) := fq3_182 (fl_39 (j := 24) rfl rfl) (fl_39 (j := 25) rfl rfl) (fl_39 (j := 26) rfl rfl) (by decide)
theorem dL_law_2523 : decode cL_law 2523 = .ok (.pop, 1) := fq1_87 (fl_39 (j := 27) rfl rfl)
theorem dL_law_2524 : decode cL_law 2524 = .ok (.goto 322, 3) := fq3_167 (fl_39 (j := 28) rfl rfl) (fl_39 (j := 29) rfl rfl) (fl_39 (j := 30) rfl rfl) (by decide)
theorem dL_law_2527 : decode cL_law 2527 = .ok (.aload_n 1, 1) := fq1_43 (fl_39 (j := 31) rfl rfl)
theorem dL_law_2528 : decode cL_law 2528 = .ok (.aload_n 0, 1) := fq1_42 (fl_39 (j := 32) rfl rfl)
theorem dL_law_2529 : decode cL_law 2529 = .ok (.iload_n 3, 1) := fq1_29 (fl_39 (j := 33) rfl rfl)
theorem dL_law_2530 : decode cL_law 2530 = .ok (.iconst 1, 1) := fq1_4 (fl_39 (j := 34) rfl rfl)
theorem dL_law_2531 : decode cL_law 2531 = .ok (.iadd, 1) := fq1_96 (fl_39 (j := 35) rfl rfl)
theorem dL_law_2532 : decode cL_law 2532 = .ok (.iaload, 1) := fq1_46 (fl_39 (j := 36) rfl rfl)
theorem dL_law_2533 : decode cL_law 2533 = .ok (.invokevirtual 270, 3) := fq3_182 (fl_39 (j := 37) rfl rfl) (fl_39 (j := 38) rfl rfl) (fl_39 (j := 39) rfl rfl) (by decide)
theorem dL_law_2536 : decode cL_law 2536 = .ok (.pop, 1) := fq1_87 (fl_39 (j := 40) rfl rfl)
theorem dL_law_2537 : decode cL_law 2537 = .ok (.aload_n 2, 1) := fq1_44 (fl_39 (j := 41) rfl rfl)
theorem dL_law_2538 : decode cL_law 2538 = .ok (.aload_n 0, 1) := fq1_42 (fl_39 (j := 42) rfl rfl)
theorem dL_law_2539 : decode cL_law 2539 = .ok (.iload_n 3, 1) := fq1_29 (fl_39 (j := 43) rfl rfl)
theorem dL_law_2540 : decode cL_law 2540 = .ok (.iconst 1, 1) := fq1_4 (fl_39 (j := 44) rfl rfl)
theorem dL_law_2541 : decode cL_law 2541 = .ok (.iadd, 1) := fq1_96 (fl_39 (j := 45) rfl rfl)
theorem dL_law_2542 : decode cL_law 2542 = .ok (.iaload, 1) := fq1_46 (fl_39 (j := 46) rfl rfl)
theorem dL_law_2543 : decode cL_law 2543 = .ok (.invokevirtual 273, 3) := fq3_182 (fl_39 (j := 47) rfl rfl) (fl_39 (j := 48) rfl rfl) (fl_39 (j := 49) rfl rfl) (by decide)
theorem dL_law_2546 : decode cL_law 2546 = .ok (.pop, 1) := fq1_87 (fl_39 (j := 50) rfl rfl)
theorem dL_law_2547 : decode cL_law 2547 = .ok (.goto 299, 3) := fq3_167 (fl_39 (j := 51) rfl rfl) (fl_39 (j := 52) rfl rfl) (fl_39 (j := 53) rfl rfl) (by decide)
theorem dL_law_2550 : decode cL_law 2550 = .ok (.aload_n 1, 1) := fq1_43 (fl_39 (j := 54) rfl rfl)
theorem dL_law_2551 : decode cL_law 2551 = .ok (.aload_n 0, 1) := fq1_42 (fl_39 (j := 55) rfl rfl)
theorem dL_law_2552 : decode cL_law 2552 = .ok (.iload_n 3, 1) := fq1_29 (fl_39 (j := 56) rfl rfl)
theorem dL_law_2553 : decode cL_law 2553 = .ok (.iconst 1, 1) := fq1_4 (fl_39 (j := 57) rfl rfl)
theorem dL_law_2554 : decode cL_law 2554 = .ok (.iadd, 1) := fq1_96 (fl_39 (j := 58) rfl rfl)
theorem dL_law_2555 : decode cL_law 2555 = .ok (.iaload, 1) := fq1_46 (fl_39 (j := 59) rfl rfl)
theorem dL_law_2556 : decode cL_law 2556 = .ok (.aload_n 0, 1) := fq1_42 (fl_39 (j := 60) rfl rfl)
theorem dL_law_2557 : decode cL_law 2557 = .ok (.iload_n 3, 1) := fq1_29 (fl_39 (j := 61) rfl rfl)
theorem dL_law_2558 : decode cL_law 2558 = .ok (.iconst 2, 1) := fq1_5 (fl_39 (j := 62) rfl rfl)
theorem dL_law_2559 : decode cL_law 2559 = .ok (.iadd, 1) := fq1_96 (fl_39 (j := 63) rfl rfl)
theorem dL_law_2560 : decode cL_law 2560 = .ok (.iaload, 1) := fq1_46 (fl_40 (j := 0) rfl rfl)
theorem dL_law_2561 : decode cL_law 2561 = .ok (.invokevirtual 274, 3) := fq3_182 (fl_40 (j := 1) rfl rfl) (fl_40 (j := 2) rfl rfl) (fl_40 (j := 3) rfl rfl) (by decide)
theorem dL_law_2564 : decode cL_law 2564 = .ok (.pop, 1) := fq1_87 (fl_40 (j := 4) rfl rfl)
theorem dL_law_2565 : decode cL_law 2565 = .ok (.aload_n 2, 1) := fq1_44 (fl_40 (j := 5) rfl rfl)
theorem dL_law_2566 : decode cL_law 2566 = .ok (.aload_n 0, 1) := fq1_42 (fl_40 (j := 6) rfl rfl)
theorem dL_law_2567 : decode cL_law 2567 = .ok (.iload_n 3, 1) := fq1_29 (fl_40 (j := 7) rfl rfl)
theorem dL_law_2568 : decode cL_law 2568 = .ok (.iconst 1, 1) := fq1_4 (fl_40 (j := 8) rfl rfl)
theorem dL_law_2569 : decode cL_law 2569 = .ok (.iadd, 1) := fq1_96 (fl_40 (j := 9) rfl rfl)
theorem dL_law_2570 : decode cL_law 2570 = .ok (.iaload, 1) := fq1_46 (fl_40 (j := 10) rfl rfl)
theorem dL_law_2571 : decode cL_law 2571 = .ok (.aload_n 0, 1) := fq1_42 (fl_40 (j := 11) rfl rfl)
theorem dL_law_2572 : decode cL_law 2572 = .ok (.iload_n 3, 1) := fq1_29 (fl_40 (j := 12) rfl rfl)
theorem dL_law_2573 : decode cL_law 2573 = .ok (.iconst 2, 1) := fq1_5 (fl_40 (j := 13) rfl rfl)
theorem dL_law_2574 : decode cL_law 2574 = .ok (.iadd, 1) := fq1_96 (fl_40 (j := 14) rfl rfl)
theorem dL_law_2575 : decode cL_law 2575 = .ok (.iaload, 1) := fq1_46 (fl_40 (j := 15) rfl rfl)
theorem dL_law_2576 : decode cL_law 2576 = .ok (.invokevirtual 277, 3) := fq3_182 (fl_40 (j := 16) rfl rfl) (fl_40 (j := 17) rfl rfl) (fl_40 (j := 18) rfl rfl) (by decide)
theorem dL_law_2579 : decode cL_law 2579 = .ok (.pop, 1) := fq1_87 (fl_40 (j := 19) rfl rfl)
theorem dL_law_2580 : decode cL_law 2580 = .ok (.goto 266, 3) := fq3_167 (fl_40 (j := 20) rfl rfl) (fl_40 (j := 21) rfl rfl) (fl_40 (j := 22) rfl rfl) (by decide)
theorem dL_law_2583 : decode cL_law 2583 = .ok (.aload_n 1, 1) := fq1_43 (fl_40 (j := 23) rfl rfl)
theorem dL_law_2584 : decode cL_law 2584 = .ok (.aload_n 0, 1) := fq1_42 (fl_40 (j := 24) rfl rfl)
theorem dL_law_2585 : decode cL_law 2585 = .ok (.iload_n 3, 1) := fq1_29 (fl_40 (j := 25) rfl rfl)
theorem dL_law_2586 : decode cL_law 2586 = .ok (.iconst 1, 1) := fq1_4 (fl_40 (j := 26) rfl rfl)
theorem dL_law_2587 : decode cL_law 2587 = .ok (.iadd, 1) := fq1_96 (fl_40 (j := 27) rfl rfl)
theorem dL_law_2588 : decode cL_law 2588 = .ok (.iaload, 1) := fq1_46 (fl_40 (j := 28) rfl rfl)
theorem dL_law_2589 : decode cL_law 2589 = .ok (.aload_n 0, 1) := fq1_42 (fl_40 (j := 29) rfl rfl)
theorem dL_law_2590 : decode cL_law 2590 = .ok (.iload_n 3, 1) := fq1_29 (fl_40 (j := 30) rfl rfl)
theorem dL_law_2591 : decode cL_law 2591 = .ok (.iconst 2, 1) := fq1_5 (fl_40 (j := 31) rfl rfl)
theorem dL_law_2592 : decode cL_law 2592 = .ok (.iadd, 1) := fq1_96 (fl_40 (j := 32) rfl rfl)
theorem dL_law_2593 : decode cL_law 2593 = .ok (.iaload, 1) := fq1_46 (fl_40 (j := 33) rfl rfl)
theorem dL_law_2594 : decode cL_law 2594 = .ok (.invokevirtual 278, 3) := fq3_182 (fl_40 (j := 34) rfl rfl) (fl_40 (j := 35) rfl rfl) (fl_40 (j := 36) rfl rfl) (by decide)
theorem dL_law_2597 : decode cL_law 2597 = .ok (.pop, 1) := fq1_87 (fl_40 (j := 37) rfl rfl)
theorem dL_law_2598 : decode cL_law 2598 = .ok (.aload_n 2, 1) := fq1_44 (fl_40 (j := 38) rfl rfl)
theorem dL_law_2599 : decode cL_law 2599 = .ok (.aload_n 0, 1) := fq1_42 (fl_40 (j := 39) rfl rfl)
theorem dL_law_2600 : decode cL_law 2600 = .ok (.iload_n 3, 1) := fq1_29 (fl_40 (j := 40) rfl rfl)
theorem dL_law_2601 : decode cL_law 2601 = .ok (.iconst 1, 1) := fq1_4 (fl_40 (j := 41) rfl rfl)
theorem dL_law_2602 : decode cL_law 2602 = .ok (.iadd, 1) := fq1_96 (fl_40 (j := 42) rfl rfl)
theorem dL_law_2603 : decode cL_law 2603 = .ok (.iaload, 1) := fq1_46 (fl_40 (j := 43) rfl rfl)
theorem dL_law_2604 : decode cL_law 2604 = .ok (.aload_n 0, 1) := fq1_42 (fl_40 (j := 44) rfl rfl)
theorem dL_law_2605 : decode cL_law 2605 = .ok (.iload_n 3, 1) := fq1_29 (fl_40 (j := 45) rfl rfl)
theorem dL_law_2606 : decode cL_law 2606 = .ok (.iconst 2, 1) := fq1_5 (fl_40 (j := 46) rfl rfl)
theorem dL_law_2607 : decode cL_law 2607 = .ok (.iadd, 1) := fq1_96 (fl_40 (j := 47) rfl rfl)
theorem dL_law_2608 : decode cL_law 2608 = .ok (.iaload, 1) := fq1_46 (fl_40 (j := 48) rfl rfl)
theorem dL_law_2609 : decode cL_law 2609 = .ok (.invokevirtual 282, 3) := fq3_182 (fl_40 (j := 49) rfl rfl) (fl_40 (j := 50) rfl rfl) (fl_40 (j := 51) rfl rfl) (by decide)
theorem dL_law_2612 : decode cL_law 2612 = .ok (.pop, 1) := fq1_87 (fl_40 (j := 52) rfl rfl)
theorem dL_law_2613 : decode cL_law 2613 = .ok (.goto 233, 3) := fq3_167 (fl_40 (j := 53) rfl rfl) (fl_40 (j := 54) rfl rfl) (fl_40 (j := 55) rfl rfl) (by decide)
