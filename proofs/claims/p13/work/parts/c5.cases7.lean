section
theorem qc_X11_priceSeen : Cond.code yX11_priceSeen cX11_priceSeen 5 (some .int) ∈ gw := tbt (tb5 (List.mem_of_getElem? (i := 126) rfl)) rfl
theorem qi_yX11_priceSeen : Cond.instanceMethod yX11_priceSeen ∈ gw := tbt (tb5 (List.mem_of_getElem? (i := 124) rfl)) rfl
theorem qs_X11_priceSeen : Cond.selects (yX11_priceSeen).cls yX11_priceSeen yX11_priceSeen ∈ gw := tbt (tb5 (List.mem_of_getElem? (i := 125) rfl)) rfl
theorem ci_X11_priceSeen : CIv yX11_priceSeen cX11_priceSeen 5 (some .int) 3 := ⟨qc_X11_priceSeen, qi_yX11_priceSeen, qs_X11_priceSeen, qz_X11, by decide +kernel⟩
theorem qm_L_250 : Cond.methodLink RL 250 yX11_priceSeen ∈ gw := tbt (tb5 (List.mem_of_getElem? (i := 123) rfl)) rfl
theorem qc_X12_priceSeen : Cond.code yX12_priceSeen cX12_priceSeen 5 (some .int) ∈ gw := tbt (tb8 (List.mem_of_getElem? (i := 162) rfl)) rfl
theorem qi_yX12_priceSeen : Cond.instanceMethod yX12_priceSeen ∈ gw := tbt (tb8 (List.mem_of_getElem? (i := 160) rfl)) rfl
theorem qs_X12_priceSeen : Cond.selects (yX12_priceSeen).cls yX12_priceSeen yX12_priceSeen ∈ gw := tbt (tb8 (List.mem_of_getElem? (i := 161) rfl)) rfl
theorem ci_X12_priceSeen : CIv yX12_priceSeen cX12_priceSeen 5 (some .int) 3 := ⟨qc_X12_priceSeen, qi_yX12_priceSeen, qs_X12_priceSeen, qz_X12, by decide +kernel⟩
theorem qm_L_253 : Cond.methodLink RL 253 yX12_priceSeen ∈ gw := tbt (tb8 (List.mem_of_getElem? (i := 159) rfl)) rfl
theorem qc_X11_gain : Cond.code yX11_gain cX11_gain 4 (some .int) ∈ gw := tbt (tb5 (List.mem_of_getElem? (i := 130) rfl)) rfl
theorem qi_yX11_gain : Cond.instanceMethod yX11_gain ∈ gw := tbt (tb5 (List.mem_of_getElem? (i := 128) rfl)) rfl
theorem qs_X11_gain : Cond.selects (yX11_gain).cls yX11_gain yX11_gain ∈ gw := tbt (tb5 (List.mem_of_getElem? (i := 129) rfl)) rfl
theorem ci_X11_gain : CIv yX11_gain cX11_gain 4 (some .int) 3 := ⟨qc_X11_gain, qi_yX11_gain, qs_X11_gain, qz_X11, by decide +kernel⟩
theorem qm_L_254 : Cond.methodLink RL 254 yX11_gain ∈ gw := tbt (tb5 (List.mem_of_getElem? (i := 127) rfl)) rfl
theorem qc_X12_gain : Cond.code yX12_gain cX12_gain 4 (some .int) ∈ gw := tbt (tb8 (List.mem_of_getElem? (i := 166) rfl)) rfl
theorem qi_yX12_gain : Cond.instanceMethod yX12_gain ∈ gw := tbt (tb8 (List.mem_of_getElem? (i := 164) rfl)) rfl
theorem qs_X12_gain : Cond.selects (yX12_gain).cls yX12_gain yX12_gain ∈ gw := tbt (tb8 (List.mem_of_getElem? (i := 165) rfl)) rfl
theorem ci_X12_gain : CIv yX12_gain cX12_gain 4 (some .int) 3 := ⟨qc_X12_gain, qi_yX12_gain, qs_X12_gain, qz_X12, by decide +kernel⟩
theorem qm_L_257 : Cond.methodLink RL 257 yX12_gain ∈ gw := tbt (tb8 (List.mem_of_getElem? (i := 163) rfl)) rfl
theorem qc_X11_hoped : Cond.code yX11_hoped cX11_hoped 5 (some .int) ∈ gw := tbt (tb5 (List.mem_of_getElem? (i := 140) rfl)) rfl
theorem qi_yX11_hoped : Cond.instanceMethod yX11_hoped ∈ gw := tbt (tb5 (List.mem_of_getElem? (i := 138) rfl)) rfl
theorem qs_X11_hoped : Cond.selects (yX11_hoped).cls yX11_hoped yX11_hoped ∈ gw := tbt (tb5 (List.mem_of_getElem? (i := 139) rfl)) rfl
theorem ci_X11_hoped : CIv yX11_hoped cX11_hoped 5 (some .int) 3 := ⟨qc_X11_hoped, qi_yX11_hoped, qs_X11_hoped, qz_X11, by decide +kernel⟩
theorem qm_L_258 : Cond.methodLink RL 258 yX11_hoped ∈ gw := tbt (tb5 (List.mem_of_getElem? (i := 137) rfl)) rfl
theorem qc_X12_hoped : Cond.code yX12_hoped cX12_hoped 5 (some .int) ∈ gw := tbt (tb8 (List.mem_of_getElem? (i := 174) rfl)) rfl
theorem qi_yX12_hoped : Cond.instanceMethod yX12_hoped ∈ gw := tbt (tb8 (List.mem_of_getElem? (i := 172) rfl)) rfl
theorem qs_X12_hoped : Cond.selects (yX12_hoped).cls yX12_hoped yX12_hoped ∈ gw := tbt (tb8 (List.mem_of_getElem? (i := 173) rfl)) rfl
theorem ci_X12_hoped : CIv yX12_hoped cX12_hoped 5 (some .int) 3 := ⟨qc_X12_hoped, qi_yX12_hoped, qs_X12_hoped, qz_X12, by decide +kernel⟩
theorem qm_L_261 : Cond.methodLink RL 261 yX12_hoped ∈ gw := tbt (tb8 (List.mem_of_getElem? (i := 171) rfl)) rfl
theorem qc_X11_market : Cond.code yX11_market cX11_market 7 (some .int) ∈ gw := tbt (tb5 (List.mem_of_getElem? (i := 144) rfl)) rfl
theorem qi_yX11_market : Cond.instanceMethod yX11_market ∈ gw := tbt (tb5 (List.mem_of_getElem? (i := 142) rfl)) rfl
theorem qs_X11_market : Cond.selects (yX11_market).cls yX11_market yX11_market ∈ gw := tbt (tb5 (List.mem_of_getElem? (i := 143) rfl)) rfl
theorem ci_X11_market : CIv yX11_market cX11_market 7 (some .int) 2 := ⟨qc_X11_market, qi_yX11_market, qs_X11_market, qz_X11, by decide +kernel⟩
theorem qm_L_262 : Cond.methodLink RL 262 yX11_market ∈ gw := tbt (tb5 (List.mem_of_getElem? (i := 141) rfl)) rfl
theorem qc_X12_market : Cond.code yX12_market cX12_market 5 (some .int) ∈ gw := tbt (tb8 (List.mem_of_getElem? (i := 178) rfl)) rfl
theorem qi_yX12_market : Cond.instanceMethod yX12_market ∈ gw := tbt (tb8 (List.mem_of_getElem? (i := 176) rfl)) rfl
theorem qs_X12_market : Cond.selects (yX12_market).cls yX12_market yX12_market ∈ gw := tbt (tb8 (List.mem_of_getElem? (i := 177) rfl)) rfl
theorem ci_X12_market : CIv yX12_market cX12_market 5 (some .int) 2 := ⟨qc_X12_market, qi_yX12_market, qs_X12_market, qz_X12, by decide +kernel⟩
theorem qm_L_265 : Cond.methodLink RL 265 yX12_market ∈ gw := tbt (tb8 (List.mem_of_getElem? (i := 175) rfl)) rfl
theorem qc_X11_meanPrice : Cond.code yX11_meanPrice cX11_meanPrice 8 (some .boolean) ∈ gw := tbt (tb5 (List.mem_of_getElem? (i := 148) rfl)) rfl
theorem qi_yX11_meanPrice : Cond.instanceMethod yX11_meanPrice ∈ gw := tbt (tb5 (List.mem_of_getElem? (i := 146) rfl)) rfl
theorem qs_X11_meanPrice : Cond.selects (yX11_meanPrice).cls yX11_meanPrice yX11_meanPrice ∈ gw := tbt (tb5 (List.mem_of_getElem? (i := 147) rfl)) rfl
theorem ci_X11_meanPrice : CIv yX11_meanPrice cX11_meanPrice 8 (some .boolean) 3 := ⟨qc_X11_meanPrice, qi_yX11_meanPrice, qs_X11_meanPrice, qz_X11, by decide +kernel⟩
theorem qm_L_266 : Cond.methodLink RL 266 yX11_meanPrice ∈ gw := tbt (tb5 (List.mem_of_getElem? (i := 145) rfl)) rfl
theorem qc_X12_meanPrice : Cond.code yX12_meanPrice cX12_meanPrice 7 (some .boolean) ∈ gw := tbt (tb8 (List.mem_of_getElem? (i := 182) rfl)) rfl
theorem qi_yX12_meanPrice : Cond.instanceMethod yX12_meanPrice ∈ gw := tbt (tb8 (List.mem_of_getElem? (i := 180) rfl)) rfl
theorem qs_X12_meanPrice : Cond.selects (yX12_meanPrice).cls yX12_meanPrice yX12_meanPrice ∈ gw := tbt (tb8 (List.mem_of_getElem? (i := 181) rfl)) rfl
theorem ci_X12_meanPrice : CIv yX12_meanPrice cX12_meanPrice 7 (some .boolean) 3 := ⟨qc_X12_meanPrice, qi_yX12_meanPrice, qs_X12_meanPrice, qz_X12, by decide +kernel⟩
theorem qm_L_269 : Cond.methodLink RL 269 yX12_meanPrice ∈ gw := tbt (tb8 (List.mem_of_getElem? (i := 179) rfl)) rfl
theorem qc_X11_pass : Cond.code yX11_pass cX11_pass 2 (some .int) ∈ gw := tbt (tb5 (List.mem_of_getElem? (i := 162) rfl)) rfl
theorem qi_yX11_pass : Cond.instanceMethod yX11_pass ∈ gw := tbt (tb5 (List.mem_of_getElem? (i := 160) rfl)) rfl
theorem qs_X11_pass : Cond.selects (yX11_pass).cls yX11_pass yX11_pass ∈ gw := tbt (tb5 (List.mem_of_getElem? (i := 161) rfl)) rfl
theorem ci_X11_pass : CIv yX11_pass cX11_pass 2 (some .int) 1 := ⟨qc_X11_pass, qi_yX11_pass, qs_X11_pass, qz_X11, by decide +kernel⟩
theorem qm_L_270 : Cond.methodLink RL 270 yX11_pass ∈ gw := tbt (tb5 (List.mem_of_getElem? (i := 159) rfl)) rfl
theorem qc_X12_pass : Cond.code yX12_pass cX12_pass 4 (some .int) ∈ gw := tbt (tb8 (List.mem_of_getElem? (i := 190) rfl)) rfl
theorem qi_yX12_pass : Cond.instanceMethod yX12_pass ∈ gw := tbt (tb8 (List.mem_of_getElem? (i := 188) rfl)) rfl
theorem qs_X12_pass : Cond.selects (yX12_pass).cls yX12_pass yX12_pass ∈ gw := tbt (tb8 (List.mem_of_getElem? (i := 189) rfl)) rfl
theorem ci_X12_pass : CIv yX12_pass cX12_pass 4 (some .int) 1 := ⟨qc_X12_pass, qi_yX12_pass, qs_X12_pass, qz_X12, by decide +kernel⟩
theorem qm_L_273 : Cond.methodLink RL 273 yX12_pass ∈ gw := tbt (tb8 (List.mem_of_getElem? (i := 187) rfl)) rfl
theorem qc_X11_wore : Cond.code yX11_wore cX11_wore 3 (some .int) ∈ gw := tbt (tb5 (List.mem_of_getElem? (i := 179) rfl)) rfl
theorem qi_yX11_wore : Cond.instanceMethod yX11_wore ∈ gw := tbt (tb5 (List.mem_of_getElem? (i := 177) rfl)) rfl
theorem qs_X11_wore : Cond.selects (yX11_wore).cls yX11_wore yX11_wore ∈ gw := tbt (tb5 (List.mem_of_getElem? (i := 178) rfl)) rfl
theorem ci_X11_wore : CIv yX11_wore cX11_wore 3 (some .int) 2 := ⟨qc_X11_wore, qi_yX11_wore, qs_X11_wore, qz_X11, by decide +kernel⟩
theorem qm_L_274 : Cond.methodLink RL 274 yX11_wore ∈ gw := tbt (tb5 (List.mem_of_getElem? (i := 176) rfl)) rfl
theorem qc_X12_wore : Cond.code yX12_wore cX12_wore 3 (some .int) ∈ gw := tbt (tb8 (List.mem_of_getElem? (i := 207) rfl)) rfl
theorem qi_yX12_wore : Cond.instanceMethod yX12_wore ∈ gw := tbt (tb8 (List.mem_of_getElem? (i := 205) rfl)) rfl
theorem qs_X12_wore : Cond.selects (yX12_wore).cls yX12_wore yX12_wore ∈ gw := tbt (tb8 (List.mem_of_getElem? (i := 206) rfl)) rfl
theorem ci_X12_wore : CIv yX12_wore cX12_wore 3 (some .int) 2 := ⟨qc_X12_wore, qi_yX12_wore, qs_X12_wore, qz_X12, by decide +kernel⟩
theorem qm_L_277 : Cond.methodLink RL 277 yX12_wore ∈ gw := tbt (tb8 (List.mem_of_getElem? (i := 204) rfl)) rfl
theorem qc_X11_wear : Cond.code yX11_wear cX11_wear 3 (some .boolean) ∈ gw := tbt (tb5 (List.mem_of_getElem? (i := 184) rfl)) rfl
theorem qi_yX11_wear : Cond.instanceMethod yX11_wear ∈ gw := tbt (tb5 (List.mem_of_getElem? (i := 182) rfl)) rfl
theorem qs_X11_wear : Cond.selects (yX11_wear).cls yX11_wear yX11_wear ∈ gw := tbt (tb5 (List.mem_of_getElem? (i := 183) rfl)) rfl
theorem ci_X11_wear : CIv yX11_wear cX11_wear 3 (some .boolean) 2 := ⟨qc_X11_wear, qi_yX11_wear, qs_X11_wear, qz_X11, by decide +kernel⟩
theorem qm_L_278 : Cond.methodLink RL 278 yX11_wear ∈ gw := tbt (tb5 (List.mem_of_getElem? (i := 181) rfl)) rfl
theorem qc_X12_wear : Cond.code yX12_wear cX12_wear 3 (some .boolean) ∈ gw := tbt (tb8 (List.mem_of_getElem? (i := 211) rfl)) rfl
theorem qi_yX12_wear : Cond.instanceMethod yX12_wear ∈ gw := tbt (tb8 (List.mem_of_getElem? (i := 209) rfl)) rfl
theorem qs_X12_wear : Cond.selects (yX12_wear).cls yX12_wear yX12_wear ∈ gw := tbt (tb8 (List.mem_of_getElem? (i := 210) rfl)) rfl
theorem ci_X12_wear : CIv yX12_wear cX12_wear 3 (some .boolean) 2 := ⟨qc_X12_wear, qi_yX12_wear, qs_X12_wear, qz_X12, by decide +kernel⟩
theorem qm_L_282 : Cond.methodLink RL 282 yX12_wear ∈ gw := tbt (tb8 (List.mem_of_getElem? (i := 208) rfl)) rfl
theorem dL_law_2322 : decode cL_law 2322 = .ok (.aload_n 1, 1) := fq1_43 (fl_36 (j := 18) rfl rfl)
theorem dL_law_2323 : decode cL_law 2323 = .ok (.aload_n 0, 1) := fq1_42 (fl_36 (j := 19) rfl rfl)
theorem dL_law_2324 : decode cL_law 2324 = .ok (.iload_n 3, 1) := fq1_29 (fl_36 (j := 20) rfl rfl)
theorem dL_law_2325 : decode cL_law 2325 = .ok (.iconst 1, 1) := fq1_4 (fl_36 (j := 21) rfl rfl)
theorem dL_law_2326 : decode cL_law 2326 = .ok (.iadd, 1) := fq1_96 (fl_36 (j := 22) rfl rfl)
theorem dL_law_2327 : decode cL_law 2327 = .ok (.iaload, 1) := fq1_46 (fl_36 (j := 23) rfl rfl)
theorem dL_law_2328 : decode cL_law 2328 = .ok (.aload_n 0, 1) := fq1_42 (fl_36 (j := 24) rfl rfl)
theorem dL_law_2329 : decode cL_law 2329 = .ok (.iload_n 3, 1) := fq1_29 (fl_36 (j := 25) rfl rfl)
theorem dL_law_2330 : decode cL_law 2330 = .ok (.iconst 2, 1) := fq1_5 (fl_36 (j := 26) rfl rfl)
theorem dL_law_2331 : decode cL_law 2331 = .ok (.iadd, 1) := fq1_96 (fl_36 (j := 27) rfl rfl)
theorem dL_law_2332 : decode cL_law 2332 = .ok (.iaload, 1) := fq1_46 (fl_36 (j := 28) rfl rfl)
theorem dL_law_2333 : decode cL_law 2333 = .ok (.aload_n 0, 1) := fq1_42 (fl_36 (j := 29) rfl rfl)
theorem dL_law_2334 : decode cL_law 2334 = .ok (.iload_n 3, 1) := fq1_29 (fl_36 (j := 30) rfl rfl)
theorem dL_law_2335 : decode cL_law 2335 = .ok (.iconst 3, 1) := fq1_6 (fl_36 (j := 31) rfl rfl)
theorem dL_law_2336 : decode cL_law 2336 = .ok (.iadd, 1) := fq1_96 (fl_36 (j := 32) rfl rfl)
theorem dL_law_2337 : decode cL_law 2337 = .ok (.iaload, 1) := fq1_46 (fl_36 (j := 33) rfl rfl)
theorem dL_law_2338 : decode cL_law 2338 = .ok (.invokevirtual 250, 3) := fq3_182 (fl_36 (j := 34) rfl rfl) (fl_36 (j := 35) rfl rfl) (fl_36 (j := 36) rfl rfl) rfl
theorem dL_law_2341 : decode cL_law 2341 = .ok (.pop, 1) := fq1_87 (fl_36 (j := 37) rfl rfl)
theorem dL_law_2342 : decode cL_law 2342 = .ok (.aload_n 2, 1) := fq1_44 (fl_36 (j := 38) rfl rfl)
theorem dL_law_2343 : decode cL_law 2343 = .ok (.aload_n 0, 1) := fq1_42 (fl_36 (j := 39) rfl rfl)
theorem dL_law_2344 : decode cL_law 2344 = .ok (.iload_n 3, 1) := fq1_29 (fl_36 (j := 40) rfl rfl)
theorem dL_law_2345 : decode cL_law 2345 = .ok (.iconst 1, 1) := fq1_4 (fl_36 (j := 41) rfl rfl)
theorem dL_law_2346 : decode cL_law 2346 = .ok (.iadd, 1) := fq1_96 (fl_36 (j := 42) rfl rfl)
theorem dL_law_2347 : decode cL_law 2347 = .ok (.iaload, 1) := fq1_46 (fl_36 (j := 43) rfl rfl)
theorem dL_law_2348 : decode cL_law 2348 = .ok (.aload_n 0, 1) := fq1_42 (fl_36 (j := 44) rfl rfl)
theorem dL_law_2349 : decode cL_law 2349 = .ok (.iload_n 3, 1) := fq1_29 (fl_36 (j := 45) rfl rfl)
theorem dL_law_2350 : decode cL_law 2350 = .ok (.iconst 2, 1) := fq1_5 (fl_36 (j := 46) rfl rfl)
theorem dL_law_2351 : decode cL_law 2351 = .ok (.iadd, 1) := fq1_96 (fl_36 (j := 47) rfl rfl)
theorem dL_law_2352 : decode cL_law 2352 = .ok (.iaload, 1) := fq1_46 (fl_36 (j := 48) rfl rfl)
theorem dL_law_2353 : decode cL_law 2353 = .ok (.aload_n 0, 1) := fq1_42 (fl_36 (j := 49) rfl rfl)
theorem dL_law_2354 : decode cL_law 2354 = .ok (.iload_n 3, 1) := fq1_29 (fl_36 (j := 50) rfl rfl)
theorem dL_law_2355 : decode cL_law 2355 = .ok (.iconst 3, 1) := fq1_6 (fl_36 (j := 51) rfl rfl)
theorem dL_law_2356 : decode cL_law 2356 = .ok (.iadd, 1) := fq1_96 (fl_36 (j := 52) rfl rfl)
theorem dL_law_2357 : decode cL_law 2357 = .ok (.iaload, 1) := fq1_46 (fl_36 (j := 53) rfl rfl)
theorem dL_law_2358 : decode cL_law 2358 = .ok (.invokevirtual 253, 3) := fq3_182 (fl_36 (j := 54) rfl rfl) (fl_36 (j := 55) rfl rfl) (fl_36 (j := 56) rfl rfl) rfl
theorem dL_law_2361 : decode cL_law 2361 = .ok (.pop, 1) := fq1_87 (fl_36 (j := 57) rfl rfl)
theorem dL_law_2362 : decode cL_law 2362 = .ok (.goto 484, 3) := fq3_167 (fl_36 (j := 58) rfl rfl) (fl_36 (j := 59) rfl rfl) (fl_36 (j := 60) rfl rfl) (s2p rfl (bl rfl))
theorem dL_law_2365 : decode cL_law 2365 = .ok (.aload_n 1, 1) := fq1_43 (fl_36 (j := 61) rfl rfl)
theorem dL_law_2366 : decode cL_law 2366 = .ok (.aload_n 0, 1) := fq1_42 (fl_36 (j := 62) rfl rfl)
theorem dL_law_2367 : decode cL_law 2367 = .ok (.iload_n 3, 1) := fq1_29 (fl_36 (j := 63) rfl rfl)
theorem dL_law_2368 : decode cL_law 2368 = .ok (.iconst 1, 1) := fq1_4 (fl_37 (j := 0) rfl rfl)
theorem dL_law_2369 : decode cL_law 2369 = .ok (.iadd, 1) := fq1_96 (fl_37 (j := 1) rfl rfl)
theorem dL_law_2370 : decode cL_law 2370 = .ok (.iaload, 1) := fq1_46 (fl_37 (j := 2) rfl rfl)
theorem dL_law_2371 : decode cL_law 2371 = .ok (.aload_n 0, 1) := fq1_42 (fl_37 (j := 3) rfl rfl)
theorem dL_law_2372 : decode cL_law 2372 = .ok (.iload_n 3, 1) := fq1_29 (fl_37 (j := 4) rfl rfl)
theorem dL_law_2373 : decode cL_law 2373 = .ok (.iconst 2, 1) := fq1_5 (fl_37 (j := 5) rfl rfl)
theorem dL_law_2374 : decode cL_law 2374 = .ok (.iadd, 1) := fq1_96 (fl_37 (j := 6) rfl rfl)
theorem dL_law_2375 : decode cL_law 2375 = .ok (.iaload, 1) := fq1_46 (fl_37 (j := 7) rfl rfl)
theorem dL_law_2376 : decode cL_law 2376 = .ok (.aload_n 0, 1) := fq1_42 (fl_37 (j := 8) rfl rfl)
theorem dL_law_2377 : decode cL_law 2377 = .ok (.iload_n 3, 1) := fq1_29 (fl_37 (j := 9) rfl rfl)
theorem dL_law_2378 : decode cL_law 2378 = .ok (.iconst 3, 1) := fq1_6 (fl_37 (j := 10) rfl rfl)
theorem dL_law_2379 : decode cL_law 2379 = .ok (.iadd, 1) := fq1_96 (fl_37 (j := 11) rfl rfl)
theorem dL_law_2380 : decode cL_law 2380 = .ok (.iaload, 1) := fq1_46 (fl_37 (j := 12) rfl rfl)
theorem dL_law_2381 : decode cL_law 2381 = .ok (.invokevirtual 254, 3) := fq3_182 (fl_37 (j := 13) rfl rfl) (fl_37 (j := 14) rfl rfl) (fl_37 (j := 15) rfl rfl) rfl
theorem dL_law_2384 : decode cL_law 2384 = .ok (.pop, 1) := fq1_87 (fl_37 (j := 16) rfl rfl)
theorem dL_law_2385 : decode cL_law 2385 = .ok (.aload_n 2, 1) := fq1_44 (fl_37 (j := 17) rfl rfl)
theorem dL_law_2386 : decode cL_law 2386 = .ok (.aload_n 0, 1) := fq1_42 (fl_37 (j := 18) rfl rfl)
theorem dL_law_2387 : decode cL_law 2387 = .ok (.iload_n 3, 1) := fq1_29 (fl_37 (j := 19) rfl rfl)
theorem dL_law_2388 : decode cL_law 2388 = .ok (.iconst 1, 1) := fq1_4 (fl_37 (j := 20) rfl rfl)
theorem dL_law_2389 : decode cL_law 2389 = .ok (.iadd, 1) := fq1_96 (fl_37 (j := 21) rfl rfl)
theorem dL_law_2390 : decode cL_law 2390 = .ok (.iaload, 1) := fq1_46 (fl_37 (j := 22) rfl rfl)
theorem dL_law_2391 : decode cL_law 2391 = .ok (.aload_n 0, 1) := fq1_42 (fl_37 (j := 23) rfl rfl)
theorem dL_law_2392 : decode cL_law 2392 = .ok (.iload_n 3, 1) := fq1_29 (fl_37 (j := 24) rfl rfl)
theorem dL_law_2393 : decode cL_law 2393 = .ok (.iconst 2, 1) := fq1_5 (fl_37 (j := 25) rfl rfl)
theorem dL_law_2394 : decode cL_law 2394 = .ok (.iadd, 1) := fq1_96 (fl_37 (j := 26) rfl rfl)
theorem dL_law_2395 : decode cL_law 2395 = .ok (.iaload, 1) := fq1_46 (fl_37 (j := 27) rfl rfl)
theorem dL_law_2396 : decode cL_law 2396 = .ok (.aload_n 0, 1) := fq1_42 (fl_37 (j := 28) rfl rfl)
theorem dL_law_2397 : decode cL_law 2397 = .ok (.iload_n 3, 1) := fq1_29 (fl_37 (j := 29) rfl rfl)
theorem dL_law_2398 : decode cL_law 2398 = .ok (.iconst 3, 1) := fq1_6 (fl_37 (j := 30) rfl rfl)
theorem dL_law_2399 : decode cL_law 2399 = .ok (.iadd, 1) := fq1_96 (fl_37 (j := 31) rfl rfl)
theorem dL_law_2400 : decode cL_law 2400 = .ok (.iaload, 1) := fq1_46 (fl_37 (j := 32) rfl rfl)
theorem dL_law_2401 : decode cL_law 2401 = .ok (.invokevirtual 257, 3) := fq3_182 (fl_37 (j := 33) rfl rfl) (fl_37 (j := 34) rfl rfl) (fl_37 (j := 35) rfl rfl) rfl
theorem dL_law_2404 : decode cL_law 2404 = .ok (.pop, 1) := fq1_87 (fl_37 (j := 36) rfl rfl)
theorem dL_law_2405 : decode cL_law 2405 = .ok (.goto 441, 3) := fq3_167 (fl_37 (j := 37) rfl rfl) (fl_37 (j := 38) rfl rfl) (fl_37 (j := 39) rfl rfl) (s2p rfl (bl rfl))
theorem dL_law_2408 : decode cL_law 2408 = .ok (.aload_n 1, 1) := fq1_43 (fl_37 (j := 40) rfl rfl)
theorem dL_law_2409 : decode cL_law 2409 = .ok (.aload_n 0, 1) := fq1_42 (fl_37 (j := 41) rfl rfl)
theorem dL_law_2410 : decode cL_law 2410 = .ok (.iload_n 3, 1) := fq1_29 (fl_37 (j := 42) rfl rfl)
theorem dL_law_2411 : decode cL_law 2411 = .ok (.iconst 1, 1) := fq1_4 (fl_37 (j := 43) rfl rfl)
theorem dL_law_2412 : decode cL_law 2412 = .ok (.iadd, 1) := fq1_96 (fl_37 (j := 44) rfl rfl)
theorem dL_law_2413 : decode cL_law 2413 = .ok (.iaload, 1) := fq1_46 (fl_37 (j := 45) rfl rfl)
theorem dL_law_2414 : decode cL_law 2414 = .ok (.aload_n 0, 1) := fq1_42 (fl_37 (j := 46) rfl rfl)
theorem dL_law_2415 : decode cL_law 2415 = .ok (.iload_n 3, 1) := fq1_29 (fl_37 (j := 47) rfl rfl)
theorem dL_law_2416 : decode cL_law 2416 = .ok (.iconst 2, 1) := fq1_5 (fl_37 (j := 48) rfl rfl)
theorem dL_law_2417 : decode cL_law 2417 = .ok (.iadd, 1) := fq1_96 (fl_37 (j := 49) rfl rfl)
theorem dL_law_2418 : decode cL_law 2418 = .ok (.iaload, 1) := fq1_46 (fl_37 (j := 50) rfl rfl)
theorem dL_law_2419 : decode cL_law 2419 = .ok (.aload_n 0, 1) := fq1_42 (fl_37 (j := 51) rfl rfl)
theorem dL_law_2420 : decode cL_law 2420 = .ok (.iload_n 3, 1) := fq1_29 (fl_37 (j := 52) rfl rfl)
theorem dL_law_2421 : decode cL_law 2421 = .ok (.iconst 3, 1) := fq1_6 (fl_37 (j := 53) rfl rfl)
theorem dL_law_2422 : decode cL_law 2422 = .ok (.iadd, 1) := fq1_96 (fl_37 (j := 54) rfl rfl)
theorem dL_law_2423 : decode cL_law 2423 = .ok (.iaload, 1) := fq1_46 (fl_37 (j := 55) rfl rfl)
theorem dL_law_2424 : decode cL_law 2424 = .ok (.invokevirtual 258, 3) := fq3_182 (fl_37 (j := 56) rfl rfl) (fl_37 (j := 57) rfl rfl) (fl_37 (j := 58) rfl rfl) rfl
theorem dL_law_2427 : decode cL_law 2427 = .ok (.pop, 1) := fq1_87 (fl_37 (j := 59) rfl rfl)
theorem dL_law_2428 : decode cL_law 2428 = .ok (.aload_n 2, 1) := fq1_44 (fl_37 (j := 60) rfl rfl)
theorem dL_law_2429 : decode cL_law 2429 = .ok (.aload_n 0, 1) := fq1_42 (fl_37 (j := 61) rfl rfl)
theorem dL_law_2430 : decode cL_law 2430 = .ok (.iload_n 3, 1) := fq1_29 (fl_37 (j := 62) rfl rfl)
theorem dL_law_2431 : decode cL_law 2431 = .ok (.iconst 1, 1) := fq1_4 (fl_37 (j := 63) rfl rfl)
theorem dL_law_2432 : decode cL_law 2432 = .ok (.iadd, 1) := fq1_96 (fl_38 (j := 0) rfl rfl)
theorem dL_law_2433 : decode cL_law 2433 = .ok (.iaload, 1) := fq1_46 (fl_38 (j := 1) rfl rfl)
theorem dL_law_2434 : decode cL_law 2434 = .ok (.aload_n 0, 1) := fq1_42 (fl_38 (j := 2) rfl rfl)
theorem dL_law_2435 : decode cL_law 2435 = .ok (.iload_n 3, 1) := fq1_29 (fl_38 (j := 3) rfl rfl)
theorem dL_law_2436 : decode cL_law 2436 = .ok (.iconst 2, 1) := fq1_5 (fl_38 (j := 4) rfl rfl)
theorem dL_law_2437 : decode cL_law 2437 = .ok (.iadd, 1) := fq1_96 (fl_38 (j := 5) rfl rfl)
theorem dL_law_2438 : decode cL_law 2438 = .ok (.iaload, 1) := fq1_46 (fl_38 (j := 6) rfl rfl)
theorem dL_law_2439 : decode cL_law 2439 = .ok (.aload_n 0, 1) := fq1_42 (fl_38 (j := 7) rfl rfl)
theorem dL_law_2440 : decode cL_law 2440 = .ok (.iload_n 3, 1) := fq1_29 (fl_38 (j := 8) rfl rfl)
theorem dL_law_2441 : decode cL_law 2441 = .ok (.iconst 3, 1) := fq1_6 (fl_38 (j := 9) rfl rfl)
theorem dL_law_2442 : decode cL_law 2442 = .ok (.iadd, 1) := fq1_96 (fl_38 (j := 10) rfl rfl)
theorem dL_law_2443 : decode cL_law 2443 = .ok (.iaload, 1) := fq1_46 (fl_38 (j := 11) rfl rfl)
theorem dL_law_2444 : decode cL_law 2444 = .ok (.invokevirtual 261, 3) := fq3_182 (fl_38 (j := 12) rfl rfl) (fl_38 (j := 13) rfl rfl) (fl_38 (j := 14) rfl rfl) rfl
theorem dL_law_2447 : decode cL_law 2447 = .ok (.pop, 1) := fq1_87 (fl_38 (j := 15) rfl rfl)
theorem dL_law_2448 : decode cL_law 2448 = .ok (.goto 398, 3) := fq3_167 (fl_38 (j := 16) rfl rfl) (fl_38 (j := 17) rfl rfl) (fl_38 (j := 18) rfl rfl) (s2p rfl (bl rfl))
theorem dL_law_2451 : decode cL_law 2451 = .ok (.aload_n 1, 1) := fq1_43 (fl_38 (j := 19) rfl rfl)
theorem dL_law_2452 : decode cL_law 2452 = .ok (.aload_n 0, 1) := fq1_42 (fl_38 (j := 20) rfl rfl)
theorem dL_law_2453 : decode cL_law 2453 = .ok (.iload_n 3, 1) := fq1_29 (fl_38 (j := 21) rfl rfl)
theorem dL_law_2454 : decode cL_law 2454 = .ok (.iconst 1, 1) := fq1_4 (fl_38 (j := 22) rfl rfl)
theorem dL_law_2455 : decode cL_law 2455 = .ok (.iadd, 1) := fq1_96 (fl_38 (j := 23) rfl rfl)
theorem dL_law_2456 : decode cL_law 2456 = .ok (.iaload, 1) := fq1_46 (fl_38 (j := 24) rfl rfl)
theorem dL_law_2457 : decode cL_law 2457 = .ok (.aload_n 0, 1) := fq1_42 (fl_38 (j := 25) rfl rfl)
theorem dL_law_2458 : decode cL_law 2458 = .ok (.iload_n 3, 1) := fq1_29 (fl_38 (j := 26) rfl rfl)
theorem dL_law_2459 : decode cL_law 2459 = .ok (.iconst 2, 1) := fq1_5 (fl_38 (j := 27) rfl rfl)
theorem dL_law_2460 : decode cL_law 2460 = .ok (.iadd, 1) := fq1_96 (fl_38 (j := 28) rfl rfl)
theorem dL_law_2461 : decode cL_law 2461 = .ok (.iaload, 1) := fq1_46 (fl_38 (j := 29) rfl rfl)
theorem dL_law_2462 : decode cL_law 2462 = .ok (.invokevirtual 262, 3) := fq3_182 (fl_38 (j := 30) rfl rfl) (fl_38 (j := 31) rfl rfl) (fl_38 (j := 32) rfl rfl) rfl
theorem dL_law_2465 : decode cL_law 2465 = .ok (.pop, 1) := fq1_87 (fl_38 (j := 33) rfl rfl)
theorem dL_law_2466 : decode cL_law 2466 = .ok (.aload_n 2, 1) := fq1_44 (fl_38 (j := 34) rfl rfl)
theorem dL_law_2467 : decode cL_law 2467 = .ok (.aload_n 0, 1) := fq1_42 (fl_38 (j := 35) rfl rfl)
theorem dL_law_2468 : decode cL_law 2468 = .ok (.iload_n 3, 1) := fq1_29 (fl_38 (j := 36) rfl rfl)
theorem dL_law_2469 : decode cL_law 2469 = .ok (.iconst 1, 1) := fq1_4 (fl_38 (j := 37) rfl rfl)
theorem dL_law_2470 : decode cL_law 2470 = .ok (.iadd, 1) := fq1_96 (fl_38 (j := 38) rfl rfl)
theorem dL_law_2471 : decode cL_law 2471 = .ok (.iaload, 1) := fq1_46 (fl_38 (j := 39) rfl rfl)
theorem dL_law_2472 : decode cL_law 2472 = .ok (.aload_n 0, 1) := fq1_42 (fl_38 (j := 40) rfl rfl)
theorem dL_law_2473 : decode cL_law 2473 = .ok (.iload_n 3, 1) := fq1_29 (fl_38 (j := 41) rfl rfl)
theorem dL_law_2474 : decode cL_law 2474 = .ok (.iconst 2, 1) := fq1_5 (fl_38 (j := 42) rfl rfl)
theorem dL_law_2475 : decode cL_law 2475 = .ok (.iadd, 1) := fq1_96 (fl_38 (j := 43) rfl rfl)
theorem dL_law_2476 : decode cL_law 2476 = .ok (.iaload, 1) := fq1_46 (fl_38 (j := 44) rfl rfl)
theorem dL_law_2477 : decode cL_law 2477 = .ok (.invokevirtual 265, 3) := fq3_182 (fl_38 (j := 45) rfl rfl) (fl_38 (j := 46) rfl rfl) (fl_38 (j := 47) rfl rfl) rfl
theorem dL_law_2480 : decode cL_law 2480 = .ok (.pop, 1) := fq1_87 (fl_38 (j := 48) rfl rfl)
theorem dL_law_2481 : decode cL_law 2481 = .ok (.goto 365, 3) := fq3_167 (fl_38 (j := 49) rfl rfl) (fl_38 (j := 50) rfl rfl) (fl_38 (j := 51) rfl rfl) (s2p rfl (bl rfl))
theorem dL_law_2484 : decode cL_law 2484 = .ok (.aload_n 1, 1) := fq1_43 (fl_38 (j := 52) rfl rfl)
theorem dL_law_2485 : decode cL_law 2485 = .ok (.aload_n 0, 1) := fq1_42 (fl_38 (j := 53) rfl rfl)
theorem dL_law_2486 : decode cL_law 2486 = .ok (.iload_n 3, 1) := fq1_29 (fl_38 (j := 54) rfl rfl)
theorem dL_law_2487 : decode cL_law 2487 = .ok (.iconst 1, 1) := fq1_4 (fl_38 (j := 55) rfl rfl)
theorem dL_law_2488 : decode cL_law 2488 = .ok (.iadd, 1) := fq1_96 (fl_38 (j := 56) rfl rfl)
theorem dL_law_2489 : decode cL_law 2489 = .ok (.iaload, 1) := fq1_46 (fl_38 (j := 57) rfl rfl)
theorem dL_law_2490 : decode cL_law 2490 = .ok (.aload_n 0, 1) := fq1_42 (fl_38 (j := 58) rfl rfl)
theorem dL_law_2491 : decode cL_law 2491 = .ok (.iload_n 3, 1) := fq1_29 (fl_38 (j := 59) rfl rfl)
theorem dL_law_2492 : decode cL_law 2492 = .ok (.iconst 2, 1) := fq1_5 (fl_38 (j := 60) rfl rfl)
theorem dL_law_2493 : decode cL_law 2493 = .ok (.iadd, 1) := fq1_96 (fl_38 (j := 61) rfl rfl)
theorem dL_law_2494 : decode cL_law 2494 = .ok (.iaload, 1) := fq1_46 (fl_38 (j := 62) rfl rfl)
theorem dL_law_2495 : decode cL_law 2495 = .ok (.aload_n 0, 1) := fq1_42 (fl_38 (j := 63) rfl rfl)
theorem dL_law_2496 : decode cL_law 2496 = .ok (.iload_n 3, 1) := fq1_29 (fl_39 (j := 0) rfl rfl)
theorem dL_law_2497 : decode cL_law 2497 = .ok (.iconst 3, 1) := fq1_6 (fl_39 (j := 1) rfl rfl)
theorem dL_law_2498 : decode cL_law 2498 = .ok (.iadd, 1) := fq1_96 (fl_39 (j := 2) rfl rfl)
theorem dL_law_2499 : decode cL_law 2499 = .ok (.iaload, 1) := fq1_46 (fl_39 (j := 3) rfl rfl)
theorem dL_law_2500 : decode cL_law 2500 = .ok (.invokevirtual 266, 3) := fq3_182 (fl_39 (j := 4) rfl rfl) (fl_39 (j := 5) rfl rfl) (fl_39 (j := 6) rfl rfl) rfl
theorem dL_law_2503 : decode cL_law 2503 = .ok (.pop, 1) := fq1_87 (fl_39 (j := 7) rfl rfl)
theorem dL_law_2504 : decode cL_law 2504 = .ok (.aload_n 2, 1) := fq1_44 (fl_39 (j := 8) rfl rfl)
theorem dL_law_2505 : decode cL_law 2505 = .ok (.aload_n 0, 1) := fq1_42 (fl_39 (j := 9) rfl rfl)
theorem dL_law_2506 : decode cL_law 2506 = .ok (.iload_n 3, 1) := fq1_29 (fl_39 (j := 10) rfl rfl)
theorem dL_law_2507 : decode cL_law 2507 = .ok (.iconst 1, 1) := fq1_4 (fl_39 (j := 11) rfl rfl)
theorem dL_law_2508 : decode cL_law 2508 = .ok (.iadd, 1) := fq1_96 (fl_39 (j := 12) rfl rfl)
theorem dL_law_2509 : decode cL_law 2509 = .ok (.iaload, 1) := fq1_46 (fl_39 (j := 13) rfl rfl)
theorem dL_law_2510 : decode cL_law 2510 = .ok (.aload_n 0, 1) := fq1_42 (fl_39 (j := 14) rfl rfl)
theorem dL_law_2511 : decode cL_law 2511 = .ok (.iload_n 3, 1) := fq1_29 (fl_39 (j := 15) rfl rfl)
theorem dL_law_2512 : decode cL_law 2512 = .ok (.iconst 2, 1) := fq1_5 (fl_39 (j := 16) rfl rfl)
theorem dL_law_2513 : decode cL_law 2513 = .ok (.iadd, 1) := fq1_96 (fl_39 (j := 17) rfl rfl)
theorem dL_law_2514 : decode cL_law 2514 = .ok (.iaload, 1) := fq1_46 (fl_39 (j := 18) rfl rfl)
theorem dL_law_2515 : decode cL_law 2515 = .ok (.aload_n 0, 1) := fq1_42 (fl_39 (j := 19) rfl rfl)
theorem dL_law_2516 : decode cL_law 2516 = .ok (.iload_n 3, 1) := fq1_29 (fl_39 (j := 20) rfl rfl)
theorem dL_law_2517 : decode cL_law 2517 = .ok (.iconst 3, 1) := fq1_6 (fl_39 (j := 21) rfl rfl)
theorem dL_law_2518 : decode cL_law 2518 = .ok (.iadd, 1) := fq1_96 (fl_39 (j := 22) rfl rfl)
theorem dL_law_2519 : decode cL_law 2519 = .ok (.iaload, 1) := fq1_46 (fl_39 (j := 23) rfl rfl)
theorem dL_law_2520 : decode cL_law 2520 = .ok (.invokevirtual 269, 3) := fq3_182 (fl_39 (j := 24) rfl rfl) (fl_39 (j := 25) rfl rfl) (fl_39 (j := 26) rfl rfl) rfl
theorem dL_law_2523 : decode cL_law 2523 = .ok (.pop, 1) := fq1_87 (fl_39 (j := 27) rfl rfl)
theorem dL_law_2524 : decode cL_law 2524 = .ok (.goto 322, 3) := fq3_167 (fl_39 (j := 28) rfl rfl) (fl_39 (j := 29) rfl rfl) (fl_39 (j := 30) rfl rfl) (s2p rfl (bl rfl))
theorem dL_law_2527 : decode cL_law 2527 = .ok (.aload_n 1, 1) := fq1_43 (fl_39 (j := 31) rfl rfl)
theorem dL_law_2528 : decode cL_law 2528 = .ok (.aload_n 0, 1) := fq1_42 (fl_39 (j := 32) rfl rfl)
theorem dL_law_2529 : decode cL_law 2529 = .ok (.iload_n 3, 1) := fq1_29 (fl_39 (j := 33) rfl rfl)
theorem dL_law_2530 : decode cL_law 2530 = .ok (.iconst 1, 1) := fq1_4 (fl_39 (j := 34) rfl rfl)
theorem dL_law_2531 : decode cL_law 2531 = .ok (.iadd, 1) := fq1_96 (fl_39 (j := 35) rfl rfl)
theorem dL_law_2532 : decode cL_law 2532 = .ok (.iaload, 1) := fq1_46 (fl_39 (j := 36) rfl rfl)
theorem dL_law_2533 : decode cL_law 2533 = .ok (.invokevirtual 270, 3) := fq3_182 (fl_39 (j := 37) rfl rfl) (fl_39 (j := 38) rfl rfl) (fl_39 (j := 39) rfl rfl) rfl
theorem dL_law_2536 : decode cL_law 2536 = .ok (.pop, 1) := fq1_87 (fl_39 (j := 40) rfl rfl)
theorem dL_law_2537 : decode cL_law 2537 = .ok (.aload_n 2, 1) := fq1_44 (fl_39 (j := 41) rfl rfl)
theorem dL_law_2538 : decode cL_law 2538 = .ok (.aload_n 0, 1) := fq1_42 (fl_39 (j := 42) rfl rfl)
theorem dL_law_2539 : decode cL_law 2539 = .ok (.iload_n 3, 1) := fq1_29 (fl_39 (j := 43) rfl rfl)
theorem dL_law_2540 : decode cL_law 2540 = .ok (.iconst 1, 1) := fq1_4 (fl_39 (j := 44) rfl rfl)
theorem dL_law_2541 : decode cL_law 2541 = .ok (.iadd, 1) := fq1_96 (fl_39 (j := 45) rfl rfl)
theorem dL_law_2542 : decode cL_law 2542 = .ok (.iaload, 1) := fq1_46 (fl_39 (j := 46) rfl rfl)
theorem dL_law_2543 : decode cL_law 2543 = .ok (.invokevirtual 273, 3) := fq3_182 (fl_39 (j := 47) rfl rfl) (fl_39 (j := 48) rfl rfl) (fl_39 (j := 49) rfl rfl) rfl
theorem dL_law_2546 : decode cL_law 2546 = .ok (.pop, 1) := fq1_87 (fl_39 (j := 50) rfl rfl)
theorem dL_law_2547 : decode cL_law 2547 = .ok (.goto 299, 3) := fq3_167 (fl_39 (j := 51) rfl rfl) (fl_39 (j := 52) rfl rfl) (fl_39 (j := 53) rfl rfl) (s2p rfl (bl rfl))
theorem dL_law_2550 : decode cL_law 2550 = .ok (.aload_n 1, 1) := fq1_43 (fl_39 (j := 54) rfl rfl)
theorem dL_law_2551 : decode cL_law 2551 = .ok (.aload_n 0, 1) := fq1_42 (fl_39 (j := 55) rfl rfl)
theorem dL_law_2552 : decode cL_law 2552 = .ok (.iload_n 3, 1) := fq1_29 (fl_39 (j := 56) rfl rfl)
theorem dL_law_2553 : decode cL_law 2553 = .ok (.iconst 1, 1) := fq1_4 (fl_39 (j := 57) rfl rfl)
theorem dL_law_2554 : decode cL_law 2554 = .ok (.iadd, 1) := fq1_96 (fl_39 (j := 58) rfl rfl)
theorem dL_law_2555 : decode cL_law 2555 = .ok (.iaload, 1) := fq1_46 (fl_39 (j := 59) rfl rfl)
theorem dL_law_2556 : decode cL_law 2556 = .ok (.aload_n 0, 1) := fq1_42 (fl_39 (j := 60) rfl rfl)
theorem dL_law_2557 : decode cL_law 2557 = .ok (.iload_n 3, 1) := fq1_29 (fl_39 (j := 61) rfl rfl)
theorem dL_law_2558 : decode cL_law 2558 = .ok (.iconst 2, 1) := fq1_5 (fl_39 (j := 62) rfl rfl)
theorem dL_law_2559 : decode cL_law 2559 = .ok (.iadd, 1) := fq1_96 (fl_39 (j := 63) rfl rfl)
theorem dL_law_2560 : decode cL_law 2560 = .ok (.iaload, 1) := fq1_46 (fl_40 (j := 0) rfl rfl)
theorem dL_law_2561 : decode cL_law 2561 = .ok (.invokevirtual 274, 3) := fq3_182 (fl_40 (j := 1) rfl rfl) (fl_40 (j := 2) rfl rfl) (fl_40 (j := 3) rfl rfl) rfl
theorem dL_law_2564 : decode cL_law 2564 = .ok (.pop, 1) := fq1_87 (fl_40 (j := 4) rfl rfl)
theorem dL_law_2565 : decode cL_law 2565 = .ok (.aload_n 2, 1) := fq1_44 (fl_40 (j := 5) rfl rfl)
theorem dL_law_2566 : decode cL_law 2566 = .ok (.aload_n 0, 1) := fq1_42 (fl_40 (j := 6) rfl rfl)
theorem dL_law_2567 : decode cL_law 2567 = .ok (.iload_n 3, 1) := fq1_29 (fl_40 (j := 7) rfl rfl)
theorem dL_law_2568 : decode cL_law 2568 = .ok (.iconst 1, 1) := fq1_4 (fl_40 (j := 8) rfl rfl)
theorem dL_law_2569 : decode cL_law 2569 = .ok (.iadd, 1) := fq1_96 (fl_40 (j := 9) rfl rfl)
theorem dL_law_2570 : decode cL_law 2570 = .ok (.iaload, 1) := fq1_46 (fl_40 (j := 10) rfl rfl)
theorem dL_law_2571 : decode cL_law 2571 = .ok (.aload_n 0, 1) := fq1_42 (fl_40 (j := 11) rfl rfl)
theorem dL_law_2572 : decode cL_law 2572 = .ok (.iload_n 3, 1) := fq1_29 (fl_40 (j := 12) rfl rfl)
theorem dL_law_2573 : decode cL_law 2573 = .ok (.iconst 2, 1) := fq1_5 (fl_40 (j := 13) rfl rfl)
theorem dL_law_2574 : decode cL_law 2574 = .ok (.iadd, 1) := fq1_96 (fl_40 (j := 14) rfl rfl)
theorem dL_law_2575 : decode cL_law 2575 = .ok (.iaload, 1) := fq1_46 (fl_40 (j := 15) rfl rfl)
theorem dL_law_2576 : decode cL_law 2576 = .ok (.invokevirtual 277, 3) := fq3_182 (fl_40 (j := 16) rfl rfl) (fl_40 (j := 17) rfl rfl) (fl_40 (j := 18) rfl rfl) rfl
theorem dL_law_2579 : decode cL_law 2579 = .ok (.pop, 1) := fq1_87 (fl_40 (j := 19) rfl rfl)
theorem dL_law_2580 : decode cL_law 2580 = .ok (.goto 266, 3) := fq3_167 (fl_40 (j := 20) rfl rfl) (fl_40 (j := 21) rfl rfl) (fl_40 (j := 22) rfl rfl) (s2p rfl (bl rfl))
theorem dL_law_2583 : decode cL_law 2583 = .ok (.aload_n 1, 1) := fq1_43 (fl_40 (j := 23) rfl rfl)
theorem dL_law_2584 : decode cL_law 2584 = .ok (.aload_n 0, 1) := fq1_42 (fl_40 (j := 24) rfl rfl)
theorem dL_law_2585 : decode cL_law 2585 = .ok (.iload_n 3, 1) := fq1_29 (fl_40 (j := 25) rfl rfl)
theorem dL_law_2586 : decode cL_law 2586 = .ok (.iconst 1, 1) := fq1_4 (fl_40 (j := 26) rfl rfl)
theorem dL_law_2587 : decode cL_law 2587 = .ok (.iadd, 1) := fq1_96 (fl_40 (j := 27) rfl rfl)
theorem dL_law_2588 : decode cL_law 2588 = .ok (.iaload, 1) := fq1_46 (fl_40 (j := 28) rfl rfl)
theorem dL_law_2589 : decode cL_law 2589 = .ok (.aload_n 0, 1) := fq1_42 (fl_40 (j := 29) rfl rfl)
theorem dL_law_2590 : decode cL_law 2590 = .ok (.iload_n 3, 1) := fq1_29 (fl_40 (j := 30) rfl rfl)
theorem dL_law_2591 : decode cL_law 2591 = .ok (.iconst 2, 1) := fq1_5 (fl_40 (j := 31) rfl rfl)
theorem dL_law_2592 : decode cL_law 2592 = .ok (.iadd, 1) := fq1_96 (fl_40 (j := 32) rfl rfl)
theorem dL_law_2593 : decode cL_law 2593 = .ok (.iaload, 1) := fq1_46 (fl_40 (j := 33) rfl rfl)
theorem dL_law_2594 : decode cL_law 2594 = .ok (.invokevirtual 278, 3) := fq3_182 (fl_40 (j := 34) rfl rfl) (fl_40 (j := 35) rfl rfl) (fl_40 (j := 36) rfl rfl) rfl
theorem dL_law_2597 : decode cL_law 2597 = .ok (.pop, 1) := fq1_87 (fl_40 (j := 37) rfl rfl)
theorem dL_law_2598 : decode cL_law 2598 = .ok (.aload_n 2, 1) := fq1_44 (fl_40 (j := 38) rfl rfl)
theorem dL_law_2599 : decode cL_law 2599 = .ok (.aload_n 0, 1) := fq1_42 (fl_40 (j := 39) rfl rfl)
theorem dL_law_2600 : decode cL_law 2600 = .ok (.iload_n 3, 1) := fq1_29 (fl_40 (j := 40) rfl rfl)
theorem dL_law_2601 : decode cL_law 2601 = .ok (.iconst 1, 1) := fq1_4 (fl_40 (j := 41) rfl rfl)
theorem dL_law_2602 : decode cL_law 2602 = .ok (.iadd, 1) := fq1_96 (fl_40 (j := 42) rfl rfl)
theorem dL_law_2603 : decode cL_law 2603 = .ok (.iaload, 1) := fq1_46 (fl_40 (j := 43) rfl rfl)
theorem dL_law_2604 : decode cL_law 2604 = .ok (.aload_n 0, 1) := fq1_42 (fl_40 (j := 44) rfl rfl)
theorem dL_law_2605 : decode cL_law 2605 = .ok (.iload_n 3, 1) := fq1_29 (fl_40 (j := 45) rfl rfl)
theorem dL_law_2606 : decode cL_law 2606 = .ok (.iconst 2, 1) := fq1_5 (fl_40 (j := 46) rfl rfl)
theorem dL_law_2607 : decode cL_law 2607 = .ok (.iadd, 1) := fq1_96 (fl_40 (j := 47) rfl rfl)
theorem dL_law_2608 : decode cL_law 2608 = .ok (.iaload, 1) := fq1_46 (fl_40 (j := 48) rfl rfl)
theorem dL_law_2609 : decode cL_law 2609 = .ok (.invokevirtual 282, 3) := fq3_182 (fl_40 (j := 49) rfl rfl) (fl_40 (j := 50) rfl rfl) (fl_40 (j := 51) rfl rfl) rfl
theorem dL_law_2612 : decode cL_law 2612 = .ok (.pop, 1) := fq1_87 (fl_40 (j := 52) rfl rfl)
theorem dL_law_2613 : decode cL_law 2613 = .ok (.goto 233, 3) := fq3_167 (fl_40 (j := 53) rfl rfl) (fl_40 (j := 54) rfl rfl) (fl_40 (j := 55) rfl rfl) (s2p rfl (bl rfl))
end

section
set_option maxHeartbeats 40000000 in
set_option maxRecDepth 100000 in
theorem law_c56 {p : Program} {e : Env} {s : State} {m : MethodId} {below : List Frame} {meth : Method} {c : Code} (l : Launch) {b L : Nat} {xs : Nat → Int32} {A : Nat → Prop} {D : va_G} {k : Nat → ClassId} {sa sv : Nat} {i : Int} (C : LFX p s m meth c b L xs A D k sa sv) (hi : 0 ≤ i ∧ i + 6 ≤ (L : Int)) (hk : LAT p l e s m below meth c b A D k 2846 i) : LAT p l e s m below meth c b A D k 2322 i := by
  obtain ⟨hx, hb, hr, hml, hown, hts, hKK, hX, hbl, hbA, hA, hAf, hlocks, hSY, hRR, hL⟩ := id C
  intro a IA LA FA QA VA IB LB FB QB VB IC LC FC QC VC ID LD FD QD VD IR LR FR QR VR r H locs ls hI hRT hP hD hS hl
  have hK := hKK.1
  obtain ⟨hP, hD⟩ : PD D A ((GA k a IA LA FA QA VA r) ++ ((GB k a IB LB FB QB VB r) ++ ((GC k a IC LC FC QC VC r) ++ ((GD k a ID LD FD QD VD r) ++ ((GR k a IR LR FR QR VR r) ++ (r.tl)))))) H := ⟨hP, hD⟩
  obtain ⟨hWI, hWI_0, hWI_1, hWI_2, hrd, htr0, htr1, htr2, htr3, hrgk, hrgt, hdrc, hev, hmk, hM, hMK, hTI, hFS, htd, hlt, rgH, rgS, rgY, hdr, hit, hmmk, heq, htq, hrel, hbf, htb, hkw, hSK, hSK0, hSK1, hSK2, hNE, hNE0, hNE1, hNE2, hLE, hYE, hQE, hLE0, hLE1, hLE2, hYE0, hYE1, hYE2⟩ := id hI
  obtain ⟨gw1, gw2, gw3, gw4, gw5, gw6, gw7, gw8, gw9, gw10, gw11⟩ := id hWI
  have hx0 := gw9
  have hYI := gw11
  have hpf : rgI (FR 3) (-128) 127 900 := fun e h1 h2 => by rw [← htb e h1 h2]; exact hbf e h1 h2
  obtain ⟨z1, hz1, hz1a, hz1b⟩ := i32_z (xs (iZ (i + 1)).toNatClampNeg)
  obtain ⟨z2, hz2, hz2a, hz2b⟩ := i32_z (xs (iZ (i + 2)).toNatClampNeg)
  obtain ⟨z3, hz3, hz3a, hz3b⟩ := i32_z (xs (iZ (i + 3)).toNatClampNeg)
  obtain ⟨z4, hz4, hz4a, hz4b⟩ := i32_z (xs (iZ (i + 4)).toNatClampNeg)
  obtain ⟨z5, hz5, hz5a, hz5b⟩ := i32_z (xs (iZ (i + 5)).toNatClampNeg)
  have hl : lv_has ls 4 [(3, .int (iZ i)), (2, .ref (a 106)), (1, .ref (a 0)), (0, .ref b)] := hl
  have hls := hQE.1
  replace hls : _ := hls
  refine lv_aload_n hx hb dL_law_2322 rfl (lv_at hl 2 rfl) ?_
  refine lv_aload_n hx hb dL_law_2323 rfl (lv_at hl 3 rfl) ?_
  refine lv_iload_n hx hb dL_law_2324 rfl (lv_at hl 0 rfl) ?_
  refine lv_iconst (v := iZ 1) hx hb dL_law_2325 rfl ?_
  refine lv_iadd hx hb dL_law_2326 ?_
  refine lv_topi (fun x_1 ex_1 => ?_)
  obtain rfl : x_1 = iZ (i + 1) := ex_1.trans (iZ_add i 1)
  refine va_sld hx hb hX hbl hbA hS (zi1 hi hL) dL_law_2327 ?_
  refine lv_topi (fun x_2 ex_2 => ?_)
  obtain rfl : x_2 = iZ z1 := ex_2.trans hz1
  refine lv_aload_n hx hb dL_law_2328 rfl (lv_at hl 3 rfl) ?_
  refine lv_iload_n hx hb dL_law_2329 rfl (lv_at hl 0 rfl) ?_
  refine lv_iconst (v := iZ 2) hx hb dL_law_2330 rfl ?_
  refine lv_iadd hx hb dL_law_2331 ?_
  refine lv_topi (fun x_3 ex_3 => ?_)
  obtain rfl : x_3 = iZ (i + 2) := ex_3.trans (iZ_add i 2)
  refine va_sld hx hb hX hbl hbA hS (zi2 hi hL) dL_law_2332 ?_
  refine lv_topi (fun x_4 ex_4 => ?_)
  obtain rfl : x_4 = iZ z2 := ex_4.trans hz2
  refine lv_aload_n hx hb dL_law_2333 rfl (lv_at hl 3 rfl) ?_
  refine lv_iload_n hx hb dL_law_2334 rfl (lv_at hl 0 rfl) ?_
  refine lv_iconst (v := iZ 3) hx hb dL_law_2335 rfl ?_
  refine lv_iadd hx hb dL_law_2336 ?_
  refine lv_topi (fun x_5 ex_5 => ?_)
  obtain rfl : x_5 = iZ (i + 3) := ex_5.trans (iZ_add i 3)
  refine va_sld hx hb hX hbl hbA hS (zi3 hi hL) dL_law_2337 ?_
  refine lv_topi (fun x_6 ex_6 => ?_)
  obtain rfl : x_6 = iZ z3 := ex_6.trans hz3
  obtain ⟨hP, hD⟩ := PD.mid4 ⟨hP, hD⟩
  refine CXM (mid := (GB k a IB LB FB QB VB r) ++ ((GC k a IC LC FC QC VC r) ++ ((GD k a ID LD FD QD VD r) ++ ((GR k a IR LR FR QR VR r))))) (c0 := 123) (s0 := 16705) (r := r) (As := [.int (iZ z1), .int (iZ z2), .int (iZ z3)]) (rest := []) hx hb hml hown hts hKK hP hD hS hA (p_priceSeen l D k (a 0) (a 1) (a 2) (a 3) (a 4) (a 5) (a 6) (a 7) (a 8) (a 9) (a 10) (a 11) (IA 0) (IA 1) (IA 2) (LA 0) (LA 1) ([.ref (a 26), .ref (a 27), .ref (a 28), .int (iZ (IA 3)), .int (iZ (IA 4)), .int (iZ (IA 5)), .int (iZ (IA 6))]) (a 23) (a 27) (a 28) (a 24) (a 25) (IA 3) (IA 4) (IA 5) (FA 0) (FA 1) z1 z2 z3 r hRT rfl rfl rfl rfl rfl (by first | with_reducible assumption | omega) hx0 (by first | with_reducible assumption | omega) (by first | with_reducible assumption | omega) (by first | with_reducible assumption | omega) ⟨hz1a, hz1b⟩ ⟨hz2a, hz2b⟩ ⟨hz3a, hz3b⟩) ci_X11_priceSeen qm_L_250 ⟨Nat.le_of_ble_eq_true rfl, Nat.le_of_ble_eq_true rfl⟩ ⟨Nat.le_of_ble_eq_true rfl, Nat.le_of_ble_eq_true rfl⟩ [0, 1, 17, 2, 6, 7] [3, 4, 5, 8, 9, 10, 11, 12, 13, 14, 15, 16, 18, 19, 20, 21, 22, 23, 24, 25] rfl rfl rfl (by decide +kernel) (by decide +kernel) (by decide +kernel) 0 rfl rfl rfl hl.1 rfl (Nat.le_of_ble_eq_true rfl) dL_law_2338 (fun u_7 H locs hφ hP hD hS => ?_)
  obtain ⟨r_8, v_9⟩ := u_7
  obtain ⟨p_10, rtr_8⟩ : ((((0 ≤ z1 ∧ z1 < (IA 3)) ∧ (0 ≤ z2 ∧ z2 < (IA 3)) ∧ (0 ≤ z3 ∧ z3 ≤ 400)) ∧ ((snF (FA 0) (FA 1) (IA 4) z1 z2 z3 = -1 ∧ (v_9.1.1 : Int) = -1) ∨ (¬ snF (FA 0) (FA 1) (IA 4) z1 z2 z3 = -1 ∧ (v_9.1.1 : Int) = pr (FA 0) z2 (snF (FA 0) (FA 1) (IA 4) z1 z2 z3)))) ∨ (¬ ((0 ≤ z1 ∧ z1 < (IA 3)) ∧ (0 ≤ z2 ∧ z2 < (IA 3)) ∧ (0 ≤ z3 ∧ z3 ≤ 400)) ∧ (v_9.1.1 : Int) = -1)) ∧ ((RT k) (RX (FA 0) (FA 1) (IA 3) (IA 4)) r_8) := hφ
  obtain ⟨hP, hD⟩ := PD.dim4 ⟨hP, hD⟩
  obtain ⟨hP, hD⟩ := PD.by3 (is := [20, 21, 23, 0, 1, 2, 24, 25, 3, 4, 5, 6, 7, 8, 9, 10, 11, 22, 12, 13, 14, 15, 16, 17, 18, 19]) (y := (GA k a (u9 IA 2 v_9.1.2) LA FA QA VA r_8)) ⟨hP, hD⟩ (by decide +kernel) rfl rfl
  refine W.ceq (cells' := 123 + cz true r_8.b) (slots' := 16705 + sz true r_8.b) rfl rfl ?_
  refine W.eq (g2 := F0 m 2341 ls [.int (iZ v_9.1.1)]) rfl ?_
  refine lv_pop hx hb dL_law_2341 rfl ?_
  refine lv_aload_n hx hb dL_law_2342 rfl (lv_at hl 1 rfl) ?_
  refine lv_aload_n hx hb dL_law_2343 rfl (lv_at hl 3 rfl) ?_
  refine lv_iload_n hx hb dL_law_2344 rfl (lv_at hl 0 rfl) ?_
  refine lv_iconst (v := iZ 1) hx hb dL_law_2345 rfl ?_
  refine lv_iadd hx hb dL_law_2346 ?_
  refine lv_topi (fun x_11 ex_11 => ?_)
  obtain rfl : x_11 = iZ (i + 1) := ex_11.trans (iZ_add i 1)
  refine va_sld hx hb hX hbl hbA hS (zi1 hi hL) dL_law_2347 ?_
  refine lv_topi (fun x_12 ex_12 => ?_)
  obtain rfl : x_12 = iZ z1 := ex_12.trans hz1
  refine lv_aload_n hx hb dL_law_2348 rfl (lv_at hl 3 rfl) ?_
  refine lv_iload_n hx hb dL_law_2349 rfl (lv_at hl 0 rfl) ?_
  refine lv_iconst (v := iZ 2) hx hb dL_law_2350 rfl ?_
  refine lv_iadd hx hb dL_law_2351 ?_
  refine lv_topi (fun x_13 ex_13 => ?_)
  obtain rfl : x_13 = iZ (i + 2) := ex_13.trans (iZ_add i 2)
  refine va_sld hx hb hX hbl hbA hS (zi2 hi hL) dL_law_2352 ?_
  refine lv_topi (fun x_14 ex_14 => ?_)
  obtain rfl : x_14 = iZ z2 := ex_14.trans hz2
  refine lv_aload_n hx hb dL_law_2353 rfl (lv_at hl 3 rfl) ?_
  refine lv_iload_n hx hb dL_law_2354 rfl (lv_at hl 0 rfl) ?_
  refine lv_iconst (v := iZ 3) hx hb dL_law_2355 rfl ?_
  refine lv_iadd hx hb dL_law_2356 ?_
  refine lv_topi (fun x_15 ex_15 => ?_)
  obtain rfl : x_15 = iZ (i + 3) := ex_15.trans (iZ_add i 3)
  refine va_sld hx hb hX hbl hbA hS (zi3 hi hL) dL_law_2357 ?_
  refine lv_topi (fun x_16 ex_16 => ?_)
  obtain rfl : x_16 = iZ z3 := ex_16.trans hz3
  obtain ⟨hP, hD⟩ := PD.fr5 ⟨hP, hD⟩
  refine CKV2 (As := [.int (iZ z1), .int (iZ z2), .int (iZ z3)]) (rest := []) (tl := (GA k a (u9 IA 2 v_9.1.2) LA FA QA VA r_8) ++ ((GB k a IB LB FB QB VB r) ++ ((GC k a IC LC FC QC VC r) ++ ((GD k a ID LD FD QD VD r) ++ (r_8.tl))))) hx hb hml hown hts hKK hP hD hS hA (q_priceSeen l D k (a 106) (a 107) (a 108) (a 109) (a 110) (a 111) (a 112) (a 113) (a 114) (a 115) (a 116) (a 117) (a 118) (a 119) (a 120) (a 121) (a 122) (IR 0) (IR 1) (IR 2) (IR 3) (IR 4) (IR 5) (IR 6) (IR 7) (IR 8) (IR 9) (IR 10) (IR 11) (IR 12) (IR 13) (IR 14) (IR 15) (IR 16) (IR 17) (LR 0) (LR 1) (FR 0) z1 z2 z3 hM ⟨hz1a, hz1b⟩ ⟨hz2a, hz2b⟩ ⟨hz3a, hz3b⟩) ci_X12_priceSeen qm_L_253 ⟨Nat.le_of_ble_eq_true rfl, Nat.le_of_ble_eq_true rfl⟩ (lroom _) [0, 1] [2, 3, 4, 5, 6, 7, 8, 9, 10, 11, 12, 13, 14, 15, 16] rfl rfl rfl (by decide +kernel) (by decide +kernel) (by decide +kernel) 0 rfl rfl rfl hl.1 rfl (Nat.le_of_ble_eq_true rfl) dL_law_2358 (fun u_17 H locs hφ hP hD hS => ?_)
  have p_18 : (((0 ≤ z1 ∧ z1 < (gz (FR 0) 0)) ∧ (0 ≤ z2 ∧ z2 < (gz (FR 0) 0)) ∧ (0 ≤ z3 ∧ z3 ≤ 400)) ∧ ((snF (sh (FR 0) 10) (sh (FR 0) 46) (gz (FR 0) 1) z1 z2 z3 = -1 ∧ (u_17.1.1 : Int) = -1) ∨ (¬ snF (sh (FR 0) 10) (sh (FR 0) 46) (gz (FR 0) 1) z1 z2 z3 = -1 ∧ (u_17.1.1 : Int) = pr (sh (FR 0) 10) z2 (snF (sh (FR 0) 10) (sh (FR 0) 46) (gz (FR 0) 1) z1 z2 z3)))) ∨ (¬ ((0 ≤ z1 ∧ z1 < (gz (FR 0) 0)) ∧ (0 ≤ z2 ∧ z2 < (gz (FR 0) 0)) ∧ (0 ≤ z3 ∧ z3 ≤ 400)) ∧ (u_17.1.1 : Int) = -1) := hφ
  obtain ⟨hP, hD⟩ := PD.by3 (is := [15, 16, 0, 1, 2, 3, 4, 5, 6, 7, 8, 9, 10, 11, 12, 13, 14]) (y := (GR k a (u9 IR 0 u_17.1.2) LR FR QR VR r_8)) ⟨hP, hD⟩ (by decide +kernel) rfl rfl
  refine W.eq (g2 := F0 m 2361 ls [.int (iZ u_17.1.1)]) rfl ?_
  refine lv_pop hx hb dL_law_2361 rfl ?_
  refine lv_goto (tgt := 2846) hx hb dL_law_2362 rfl ?_
  obtain ⟨hP, hD⟩ := PD.fr5 ⟨hP, hD⟩
  obtain ⟨hP, hD⟩ := PD.fr5 ⟨hP, hD⟩
  obtain ⟨hP, hD⟩ := PD.fr5 ⟨hP, hD⟩
  obtain ⟨hP, hD⟩ := PD.fr5 ⟨hP, hD⟩
  exact hk a (u9 IA 2 v_9.1.2) LA FA QA VA IB LB FB QB VB IC LC FC QC VC ID LD FD QD VD (u9 IR 0 u_17.1.2) LR FR QR VR r_8 H locs ls (show INV _ _ _ _ _ _ _ _ _ _ _ _ _ _ _ from ⟨hWI, hWI_0, hWI_1, hWI_2, hrd, htr0, htr1, htr2, htr3, hrgk, hrgt, hdrc, hev, hmk, hM, hMK, hTI, hFS, htd, hlt, rgH, rgS, rgY, hdr, hit, hmmk, heq, htq, hrel, hbf, htb, hkw, hSK, hSK0, hSK1, hSK2, hNE, hNE0, hNE1, hNE2, hLE, hYE, hQE, hLE0, hLE1, hLE2, hYE0, hYE1, hYE2⟩) rtr_8 hP hD hS (lv_sub hl [0, 1, 2, 3] rfl)
set_option maxHeartbeats 40000000 in
set_option maxRecDepth 100000 in
theorem law_c57 {p : Program} {e : Env} {s : State} {m : MethodId} {below : List Frame} {meth : Method} {c : Code} (l : Launch) {b L : Nat} {xs : Nat → Int32} {A : Nat → Prop} {D : va_G} {k : Nat → ClassId} {sa sv : Nat} {i : Int} (C : LFX p s m meth c b L xs A D k sa sv) (hi : 0 ≤ i ∧ i + 6 ≤ (L : Int)) (hk : LAT p l e s m below meth c b A D k 2846 i) : LAT p l e s m below meth c b A D k 2365 i := by
  obtain ⟨hx, hb, hr, hml, hown, hts, hKK, hX, hbl, hbA, hA, hAf, hlocks, hSY, hRR, hL⟩ := id C
  intro a IA LA FA QA VA IB LB FB QB VB IC LC FC QC VC ID LD FD QD VD IR LR FR QR VR r H locs ls hI hRT hP hD hS hl
  have hK := hKK.1
  obtain ⟨hP, hD⟩ : PD D A ((GA k a IA LA FA QA VA r) ++ ((GB k a IB LB FB QB VB r) ++ ((GC k a IC LC FC QC VC r) ++ ((GD k a ID LD FD QD VD r) ++ ((GR k a IR LR FR QR VR r) ++ (r.tl)))))) H := ⟨hP, hD⟩
  obtain ⟨hWI, hWI_0, hWI_1, hWI_2, hrd, htr0, htr1, htr2, htr3, hrgk, hrgt, hdrc, hev, hmk, hM, hMK, hTI, hFS, htd, hlt, rgH, rgS, rgY, hdr, hit, hmmk, heq, htq, hrel, hbf, htb, hkw, hSK, hSK0, hSK1, hSK2, hNE, hNE0, hNE1, hNE2, hLE, hYE, hQE, hLE0, hLE1, hLE2, hYE0, hYE1, hYE2⟩ := id hI
  obtain ⟨gw1, gw2, gw3, gw4, gw5, gw6, gw7, gw8, gw9, gw10, gw11⟩ := id hWI
  have hx0 := gw9
  have hYI := gw11
  have hpf : rgI (FR 3) (-128) 127 900 := fun e h1 h2 => by rw [← htb e h1 h2]; exact hbf e h1 h2
  obtain ⟨z1, hz1, hz1a, hz1b⟩ := i32_z (xs (iZ (i + 1)).toNatClampNeg)
  obtain ⟨z2, hz2, hz2a, hz2b⟩ := i32_z (xs (iZ (i + 2)).toNatClampNeg)
  obtain ⟨z3, hz3, hz3a, hz3b⟩ := i32_z (xs (iZ (i + 3)).toNatClampNeg)
  obtain ⟨z4, hz4, hz4a, hz4b⟩ := i32_z (xs (iZ (i + 4)).toNatClampNeg)
  obtain ⟨z5, hz5, hz5a, hz5b⟩ := i32_z (xs (iZ (i + 5)).toNatClampNeg)
  have hl : lv_has ls 4 [(3, .int (iZ i)), (2, .ref (a 106)), (1, .ref (a 0)), (0, .ref b)] := hl
  have hls := hQE.1
  replace hls : _ := hls
  refine lv_aload_n hx hb dL_law_2365 rfl (lv_at hl 2 rfl) ?_
  refine lv_aload_n hx hb dL_law_2366 rfl (lv_at hl 3 rfl) ?_
  refine lv_iload_n hx hb dL_law_2367 rfl (lv_at hl 0 rfl) ?_
  refine lv_iconst (v := iZ 1) hx hb dL_law_2368 rfl ?_
  refine lv_iadd hx hb dL_law_2369 ?_
  refine lv_topi (fun x_1 ex_1 => ?_)
  obtain rfl : x_1 = iZ (i + 1) := ex_1.trans (iZ_add i 1)
  refine va_sld hx hb hX hbl hbA hS (zi1 hi hL) dL_law_2370 ?_
  refine lv_topi (fun x_2 ex_2 => ?_)
  obtain rfl : x_2 = iZ z1 := ex_2.trans hz1
  refine lv_aload_n hx hb dL_law_2371 rfl (lv_at hl 3 rfl) ?_
  refine lv_iload_n hx hb dL_law_2372 rfl (lv_at hl 0 rfl) ?_
  refine lv_iconst (v := iZ 2) hx hb dL_law_2373 rfl ?_
  refine lv_iadd hx hb dL_law_2374 ?_
  refine lv_topi (fun x_3 ex_3 => ?_)
  obtain rfl : x_3 = iZ (i + 2) := ex_3.trans (iZ_add i 2)
  refine va_sld hx hb hX hbl hbA hS (zi2 hi hL) dL_law_2375 ?_
  refine lv_topi (fun x_4 ex_4 => ?_)
  obtain rfl : x_4 = iZ z2 := ex_4.trans hz2
  refine lv_aload_n hx hb dL_law_2376 rfl (lv_at hl 3 rfl) ?_
  refine lv_iload_n hx hb dL_law_2377 rfl (lv_at hl 0 rfl) ?_
  refine lv_iconst (v := iZ 3) hx hb dL_law_2378 rfl ?_
  refine lv_iadd hx hb dL_law_2379 ?_
  refine lv_topi (fun x_5 ex_5 => ?_)
  obtain rfl : x_5 = iZ (i + 3) := ex_5.trans (iZ_add i 3)
  refine va_sld hx hb hX hbl hbA hS (zi3 hi hL) dL_law_2380 ?_
  refine lv_topi (fun x_6 ex_6 => ?_)
  obtain rfl : x_6 = iZ z3 := ex_6.trans hz3
  refine CKV2 (As := [.int (iZ z1), .int (iZ z2), .int (iZ z3)]) (rest := []) (tl := (GB k a IB LB FB QB VB r) ++ ((GC k a IC LC FC QC VC r) ++ ((GD k a ID LD FD QD VD r) ++ ((GR k a IR LR FR QR VR r) ++ (r.tl))))) hx hb hml hown hts hKK hP hD hS hA (p_gain l D k (a 0) (a 1) (a 2) (a 3) (a 4) (a 5) (a 6) (a 7) (a 8) (a 9) (a 10) (a 11) (IA 0) (IA 1) (IA 2) (LA 0) (LA 1) ([.ref (a 26), .ref (a 27), .ref (a 28), .int (iZ (IA 3)), .int (iZ (IA 4)), .int (iZ (IA 5)), .int (iZ (IA 6))]) (a 23) (a 27) (a 28) (a 24) (a 25) (IA 3) (IA 4) (IA 5) (FA 0) (FA 1) z1 z2 z3 rfl rfl rfl rfl rfl (by first | with_reducible assumption | omega) hx0 (by first | with_reducible assumption | omega) (by first | with_reducible assumption | omega) (by first | with_reducible assumption | omega) ⟨hz1a, hz1b⟩ ⟨hz2a, hz2b⟩ ⟨hz3a, hz3b⟩) ci_X11_gain qm_L_254 ⟨Nat.le_of_ble_eq_true rfl, Nat.le_of_ble_eq_true rfl⟩ (lroom _) [0, 1, 2, 6, 7] [3, 4, 5, 8, 9, 10, 11, 12, 13, 14, 15, 16, 17, 18, 19, 20, 21, 22, 23, 24, 25] rfl rfl rfl (by decide +kernel) (by decide +kernel) (by decide +kernel) 0 rfl rfl rfl hl.1 rfl (Nat.le_of_ble_eq_true rfl) dL_law_2381 (fun u_7 H locs hφ hP hD hS => ?_)
  have p_8 : (((0 ≤ z1 ∧ z1 < (IA 3)) ∧ (0 ≤ z3 ∧ z3 < (IA 3)) ∧ ¬ z1 = z3 ∧ (0 ≤ z2 ∧ z2 ≤ 400)) ∧ ∃ t9 : Int, isLd (FA 0) z1 z2 z3 t9 ∧ u_7.1.1 = pr (FA 0) z3 t9 - pr (FA 0) z1 z2) ∨ (¬ ((0 ≤ z1 ∧ z1 < (IA 3)) ∧ (0 ≤ z3 ∧ z3 < (IA 3)) ∧ ¬ z1 = z3 ∧ (0 ≤ z2 ∧ z2 ≤ 400)) ∧ (u_7.1.1 : Int) = -1) := hφ
  obtain ⟨hP, hD⟩ := PD.by3 (is := [21, 22, 23, 0, 1, 2, 24, 25, 3, 4, 5, 6, 7, 8, 9, 10, 11, 12, 13, 14, 15, 16, 17, 18, 19, 20]) (y := (GA k a (u9 IA 2 u_7.1.2) LA FA QA VA r)) ⟨hP, hD⟩ (by decide +kernel) rfl rfl
  refine W.eq (g2 := F0 m 2384 ls [.int (iZ u_7.1.1)]) rfl ?_
  refine lv_pop hx hb dL_law_2384 rfl ?_
  refine lv_aload_n hx hb dL_law_2385 rfl (lv_at hl 1 rfl) ?_
  refine lv_aload_n hx hb dL_law_2386 rfl (lv_at hl 3 rfl) ?_
  refine lv_iload_n hx hb dL_law_2387 rfl (lv_at hl 0 rfl) ?_
  refine lv_iconst (v := iZ 1) hx hb dL_law_2388 rfl ?_
  refine lv_iadd hx hb dL_law_2389 ?_
  refine lv_topi (fun x_9 ex_9 => ?_)
  obtain rfl : x_9 = iZ (i + 1) := ex_9.trans (iZ_add i 1)
  refine va_sld hx hb hX hbl hbA hS (zi1 hi hL) dL_law_2390 ?_
  refine lv_topi (fun x_10 ex_10 => ?_)
  obtain rfl : x_10 = iZ z1 := ex_10.trans hz1
  refine lv_aload_n hx hb dL_law_2391 rfl (lv_at hl 3 rfl) ?_
  refine lv_iload_n hx hb dL_law_2392 rfl (lv_at hl 0 rfl) ?_
  refine lv_iconst (v := iZ 2) hx hb dL_law_2393 rfl ?_
  refine lv_iadd hx hb dL_law_2394 ?_
  refine lv_topi (fun x_11 ex_11 => ?_)
  obtain rfl : x_11 = iZ (i + 2) := ex_11.trans (iZ_add i 2)
  refine va_sld hx hb hX hbl hbA hS (zi2 hi hL) dL_law_2395 ?_
  refine lv_topi (fun x_12 ex_12 => ?_)
  obtain rfl : x_12 = iZ z2 := ex_12.trans hz2
  refine lv_aload_n hx hb dL_law_2396 rfl (lv_at hl 3 rfl) ?_
  refine lv_iload_n hx hb dL_law_2397 rfl (lv_at hl 0 rfl) ?_
  refine lv_iconst (v := iZ 3) hx hb dL_law_2398 rfl ?_
  refine lv_iadd hx hb dL_law_2399 ?_
  refine lv_topi (fun x_13 ex_13 => ?_)
  obtain rfl : x_13 = iZ (i + 3) := ex_13.trans (iZ_add i 3)
  refine va_sld hx hb hX hbl hbA hS (zi3 hi hL) dL_law_2400 ?_
  refine lv_topi (fun x_14 ex_14 => ?_)
  obtain rfl : x_14 = iZ z3 := ex_14.trans hz3
  obtain ⟨hP, hD⟩ := PD.fr5 ⟨hP, hD⟩
  refine CKV2 (As := [.int (iZ z1), .int (iZ z2), .int (iZ z3)]) (rest := []) (tl := (GA k a (u9 IA 2 u_7.1.2) LA FA QA VA r) ++ ((GB k a IB LB FB QB VB r) ++ ((GC k a IC LC FC QC VC r) ++ ((GD k a ID LD FD QD VD r) ++ (r.tl))))) hx hb hml hown hts hKK hP hD hS hA (q_gain l D k (a 106) (a 107) (a 108) (a 109) (a 110) (a 111) (a 112) (a 113) (a 114) (a 115) (a 116) (a 117) (a 118) (a 119) (a 120) (a 121) (a 122) (IR 0) (IR 1) (IR 2) (IR 3) (IR 4) (IR 5) (IR 6) (IR 7) (IR 8) (IR 9) (IR 10) (IR 11) (IR 12) (IR 13) (IR 14) (IR 15) (IR 16) (IR 17) (LR 0) (LR 1) (FR 0) z1 z2 z3 hM ⟨hz1a, hz1b⟩ ⟨hz2a, hz2b⟩ ⟨hz3a, hz3b⟩) ci_X12_gain qm_L_257 ⟨Nat.le_of_ble_eq_true rfl, Nat.le_of_ble_eq_true rfl⟩ (lroom _) [0, 1] [2, 3, 4, 5, 6, 7, 8, 9, 10, 11, 12, 13, 14, 15, 16] rfl rfl rfl (by decide +kernel) (by decide +kernel) (by decide +kernel) 0 rfl rfl rfl hl.1 rfl (Nat.le_of_ble_eq_true rfl) dL_law_2401 (fun u_15 H locs hφ hP hD hS => ?_)
  have p_16 : (((0 ≤ z1 ∧ z1 < (gz (FR 0) 0)) ∧ (0 ≤ z3 ∧ z3 < (gz (FR 0) 0)) ∧ ¬ z1 = z3 ∧ (0 ≤ z2 ∧ z2 ≤ 400)) ∧ (u_15.1.1 : Int) = gnF (sh (FR 0) 10) z1 z2 z3) ∨ (¬ ((0 ≤ z1 ∧ z1 < (gz (FR 0) 0)) ∧ (0 ≤ z3 ∧ z3 < (gz (FR 0) 0)) ∧ ¬ z1 = z3 ∧ (0 ≤ z2 ∧ z2 ≤ 400)) ∧ (u_15.1.1 : Int) = -1) := hφ
  obtain ⟨hP, hD⟩ := PD.by3 (is := [15, 16, 0, 1, 2, 3, 4, 5, 6, 7, 8, 9, 10, 11, 12, 13, 14]) (y := (GR k a (u9 IR 0 u_15.1.2) LR FR QR VR r)) ⟨hP, hD⟩ (by decide +kernel) rfl rfl
  refine W.eq (g2 := F0 m 2404 ls [.int (iZ u_15.1.1)]) rfl ?_
  refine lv_pop hx hb dL_law_2404 rfl ?_
  refine lv_goto (tgt := 2846) hx hb dL_law_2405 rfl ?_
  obtain ⟨hP, hD⟩ := PD.fr5 ⟨hP, hD⟩
  obtain ⟨hP, hD⟩ := PD.fr5 ⟨hP, hD⟩
  obtain ⟨hP, hD⟩ := PD.fr5 ⟨hP, hD⟩
  obtain ⟨hP, hD⟩ := PD.fr5 ⟨hP, hD⟩
  exact hk a (u9 IA 2 u_7.1.2) LA FA QA VA IB LB FB QB VB IC LC FC QC VC ID LD FD QD VD (u9 IR 0 u_15.1.2) LR FR QR VR r H locs ls (show INV _ _ _ _ _ _ _ _ _ _ _ _ _ _ _ from ⟨hWI, hWI_0, hWI_1, hWI_2, hrd, htr0, htr1, htr2, htr3, hrgk, hrgt, hdrc, hev, hmk, hM, hMK, hTI, hFS, htd, hlt, rgH, rgS, rgY, hdr, hit, hmmk, heq, htq, hrel, hbf, htb, hkw, hSK, hSK0, hSK1, hSK2, hNE, hNE0, hNE1, hNE2, hLE, hYE, hQE, hLE0, hLE1, hLE2, hYE0, hYE1, hYE2⟩) hRT hP hD hS (lv_sub hl [0, 1, 2, 3] rfl)
set_option maxHeartbeats 40000000 in
set_option maxRecDepth 100000 in
theorem law_c58 {p : Program} {e : Env} {s : State} {m : MethodId} {below : List Frame} {meth : Method} {c : Code} (l : Launch) {b L : Nat} {xs : Nat → Int32} {A : Nat → Prop} {D : va_G} {k : Nat → ClassId} {sa sv : Nat} {i : Int} (C : LFX p s m meth c b L xs A D k sa sv) (hi : 0 ≤ i ∧ i + 6 ≤ (L : Int)) (hk : LAT p l e s m below meth c b A D k 2846 i) : LAT p l e s m below meth c b A D k 2408 i := by
  obtain ⟨hx, hb, hr, hml, hown, hts, hKK, hX, hbl, hbA, hA, hAf, hlocks, hSY, hRR, hL⟩ := id C
  intro a IA LA FA QA VA IB LB FB QB VB IC LC FC QC VC ID LD FD QD VD IR LR FR QR VR r H locs ls hI hRT hP hD hS hl
  have hK := hKK.1
  obtain ⟨hP, hD⟩ : PD D A ((GA k a IA LA FA QA VA r) ++ ((GB k a IB LB FB QB VB r) ++ ((GC k a IC LC FC QC VC r) ++ ((GD k a ID LD FD QD VD r) ++ ((GR k a IR LR FR QR VR r) ++ (r.tl)))))) H := ⟨hP, hD⟩
  obtain ⟨hWI, hWI_0, hWI_1, hWI_2, hrd, htr0, htr1, htr2, htr3, hrgk, hrgt, hdrc, hev, hmk, hM, hMK, hTI, hFS, htd, hlt, rgH, rgS, rgY, hdr, hit, hmmk, heq, htq, hrel, hbf, htb, hkw, hSK, hSK0, hSK1, hSK2, hNE, hNE0, hNE1, hNE2, hLE, hYE, hQE, hLE0, hLE1, hLE2, hYE0, hYE1, hYE2⟩ := id hI
  obtain ⟨gw1, gw2, gw3, gw4, gw5, gw6, gw7, gw8, gw9, gw10, gw11⟩ := id hWI
  have hx0 := gw9
  have hYI := gw11
  have hpf : rgI (FR 3) (-128) 127 900 := fun e h1 h2 => by rw [← htb e h1 h2]; exact hbf e h1 h2
  obtain ⟨z1, hz1, hz1a, hz1b⟩ := i32_z (xs (iZ (i + 1)).toNatClampNeg)
  obtain ⟨z2, hz2, hz2a, hz2b⟩ := i32_z (xs (iZ (i + 2)).toNatClampNeg)
  obtain ⟨z3, hz3, hz3a, hz3b⟩ := i32_z (xs (iZ (i + 3)).toNatClampNeg)
  obtain ⟨z4, hz4, hz4a, hz4b⟩ := i32_z (xs (iZ (i + 4)).toNatClampNeg)
  obtain ⟨z5, hz5, hz5a, hz5b⟩ := i32_z (xs (iZ (i + 5)).toNatClampNeg)
  have hl : lv_has ls 4 [(3, .int (iZ i)), (2, .ref (a 106)), (1, .ref (a 0)), (0, .ref b)] := hl
  have hls := hQE.1
  replace hls : _ := hls
  refine lv_aload_n hx hb dL_law_2408 rfl (lv_at hl 2 rfl) ?_
  refine lv_aload_n hx hb dL_law_2409 rfl (lv_at hl 3 rfl) ?_
  refine lv_iload_n hx hb dL_law_2410 rfl (lv_at hl 0 rfl) ?_
  refine lv_iconst (v := iZ 1) hx hb dL_law_2411 rfl ?_
  refine lv_iadd hx hb dL_law_2412 ?_
  refine lv_topi (fun x_1 ex_1 => ?_)
  obtain rfl : x_1 = iZ (i + 1) := ex_1.trans (iZ_add i 1)
  refine va_sld hx hb hX hbl hbA hS (zi1 hi hL) dL_law_2413 ?_
  refine lv_topi (fun x_2 ex_2 => ?_)
  obtain rfl : x_2 = iZ z1 := ex_2.trans hz1
  refine lv_aload_n hx hb dL_law_2414 rfl (lv_at hl 3 rfl) ?_
  refine lv_iload_n hx hb dL_law_2415 rfl (lv_at hl 0 rfl) ?_
  refine lv_iconst (v := iZ 2) hx hb dL_law_2416 rfl ?_
  refine lv_iadd hx hb dL_law_2417 ?_
  refine lv_topi (fun x_3 ex_3 => ?_)
  obtain rfl : x_3 = iZ (i + 2) := ex_3.trans (iZ_add i 2)
  refine va_sld hx hb hX hbl hbA hS (zi2 hi hL) dL_law_2418 ?_
  refine lv_topi (fun x_4 ex_4 => ?_)
  obtain rfl : x_4 = iZ z2 := ex_4.trans hz2
  refine lv_aload_n hx hb dL_law_2419 rfl (lv_at hl 3 rfl) ?_
  refine lv_iload_n hx hb dL_law_2420 rfl (lv_at hl 0 rfl) ?_
  refine lv_iconst (v := iZ 3) hx hb dL_law_2421 rfl ?_
  refine lv_iadd hx hb dL_law_2422 ?_
  refine lv_topi (fun x_5 ex_5 => ?_)
  obtain rfl : x_5 = iZ (i + 3) := ex_5.trans (iZ_add i 3)
  refine va_sld hx hb hX hbl hbA hS (zi3 hi hL) dL_law_2423 ?_
  refine lv_topi (fun x_6 ex_6 => ?_)
  obtain rfl : x_6 = iZ z3 := ex_6.trans hz3
  obtain ⟨hP, hD⟩ := PD.mid4 ⟨hP, hD⟩
  refine CXM (mid := (GB k a IB LB FB QB VB r) ++ ((GC k a IC LC FC QC VC r) ++ ((GD k a ID LD FD QD VD r) ++ ((GR k a IR LR FR QR VR r))))) (c0 := 123) (s0 := 16705) (r := r) (As := [.int (iZ z1), .int (iZ z2), .int (iZ z3)]) (rest := []) hx hb hml hown hts hKK hP hD hS hA (p_hoped l D k (a 0) (a 1) (a 2) (a 3) (a 4) (a 5) (a 6) (a 7) (a 8) (a 9) (a 10) (a 11) (IA 0) (IA 1) (IA 2) (LA 0) (LA 1) ([.ref (a 26), .ref (a 27), .ref (a 28), .int (iZ (IA 3)), .int (iZ (IA 4)), .int (iZ (IA 5)), .int (iZ (IA 6))]) (a 23) (a 27) (a 28) (a 24) (a 25) (IA 3) (IA 4) (IA 5) (FA 0) (FA 1) z1 z2 z3 r hRT rfl rfl rfl rfl rfl (by first | with_reducible assumption | omega) hx0 (by first | with_reducible assumption | omega) (by first | with_reducible assumption | omega) (by first | with_reducible assumption | omega) ⟨hz1a, hz1b⟩ ⟨hz2a, hz2b⟩ ⟨hz3a, hz3b⟩) ci_X11_hoped qm_L_258 ⟨Nat.le_of_ble_eq_true rfl, Nat.le_of_ble_eq_true rfl⟩ ⟨Nat.le_of_ble_eq_true rfl, Nat.le_of_ble_eq_true rfl⟩ [0, 1, 17, 2, 6, 7] [3, 4, 5, 8, 9, 10, 11, 12, 13, 14, 15, 16, 18, 19, 20, 21, 22, 23, 24, 25] rfl rfl rfl (by decide +kernel) (by decide +kernel) (by decide +kernel) 0 rfl rfl rfl hl.1 rfl (Nat.le_of_ble_eq_true rfl) dL_law_2424 (fun u_7 H locs hφ hP hD hS => ?_)
  obtain ⟨r_8, v_9⟩ := u_7
  obtain ⟨p_10, rtr_8⟩ : ((((0 ≤ z1 ∧ z1 < (IA 3)) ∧ (0 ≤ z3 ∧ z3 < (IA 3)) ∧ ¬ z1 = z3 ∧ (0 ≤ z2 ∧ z2 ≤ 400)) ∧ ((snF (FA 0) (FA 1) (IA 4) z1 z3 z2 = -1 ∧ (v_9.1.1 : Int) = -1) ∨ (¬ snF (FA 0) (FA 1) (IA 4) z1 z3 z2 = -1 ∧ (v_9.1.1 : Int) = pr (FA 0) z3 (snF (FA 0) (FA 1) (IA 4) z1 z3 z2) - pr (FA 0) z1 z2))) ∨ (¬ ((0 ≤ z1 ∧ z1 < (IA 3)) ∧ (0 ≤ z3 ∧ z3 < (IA 3)) ∧ ¬ z1 = z3 ∧ (0 ≤ z2 ∧ z2 ≤ 400)) ∧ (v_9.1.1 : Int) = -1)) ∧ ((RT k) (RX (FA 0) (FA 1) (IA 3) (IA 4)) r_8) := hφ
  obtain ⟨hP, hD⟩ := PD.dim4 ⟨hP, hD⟩
  obtain ⟨hP, hD⟩ := PD.by3 (is := [20, 21, 23, 0, 1, 2, 24, 25, 3, 4, 5, 6, 7, 8, 9, 10, 11, 22, 12, 13, 14, 15, 16, 17, 18, 19]) (y := (GA k a (u9 IA 2 v_9.1.2) LA FA QA VA r_8)) ⟨hP, hD⟩ (by decide +kernel) rfl rfl
  refine W.ceq (cells' := 123 + cz true r_8.b) (slots' := 16705 + sz true r_8.b) rfl rfl ?_
  refine W.eq (g2 := F0 m 2427 ls [.int (iZ v_9.1.1)]) rfl ?_
  refine lv_pop hx hb dL_law_2427 rfl ?_
  refine lv_aload_n hx hb dL_law_2428 rfl (lv_at hl 1 rfl) ?_
  refine lv_aload_n hx hb dL_law_2429 rfl (lv_at hl 3 rfl) ?_
  refine lv_iload_n hx hb dL_law_2430 rfl (lv_at hl 0 rfl) ?_
  refine lv_iconst (v := iZ 1) hx hb dL_law_2431 rfl ?_
  refine lv_iadd hx hb dL_law_2432 ?_
  refine lv_topi (fun x_11 ex_11 => ?_)
  obtain rfl : x_11 = iZ (i + 1) := ex_11.trans (iZ_add i 1)
  refine va_sld hx hb hX hbl hbA hS (zi1 hi hL) dL_law_2433 ?_
  refine lv_topi (fun x_12 ex_12 => ?_)
  obtain rfl : x_12 = iZ z1 := ex_12.trans hz1
  refine lv_aload_n hx hb dL_law_2434 rfl (lv_at hl 3 rfl) ?_
  refine lv_iload_n hx hb dL_law_2435 rfl (lv_at hl 0 rfl) ?_
  refine lv_iconst (v := iZ 2) hx hb dL_law_2436 rfl ?_
  refine lv_iadd hx hb dL_law_2437 ?_
  refine lv_topi (fun x_13 ex_13 => ?_)
  obtain rfl : x_13 = iZ (i + 2) := ex_13.trans (iZ_add i 2)
  refine va_sld hx hb hX hbl hbA hS (zi2 hi hL) dL_law_2438 ?_
  refine lv_topi (fun x_14 ex_14 => ?_)
  obtain rfl : x_14 = iZ z2 := ex_14.trans hz2
  refine lv_aload_n hx hb dL_law_2439 rfl (lv_at hl 3 rfl) ?_
  refine lv_iload_n hx hb dL_law_2440 rfl (lv_at hl 0 rfl) ?_
  refine lv_iconst (v := iZ 3) hx hb dL_law_2441 rfl ?_
  refine lv_iadd hx hb dL_law_2442 ?_
  refine lv_topi (fun x_15 ex_15 => ?_)
  obtain rfl : x_15 = iZ (i + 3) := ex_15.trans (iZ_add i 3)
  refine va_sld hx hb hX hbl hbA hS (zi3 hi hL) dL_law_2443 ?_
  refine lv_topi (fun x_16 ex_16 => ?_)
  obtain rfl : x_16 = iZ z3 := ex_16.trans hz3
  obtain ⟨hP, hD⟩ := PD.fr5 ⟨hP, hD⟩
  refine CKV2 (As := [.int (iZ z1), .int (iZ z2), .int (iZ z3)]) (rest := []) (tl := (GA k a (u9 IA 2 v_9.1.2) LA FA QA VA r_8) ++ ((GB k a IB LB FB QB VB r) ++ ((GC k a IC LC FC QC VC r) ++ ((GD k a ID LD FD QD VD r) ++ (r_8.tl))))) hx hb hml hown hts hKK hP hD hS hA (q_hoped l D k (a 106) (a 107) (a 108) (a 109) (a 110) (a 111) (a 112) (a 113) (a 114) (a 115) (a 116) (a 117) (a 118) (a 119) (a 120) (a 121) (a 122) (IR 0) (IR 1) (IR 2) (IR 3) (IR 4) (IR 5) (IR 6) (IR 7) (IR 8) (IR 9) (IR 10) (IR 11) (IR 12) (IR 13) (IR 14) (IR 15) (IR 16) (IR 17) (LR 0) (LR 1) (FR 0) z1 z2 z3 hM ⟨hz1a, hz1b⟩ ⟨hz2a, hz2b⟩ ⟨hz3a, hz3b⟩) ci_X12_hoped qm_L_261 ⟨Nat.le_of_ble_eq_true rfl, Nat.le_of_ble_eq_true rfl⟩ (lroom _) [0, 1] [2, 3, 4, 5, 6, 7, 8, 9, 10, 11, 12, 13, 14, 15, 16] rfl rfl rfl (by decide +kernel) (by decide +kernel) (by decide +kernel) 0 rfl rfl rfl hl.1 rfl (Nat.le_of_ble_eq_true rfl) dL_law_2444 (fun u_17 H locs hφ hP hD hS => ?_)
  have p_18 : (((0 ≤ z1 ∧ z1 < (gz (FR 0) 0)) ∧ (0 ≤ z3 ∧ z3 < (gz (FR 0) 0)) ∧ ¬ z1 = z3 ∧ (0 ≤ z2 ∧ z2 ≤ 400)) ∧ ((snF (sh (FR 0) 10) (sh (FR 0) 46) (gz (FR 0) 1) z1 z3 z2 = -1 ∧ (u_17.1.1 : Int) = -1) ∨ (¬ snF (sh (FR 0) 10) (sh (FR 0) 46) (gz (FR 0) 1) z1 z3 z2 = -1 ∧ (u_17.1.1 : Int) = pr (sh (FR 0) 10) z3 (snF (sh (FR 0) 10) (sh (FR 0) 46) (gz (FR 0) 1) z1 z3 z2) - pr (sh (FR 0) 10) z1 z2))) ∨ (¬ ((0 ≤ z1 ∧ z1 < (gz (FR 0) 0)) ∧ (0 ≤ z3 ∧ z3 < (gz (FR 0) 0)) ∧ ¬ z1 = z3 ∧ (0 ≤ z2 ∧ z2 ≤ 400)) ∧ (u_17.1.1 : Int) = -1) := hφ
  obtain ⟨hP, hD⟩ := PD.by3 (is := [15, 16, 0, 1, 2, 3, 4, 5, 6, 7, 8, 9, 10, 11, 12, 13, 14]) (y := (GR k a (u9 IR 0 u_17.1.2) LR FR QR VR r_8)) ⟨hP, hD⟩ (by decide +kernel) rfl rfl
  refine W.eq (g2 := F0 m 2447 ls [.int (iZ u_17.1.1)]) rfl ?_
  refine lv_pop hx hb dL_law_2447 rfl ?_
  refine lv_goto (tgt := 2846) hx hb dL_law_2448 rfl ?_
  obtain ⟨hP, hD⟩ := PD.fr5 ⟨hP, hD⟩
  obtain ⟨hP, hD⟩ := PD.fr5 ⟨hP, hD⟩
  obtain ⟨hP, hD⟩ := PD.fr5 ⟨hP, hD⟩
  obtain ⟨hP, hD⟩ := PD.fr5 ⟨hP, hD⟩
  exact hk a (u9 IA 2 v_9.1.2) LA FA QA VA IB LB FB QB VB IC LC FC QC VC ID LD FD QD VD (u9 IR 0 u_17.1.2) LR FR QR VR r_8 H locs ls (show INV _ _ _ _ _ _ _ _ _ _ _ _ _ _ _ from ⟨hWI, hWI_0, hWI_1, hWI_2, hrd, htr0, htr1, htr2, htr3, hrgk, hrgt, hdrc, hev, hmk, hM, hMK, hTI, hFS, htd, hlt, rgH, rgS, rgY, hdr, hit, hmmk, heq, htq, hrel, hbf, htb, hkw, hSK, hSK0, hSK1, hSK2, hNE, hNE0, hNE1, hNE2, hLE, hYE, hQE, hLE0, hLE1, hLE2, hYE0, hYE1, hYE2⟩) rtr_8 hP hD hS (lv_sub hl [0, 1, 2, 3] rfl)
set_option maxHeartbeats 40000000 in
set_option maxRecDepth 100000 in
theorem law_c59 {p : Program} {e : Env} {s : State} {m : MethodId} {below : List Frame} {meth : Method} {c : Code} (l : Launch) {b L : Nat} {xs : Nat → Int32} {A : Nat → Prop} {D : va_G} {k : Nat → ClassId} {sa sv : Nat} {i : Int} (C : LFX p s m meth c b L xs A D k sa sv) (hi : 0 ≤ i ∧ i + 6 ≤ (L : Int)) (hk : LAT p l e s m below meth c b A D k 2846 i) : LAT p l e s m below meth c b A D k 2451 i := by
  obtain ⟨hx, hb, hr, hml, hown, hts, hKK, hX, hbl, hbA, hA, hAf, hlocks, hSY, hRR, hL⟩ := id C
  intro a IA LA FA QA VA IB LB FB QB VB IC LC FC QC VC ID LD FD QD VD IR LR FR QR VR r H locs ls hI hRT hP hD hS hl
  have hK := hKK.1
  obtain ⟨hP, hD⟩ : PD D A ((GA k a IA LA FA QA VA r) ++ ((GB k a IB LB FB QB VB r) ++ ((GC k a IC LC FC QC VC r) ++ ((GD k a ID LD FD QD VD r) ++ ((GR k a IR LR FR QR VR r) ++ (r.tl)))))) H := ⟨hP, hD⟩
  obtain ⟨hWI, hWI_0, hWI_1, hWI_2, hrd, htr0, htr1, htr2, htr3, hrgk, hrgt, hdrc, hev, hmk, hM, hMK, hTI, hFS, htd, hlt, rgH, rgS, rgY, hdr, hit, hmmk, heq, htq, hrel, hbf, htb, hkw, hSK, hSK0, hSK1, hSK2, hNE, hNE0, hNE1, hNE2, hLE, hYE, hQE, hLE0, hLE1, hLE2, hYE0, hYE1, hYE2⟩ := id hI
  obtain ⟨gw1, gw2, gw3, gw4, gw5, gw6, gw7, gw8, gw9, gw10, gw11⟩ := id hWI
  have hx0 := gw9
  have hYI := gw11
  have hpf : rgI (FR 3) (-128) 127 900 := fun e h1 h2 => by rw [← htb e h1 h2]; exact hbf e h1 h2
  obtain ⟨z1, hz1, hz1a, hz1b⟩ := i32_z (xs (iZ (i + 1)).toNatClampNeg)
  obtain ⟨z2, hz2, hz2a, hz2b⟩ := i32_z (xs (iZ (i + 2)).toNatClampNeg)
  obtain ⟨z3, hz3, hz3a, hz3b⟩ := i32_z (xs (iZ (i + 3)).toNatClampNeg)
  obtain ⟨z4, hz4, hz4a, hz4b⟩ := i32_z (xs (iZ (i + 4)).toNatClampNeg)
  obtain ⟨z5, hz5, hz5a, hz5b⟩ := i32_z (xs (iZ (i + 5)).toNatClampNeg)
  have hl : lv_has ls 4 [(3, .int (iZ i)), (2, .ref (a 106)), (1, .ref (a 0)), (0, .ref b)] := hl
  have hls := hQE.1
  replace hls : _ := hls
  refine lv_aload_n hx hb dL_law_2451 rfl (lv_at hl 2 rfl) ?_
  refine lv_aload_n hx hb dL_law_2452 rfl (lv_at hl 3 rfl) ?_
  refine lv_iload_n hx hb dL_law_2453 rfl (lv_at hl 0 rfl) ?_
  refine lv_iconst (v := iZ 1) hx hb dL_law_2454 rfl ?_
  refine lv_iadd hx hb dL_law_2455 ?_
  refine lv_topi (fun x_1 ex_1 => ?_)
  obtain rfl : x_1 = iZ (i + 1) := ex_1.trans (iZ_add i 1)
  refine va_sld hx hb hX hbl hbA hS (zi1 hi hL) dL_law_2456 ?_
  refine lv_topi (fun x_2 ex_2 => ?_)
  obtain rfl : x_2 = iZ z1 := ex_2.trans hz1
  refine lv_aload_n hx hb dL_law_2457 rfl (lv_at hl 3 rfl) ?_
  refine lv_iload_n hx hb dL_law_2458 rfl (lv_at hl 0 rfl) ?_
  refine lv_iconst (v := iZ 2) hx hb dL_law_2459 rfl ?_
  refine lv_iadd hx hb dL_law_2460 ?_
  refine lv_topi (fun x_3 ex_3 => ?_)
  obtain rfl : x_3 = iZ (i + 2) := ex_3.trans (iZ_add i 2)
  refine va_sld hx hb hX hbl hbA hS (zi2 hi hL) dL_law_2461 ?_
  refine lv_topi (fun x_4 ex_4 => ?_)
  obtain rfl : x_4 = iZ z2 := ex_4.trans hz2
  refine CKV2 (As := [.int (iZ z1), .int (iZ z2)]) (rest := []) (tl := (GB k a IB LB FB QB VB r) ++ ((GC k a IC LC FC QC VC r) ++ ((GD k a ID LD FD QD VD r) ++ ((GR k a IR LR FR QR VR r) ++ (r.tl))))) hx hb hml hown hts hKK hP hD hS hA (p_market l D k (a 0) (a 1) (a 2) (a 3) (a 4) (a 5) (a 6) (a 7) (a 8) (a 9) (a 10) (a 11) (IA 0) (IA 1) (IA 2) (LA 0) (LA 1) ([.ref (a 26), .ref (a 27), .ref (a 28), .int (iZ (IA 3)), .int (iZ (IA 4)), .int (iZ (IA 5)), .int (iZ (IA 6))]) (a 23) (a 27) (a 28) (a 24) (a 25) (IA 3) (IA 4) (IA 5) (FA 0) (FA 1) z1 z2 rfl rfl rfl rfl rfl (by first | with_reducible assumption | omega) hx0 (by first | with_reducible assumption | omega) (by first | with_reducible assumption | omega) (by first | with_reducible assumption | omega) ⟨hz1a, hz1b⟩ ⟨hz2a, hz2b⟩) ci_X11_market qm_L_262 ⟨Nat.le_of_ble_eq_true rfl, Nat.le_of_ble_eq_true rfl⟩ (lroom _) [0, 1, 2, 6, 7] [3, 4, 5, 8, 9, 10, 11, 12, 13, 14, 15, 16, 17, 18, 19, 20, 21, 22, 23, 24, 25] rfl rfl rfl (by decide +kernel) (by decide +kernel) (by decide +kernel) 0 rfl rfl rfl hl.1 rfl (Nat.le_of_ble_eq_true rfl) dL_law_2462 (fun u_5 H locs hφ hP hD hS => ?_)
  have p_6 : (((0 ≤ z1 ∧ z1 < (IA 3)) ∧ (0 ≤ z2 ∧ z2 ≤ 400)) ∧ isFB (fun j => -gvF (FA 0) z1 z2 j) z1 (IA 3) u_5.1.1) ∨ (¬ ((0 ≤ z1 ∧ z1 < (IA 3)) ∧ (0 ≤ z2 ∧ z2 ≤ 400)) ∧ (u_5.1.1 : Int) = -1) := hφ
  obtain ⟨hP, hD⟩ := PD.by3 (is := [21, 22, 23, 0, 1, 2, 24, 25, 3, 4, 5, 6, 7, 8, 9, 10, 11, 12, 13, 14, 15, 16, 17, 18, 19, 20]) (y := (GA k a (u9 IA 2 u_5.1.2) LA FA QA VA r)) ⟨hP, hD⟩ (by decide +kernel) rfl rfl
  refine W.eq (g2 := F0 m 2465 ls [.int (iZ u_5.1.1)]) rfl ?_
  refine lv_pop hx hb dL_law_2465 rfl ?_
  refine lv_aload_n hx hb dL_law_2466 rfl (lv_at hl 1 rfl) ?_
  refine lv_aload_n hx hb dL_law_2467 rfl (lv_at hl 3 rfl) ?_
  refine lv_iload_n hx hb dL_law_2468 rfl (lv_at hl 0 rfl) ?_
  refine lv_iconst (v := iZ 1) hx hb dL_law_2469 rfl ?_
  refine lv_iadd hx hb dL_law_2470 ?_
  refine lv_topi (fun x_7 ex_7 => ?_)
  obtain rfl : x_7 = iZ (i + 1) := ex_7.trans (iZ_add i 1)
  refine va_sld hx hb hX hbl hbA hS (zi1 hi hL) dL_law_2471 ?_
  refine lv_topi (fun x_8 ex_8 => ?_)
  obtain rfl : x_8 = iZ z1 := ex_8.trans hz1
  refine lv_aload_n hx hb dL_law_2472 rfl (lv_at hl 3 rfl) ?_
  refine lv_iload_n hx hb dL_law_2473 rfl (lv_at hl 0 rfl) ?_
  refine lv_iconst (v := iZ 2) hx hb dL_law_2474 rfl ?_
  refine lv_iadd hx hb dL_law_2475 ?_
  refine lv_topi (fun x_9 ex_9 => ?_)
  obtain rfl : x_9 = iZ (i + 2) := ex_9.trans (iZ_add i 2)
  refine va_sld hx hb hX hbl hbA hS (zi2 hi hL) dL_law_2476 ?_
  refine lv_topi (fun x_10 ex_10 => ?_)
  obtain rfl : x_10 = iZ z2 := ex_10.trans hz2
  obtain ⟨hP, hD⟩ := PD.fr5 ⟨hP, hD⟩
  refine CKV2 (As := [.int (iZ z1), .int (iZ z2)]) (rest := []) (tl := (GA k a (u9 IA 2 u_5.1.2) LA FA QA VA r) ++ ((GB k a IB LB FB QB VB r) ++ ((GC k a IC LC FC QC VC r) ++ ((GD k a ID LD FD QD VD r) ++ (r.tl))))) hx hb hml hown hts hKK hP hD hS hA (q_market l D k (a 106) (a 107) (a 108) (a 109) (a 110) (a 111) (a 112) (a 113) (a 114) (a 115) (a 116) (a 117) (a 118) (a 119) (a 120) (a 121) (a 122) (IR 0) (IR 1) (IR 2) (IR 3) (IR 4) (IR 5) (IR 6) (IR 7) (IR 8) (IR 9) (IR 10) (IR 11) (IR 12) (IR 13) (IR 14) (IR 15) (IR 16) (IR 17) (LR 0) (LR 1) (FR 0) z1 z2 hM ⟨hz1a, hz1b⟩ ⟨hz2a, hz2b⟩) ci_X12_market qm_L_265 ⟨Nat.le_of_ble_eq_true rfl, Nat.le_of_ble_eq_true rfl⟩ (lroom _) [0, 1] [2, 3, 4, 5, 6, 7, 8, 9, 10, 11, 12, 13, 14, 15, 16] rfl rfl rfl (by decide +kernel) (by decide +kernel) (by decide +kernel) 0 rfl rfl rfl hl.1 rfl (Nat.le_of_ble_eq_true rfl) dL_law_2477 (fun u_11 H locs hφ hP hD hS => ?_)
  have p_12 : (((0 ≤ z1 ∧ z1 < (gz (FR 0) 0)) ∧ (0 ≤ z2 ∧ z2 ≤ 400)) ∧ isFB (fun j => -gnF (sh (FR 0) 10) z1 z2 j) z1 (gz (FR 0) 0) u_11.1.1) ∨ (¬ ((0 ≤ z1 ∧ z1 < (gz (FR 0) 0)) ∧ (0 ≤ z2 ∧ z2 ≤ 400)) ∧ (u_11.1.1 : Int) = -1) := hφ
  obtain ⟨hP, hD⟩ := PD.by3 (is := [15, 16, 0, 1, 2, 3, 4, 5, 6, 7, 8, 9, 10, 11, 12, 13, 14]) (y := (GR k a (u9 IR 0 u_11.1.2) LR FR QR VR r)) ⟨hP, hD⟩ (by decide +kernel) rfl rfl
  refine W.eq (g2 := F0 m 2480 ls [.int (iZ u_11.1.1)]) rfl ?_
  refine lv_pop hx hb dL_law_2480 rfl ?_
  refine lv_goto (tgt := 2846) hx hb dL_law_2481 rfl ?_
  obtain ⟨hP, hD⟩ := PD.fr5 ⟨hP, hD⟩
  obtain ⟨hP, hD⟩ := PD.fr5 ⟨hP, hD⟩
  obtain ⟨hP, hD⟩ := PD.fr5 ⟨hP, hD⟩
  obtain ⟨hP, hD⟩ := PD.fr5 ⟨hP, hD⟩
  exact hk a (u9 IA 2 u_5.1.2) LA FA QA VA IB LB FB QB VB IC LC FC QC VC ID LD FD QD VD (u9 IR 0 u_11.1.2) LR FR QR VR r H locs ls (show INV _ _ _ _ _ _ _ _ _ _ _ _ _ _ _ from ⟨hWI, hWI_0, hWI_1, hWI_2, hrd, htr0, htr1, htr2, htr3, hrgk, hrgt, hdrc, hev, hmk, hM, hMK, hTI, hFS, htd, hlt, rgH, rgS, rgY, hdr, hit, hmmk, heq, htq, hrel, hbf, htb, hkw, hSK, hSK0, hSK1, hSK2, hNE, hNE0, hNE1, hNE2, hLE, hYE, hQE, hLE0, hLE1, hLE2, hYE0, hYE1, hYE2⟩) hRT hP hD hS (lv_sub hl [0, 1, 2, 3] rfl)
set_option maxHeartbeats 40000000 in
set_option maxRecDepth 100000 in
theorem law_c60 {p : Program} {e : Env} {s : State} {m : MethodId} {below : List Frame} {meth : Method} {c : Code} (l : Launch) {b L : Nat} {xs : Nat → Int32} {A : Nat → Prop} {D : va_G} {k : Nat → ClassId} {sa sv : Nat} {i : Int} (C : LFX p s m meth c b L xs A D k sa sv) (hi : 0 ≤ i ∧ i + 6 ≤ (L : Int)) (hk : LAT p l e s m below meth c b A D k 2846 i) : LAT p l e s m below meth c b A D k 2484 i := by
  obtain ⟨hx, hb, hr, hml, hown, hts, hKK, hX, hbl, hbA, hA, hAf, hlocks, hSY, hRR, hL⟩ := id C
  intro a IA LA FA QA VA IB LB FB QB VB IC LC FC QC VC ID LD FD QD VD IR LR FR QR VR r H locs ls hI hRT hP hD hS hl
  have hK := hKK.1
  obtain ⟨hP, hD⟩ : PD D A ((GA k a IA LA FA QA VA r) ++ ((GB k a IB LB FB QB VB r) ++ ((GC k a IC LC FC QC VC r) ++ ((GD k a ID LD FD QD VD r) ++ ((GR k a IR LR FR QR VR r) ++ (r.tl)))))) H := ⟨hP, hD⟩
  obtain ⟨hWI, hWI_0, hWI_1, hWI_2, hrd, htr0, htr1, htr2, htr3, hrgk, hrgt, hdrc, hev, hmk, hM, hMK, hTI, hFS, htd, hlt, rgH, rgS, rgY, hdr, hit, hmmk, heq, htq, hrel, hbf, htb, hkw, hSK, hSK0, hSK1, hSK2, hNE, hNE0, hNE1, hNE2, hLE, hYE, hQE, hLE0, hLE1, hLE2, hYE0, hYE1, hYE2⟩ := id hI
  obtain ⟨gw1, gw2, gw3, gw4, gw5, gw6, gw7, gw8, gw9, gw10, gw11⟩ := id hWI
  have hx0 := gw9
  have hYI := gw11
  have hpf : rgI (FR 3) (-128) 127 900 := fun e h1 h2 => by rw [← htb e h1 h2]; exact hbf e h1 h2
  obtain ⟨z1, hz1, hz1a, hz1b⟩ := i32_z (xs (iZ (i + 1)).toNatClampNeg)
  obtain ⟨z2, hz2, hz2a, hz2b⟩ := i32_z (xs (iZ (i + 2)).toNatClampNeg)
  obtain ⟨z3, hz3, hz3a, hz3b⟩ := i32_z (xs (iZ (i + 3)).toNatClampNeg)
  obtain ⟨z4, hz4, hz4a, hz4b⟩ := i32_z (xs (iZ (i + 4)).toNatClampNeg)
  obtain ⟨z5, hz5, hz5a, hz5b⟩ := i32_z (xs (iZ (i + 5)).toNatClampNeg)
  have hl : lv_has ls 4 [(3, .int (iZ i)), (2, .ref (a 106)), (1, .ref (a 0)), (0, .ref b)] := hl
  have hls := hQE.1
  replace hls : _ := hls
  refine lv_aload_n hx hb dL_law_2484 rfl (lv_at hl 2 rfl) ?_
  refine lv_aload_n hx hb dL_law_2485 rfl (lv_at hl 3 rfl) ?_
  refine lv_iload_n hx hb dL_law_2486 rfl (lv_at hl 0 rfl) ?_
  refine lv_iconst (v := iZ 1) hx hb dL_law_2487 rfl ?_
  refine lv_iadd hx hb dL_law_2488 ?_
  refine lv_topi (fun x_1 ex_1 => ?_)
  obtain rfl : x_1 = iZ (i + 1) := ex_1.trans (iZ_add i 1)
  refine va_sld hx hb hX hbl hbA hS (zi1 hi hL) dL_law_2489 ?_
  refine lv_topi (fun x_2 ex_2 => ?_)
  obtain rfl : x_2 = iZ z1 := ex_2.trans hz1
  refine lv_aload_n hx hb dL_law_2490 rfl (lv_at hl 3 rfl) ?_
  refine lv_iload_n hx hb dL_law_2491 rfl (lv_at hl 0 rfl) ?_
  refine lv_iconst (v := iZ 2) hx hb dL_law_2492 rfl ?_
  refine lv_iadd hx hb dL_law_2493 ?_
  refine lv_topi (fun x_3 ex_3 => ?_)
  obtain rfl : x_3 = iZ (i + 2) := ex_3.trans (iZ_add i 2)
  refine va_sld hx hb hX hbl hbA hS (zi2 hi hL) dL_law_2494 ?_
  refine lv_topi (fun x_4 ex_4 => ?_)
  obtain rfl : x_4 = iZ z2 := ex_4.trans hz2
  refine lv_aload_n hx hb dL_law_2495 rfl (lv_at hl 3 rfl) ?_
  refine lv_iload_n hx hb dL_law_2496 rfl (lv_at hl 0 rfl) ?_
  refine lv_iconst (v := iZ 3) hx hb dL_law_2497 rfl ?_
  refine lv_iadd hx hb dL_law_2498 ?_
  refine lv_topi (fun x_5 ex_5 => ?_)
  obtain rfl : x_5 = iZ (i + 3) := ex_5.trans (iZ_add i 3)
  refine va_sld hx hb hX hbl hbA hS (zi3 hi hL) dL_law_2499 ?_
  refine lv_topi (fun x_6 ex_6 => ?_)
  obtain rfl : x_6 = iZ z3 := ex_6.trans hz3
  refine CKV2 (As := [.int (iZ z1), .int (iZ z2), .int (iZ z3)]) (rest := []) (tl := (GB k a IB LB FB QB VB r) ++ ((GC k a IC LC FC QC VC r) ++ ((GD k a ID LD FD QD VD r) ++ ((GR k a IR LR FR QR VR r) ++ (r.tl))))) hx hb hml hown hts hKK hP hD hS hA (p_meanPrice l D k (a 0) (a 1) (a 2) (a 3) (a 4) (a 5) (a 6) (a 7) (a 8) (a 9) (a 10) (a 11) (IA 0) (IA 1) (IA 2) (LA 0) (LA 1) ([.ref (a 26), .ref (a 27), .ref (a 28), .int (iZ (IA 3)), .int (iZ (IA 4)), .int (iZ (IA 5)), .int (iZ (IA 6))]) (a 23) (a 27) (a 28) (a 24) (a 25) (IA 3) (IA 4) (IA 5) (FA 0) (FA 1) z1 z2 z3 rfl rfl rfl rfl rfl (by first | with_reducible assumption | omega) hx0 (by first | with_reducible assumption | omega) (by first | with_reducible assumption | omega) (by first | with_reducible assumption | omega) ⟨hz1a, hz1b⟩ ⟨hz2a, hz2b⟩ ⟨hz3a, hz3b⟩) ci_X11_meanPrice qm_L_266 ⟨Nat.le_of_ble_eq_true rfl, Nat.le_of_ble_eq_true rfl⟩ (lroom _) [0, 1, 2, 6, 7] [3, 4, 5, 8, 9, 10, 11, 12, 13, 14, 15, 16, 17, 18, 19, 20, 21, 22, 23, 24, 25] rfl rfl rfl (by decide +kernel) (by decide +kernel) (by decide +kernel) 0 rfl rfl rfl hl.1 rfl (Nat.le_of_ble_eq_true rfl) dL_law_2500 (fun u_7 H locs hφ hP hD hS => ?_)
  have p_8 : ((u_7.1.1 : Int) = 1 ∧ ((0 ≤ z1 ∧ z1 < (IA 3)) ∧ (0 ≤ z2 ∧ z2 ≤ 500) ∧ (0 ≤ z3 ∧ z3 ≤ 500) ∧ z2 ≤ z3)) ∨ ((u_7.1.1 : Int) = 0 ∧ ¬ ((0 ≤ z1 ∧ z1 < (IA 3)) ∧ (0 ≤ z2 ∧ z2 ≤ 500) ∧ (0 ≤ z3 ∧ z3 ≤ 500) ∧ z2 ≤ z3)) := hφ
  obtain ⟨hP, hD⟩ := PD.by3 (is := [21, 22, 23, 0, 1, 2, 24, 25, 3, 4, 5, 6, 7, 8, 9, 10, 11, 12, 13, 14, 15, 16, 17, 18, 19, 20]) (y := (GA k a (u9 IA 2 u_7.1.2) (u9 (u9 LA 0 u_7.2.1.2.1) 1 u_7.2.1.2.2) FA QA VA r)) ⟨hP, hD⟩ (by decide +kernel) rfl rfl
  refine W.eq (g2 := F0 m 2503 ls [.int (iZ u_7.1.1)]) rfl ?_
  refine lv_pop hx hb dL_law_2503 rfl ?_
  refine lv_aload_n hx hb dL_law_2504 rfl (lv_at hl 1 rfl) ?_
  refine lv_aload_n hx hb dL_law_2505 rfl (lv_at hl 3 rfl) ?_
  refine lv_iload_n hx hb dL_law_2506 rfl (lv_at hl 0 rfl) ?_
  refine lv_iconst (v := iZ 1) hx hb dL_law_2507 rfl ?_
  refine lv_iadd hx hb dL_law_2508 ?_
  refine lv_topi (fun x_9 ex_9 => ?_)
  obtain rfl : x_9 = iZ (i + 1) := ex_9.trans (iZ_add i 1)
  refine va_sld hx hb hX hbl hbA hS (zi1 hi hL) dL_law_2509 ?_
  refine lv_topi (fun x_10 ex_10 => ?_)
  obtain rfl : x_10 = iZ z1 := ex_10.trans hz1
  refine lv_aload_n hx hb dL_law_2510 rfl (lv_at hl 3 rfl) ?_
  refine lv_iload_n hx hb dL_law_2511 rfl (lv_at hl 0 rfl) ?_
  refine lv_iconst (v := iZ 2) hx hb dL_law_2512 rfl ?_
  refine lv_iadd hx hb dL_law_2513 ?_
  refine lv_topi (fun x_11 ex_11 => ?_)
  obtain rfl : x_11 = iZ (i + 2) := ex_11.trans (iZ_add i 2)
  refine va_sld hx hb hX hbl hbA hS (zi2 hi hL) dL_law_2514 ?_
  refine lv_topi (fun x_12 ex_12 => ?_)
  obtain rfl : x_12 = iZ z2 := ex_12.trans hz2
  refine lv_aload_n hx hb dL_law_2515 rfl (lv_at hl 3 rfl) ?_
  refine lv_iload_n hx hb dL_law_2516 rfl (lv_at hl 0 rfl) ?_
  refine lv_iconst (v := iZ 3) hx hb dL_law_2517 rfl ?_
  refine lv_iadd hx hb dL_law_2518 ?_
  refine lv_topi (fun x_13 ex_13 => ?_)
  obtain rfl : x_13 = iZ (i + 3) := ex_13.trans (iZ_add i 3)
  refine va_sld hx hb hX hbl hbA hS (zi3 hi hL) dL_law_2519 ?_
  refine lv_topi (fun x_14 ex_14 => ?_)
  obtain rfl : x_14 = iZ z3 := ex_14.trans hz3
  obtain ⟨hP, hD⟩ := PD.fr5 ⟨hP, hD⟩
  refine CKV2 (As := [.int (iZ z1), .int (iZ z2), .int (iZ z3)]) (rest := []) (tl := (GA k a (u9 IA 2 u_7.1.2) (u9 (u9 LA 0 u_7.2.1.2.1) 1 u_7.2.1.2.2) FA QA VA r) ++ ((GB k a IB LB FB QB VB r) ++ ((GC k a IC LC FC QC VC r) ++ ((GD k a ID LD FD QD VD r) ++ (r.tl))))) hx hb hml hown hts hKK hP hD hS hA (q_meanPrice l D k (a 106) (a 107) (a 108) (a 109) (a 110) (a 111) (a 112) (a 113) (a 114) (a 115) (a 116) (a 117) (a 118) (a 119) (a 120) (a 121) (a 122) (IR 0) (IR 1) (IR 2) (IR 3) (IR 4) (IR 5) (IR 6) (IR 7) (IR 8) (IR 9) (IR 10) (IR 11) (IR 12) (IR 13) (IR 14) (IR 15) (IR 16) (IR 17) (LR 0) (LR 1) (FR 0) z1 z2 z3 hM ⟨hz1a, hz1b⟩ ⟨hz2a, hz2b⟩ ⟨hz3a, hz3b⟩) ci_X12_meanPrice qm_L_269 ⟨Nat.le_of_ble_eq_true rfl, Nat.le_of_ble_eq_true rfl⟩ (lroom _) [0, 1] [2, 3, 4, 5, 6, 7, 8, 9, 10, 11, 12, 13, 14, 15, 16] rfl rfl rfl (by decide +kernel) (by decide +kernel) (by decide +kernel) 0 rfl rfl rfl hl.1 rfl (Nat.le_of_ble_eq_true rfl) dL_law_2520 (fun u_15 H locs hφ hP hD hS => ?_)
  have p_16 : ((u_15.1.1 : Int) = 1 ∧ ((0 ≤ z1 ∧ z1 < (gz (FR 0) 0)) ∧ (0 ≤ z2 ∧ z2 ≤ 500) ∧ (0 ≤ z3 ∧ z3 ≤ 500) ∧ z2 ≤ z3)) ∨ ((u_15.1.1 : Int) = 0 ∧ ¬ ((0 ≤ z1 ∧ z1 < (gz (FR 0) 0)) ∧ (0 ≤ z2 ∧ z2 ≤ 500) ∧ (0 ≤ z3 ∧ z3 ≤ 500) ∧ z2 ≤ z3)) := hφ
  obtain ⟨hP, hD⟩ := PD.by3 (is := [15, 16, 0, 1, 2, 3, 4, 5, 6, 7, 8, 9, 10, 11, 12, 13, 14]) (y := (GR k a (u9 IR 0 u_15.1.2) (u9 (u9 LR 0 u_15.2.1.2.1) 1 u_15.2.1.2.2) FR QR VR r)) ⟨hP, hD⟩ (by decide +kernel) rfl rfl
  refine W.eq (g2 := F0 m 2523 ls [.int (iZ u_15.1.1)]) rfl ?_
  refine lv_pop hx hb dL_law_2523 rfl ?_
  refine lv_goto (tgt := 2846) hx hb dL_law_2524 rfl ?_
  obtain ⟨hP, hD⟩ := PD.fr5 ⟨hP, hD⟩
  obtain ⟨hP, hD⟩ := PD.fr5 ⟨hP, hD⟩
  obtain ⟨hP, hD⟩ := PD.fr5 ⟨hP, hD⟩
  obtain ⟨hP, hD⟩ := PD.fr5 ⟨hP, hD⟩
  exact hk a (u9 IA 2 u_7.1.2) (u9 (u9 LA 0 u_7.2.1.2.1) 1 u_7.2.1.2.2) FA QA VA IB LB FB QB VB IC LC FC QC VC ID LD FD QD VD (u9 IR 0 u_15.1.2) (u9 (u9 LR 0 u_15.2.1.2.1) 1 u_15.2.1.2.2) FR QR VR r H locs ls (show INV _ _ _ _ _ _ _ _ _ _ _ _ _ _ _ from ⟨hWI, hWI_0, hWI_1, hWI_2, hrd, htr0, htr1, htr2, htr3, hrgk, hrgt, hdrc, hev, hmk, hM, hMK, hTI, hFS, htd, hlt, rgH, rgS, rgY, hdr, hit, hmmk, heq, htq, hrel, hbf, htb, hkw, hSK, hSK0, hSK1, hSK2, hNE, hNE0, hNE1, hNE2, hLE, hYE, hQE, hLE0, hLE1, hLE2, hYE0, hYE1, hYE2⟩) hRT hP hD hS (lv_sub hl [0, 1, 2, 3] rfl)
set_option maxHeartbeats 40000000 in
set_option maxRecDepth 100000 in
theorem law_c61 {p : Program} {e : Env} {s : State} {m : MethodId} {below : List Frame} {meth : Method} {c : Code} (l : Launch) {b L : Nat} {xs : Nat → Int32} {A : Nat → Prop} {D : va_G} {k : Nat → ClassId} {sa sv : Nat} {i : Int} (C : LFX p s m meth c b L xs A D k sa sv) (hi : 0 ≤ i ∧ i + 6 ≤ (L : Int)) (hk : LAT p l e s m below meth c b A D k 2846 i) : LAT p l e s m below meth c b A D k 2527 i := by
  obtain ⟨hx, hb, hr, hml, hown, hts, hKK, hX, hbl, hbA, hA, hAf, hlocks, hSY, hRR, hL⟩ := id C
  intro a IA LA FA QA VA IB LB FB QB VB IC LC FC QC VC ID LD FD QD VD IR LR FR QR VR r H locs ls hI hRT hP hD hS hl
  have hK := hKK.1
  obtain ⟨hP, hD⟩ : PD D A ((GA k a IA LA FA QA VA r) ++ ((GB k a IB LB FB QB VB r) ++ ((GC k a IC LC FC QC VC r) ++ ((GD k a ID LD FD QD VD r) ++ ((GR k a IR LR FR QR VR r) ++ (r.tl)))))) H := ⟨hP, hD⟩
  obtain ⟨hWI, hWI_0, hWI_1, hWI_2, hrd, htr0, htr1, htr2, htr3, hrgk, hrgt, hdrc, hev, hmk, hM, hMK, hTI, hFS, htd, hlt, rgH, rgS, rgY, hdr, hit, hmmk, heq, htq, hrel, hbf, htb, hkw, hSK, hSK0, hSK1, hSK2, hNE, hNE0, hNE1, hNE2, hLE, hYE, hQE, hLE0, hLE1, hLE2, hYE0, hYE1, hYE2⟩ := id hI
  obtain ⟨gw1, gw2, gw3, gw4, gw5, gw6, gw7, gw8, gw9, gw10, gw11⟩ := id hWI
  have hx0 := gw9
  have hYI := gw11
  have hpf : rgI (FR 3) (-128) 127 900 := fun e h1 h2 => by rw [← htb e h1 h2]; exact hbf e h1 h2
  obtain ⟨z1, hz1, hz1a, hz1b⟩ := i32_z (xs (iZ (i + 1)).toNatClampNeg)
  obtain ⟨z2, hz2, hz2a, hz2b⟩ := i32_z (xs (iZ (i + 2)).toNatClampNeg)
  obtain ⟨z3, hz3, hz3a, hz3b⟩ := i32_z (xs (iZ (i + 3)).toNatClampNeg)
  obtain ⟨z4, hz4, hz4a, hz4b⟩ := i32_z (xs (iZ (i + 4)).toNatClampNeg)
  obtain ⟨z5, hz5, hz5a, hz5b⟩ := i32_z (xs (iZ (i + 5)).toNatClampNeg)
  have hl : lv_has ls 4 [(3, .int (iZ i)), (2, .ref (a 106)), (1, .ref (a 0)), (0, .ref b)] := hl
  have hls := hQE.1
  replace hls : _ := hls
  refine lv_aload_n hx hb dL_law_2527 rfl (lv_at hl 2 rfl) ?_
  refine lv_aload_n hx hb dL_law_2528 rfl (lv_at hl 3 rfl) ?_
  refine lv_iload_n hx hb dL_law_2529 rfl (lv_at hl 0 rfl) ?_
  refine lv_iconst (v := iZ 1) hx hb dL_law_2530 rfl ?_
  refine lv_iadd hx hb dL_law_2531 ?_
  refine lv_topi (fun x_1 ex_1 => ?_)
  obtain rfl : x_1 = iZ (i + 1) := ex_1.trans (iZ_add i 1)
  refine va_sld hx hb hX hbl hbA hS (zi1 hi hL) dL_law_2532 ?_
  refine lv_topi (fun x_2 ex_2 => ?_)
  obtain rfl : x_2 = iZ z1 := ex_2.trans hz1
  obtain ⟨hP, hD⟩ := PD.mid4 ⟨hP, hD⟩
  refine CXM (mid := (GB k a IB LB FB QB VB r) ++ ((GC k a IC LC FC QC VC r) ++ ((GD k a ID LD FD QD VD r) ++ ((GR k a IR LR FR QR VR r))))) (c0 := 123) (s0 := 16705) (r := r) (As := [.int (iZ z1)]) (rest := []) hx hb hml hown hts hKK hP hD hS hA (x_pass l D k (a 0) (a 1) (a 2) (a 3) (a 4) (a 5) (a 6) (a 7) (a 8) (a 9) (a 10) (a 11) (IA 0) (IA 1) (IA 2) (LA 0) (LA 1) ([.ref (a 26), .ref (a 27), .ref (a 28), .int (iZ (IA 3)), .int (iZ (IA 4)), .int (iZ (IA 5)), .int (iZ (IA 6))]) (a 23) (a 27) (a 28) (a 24) (a 25) (IA 3) (IA 4) (IA 5) (FA 0) (FA 1) (a 105) (a 29) (a 30) (a 31) (a 32) (a 101) (a 102) (a 103) (a 104) (a 33) (a 34) (a 35) (a 36) (a 37) (IA 12) (IA 13) (IA 14) (IA 15) (IA 16) (IA 17) (IA 18) (IA 9) (IA 10) (IA 11) (IA 7) (IA 8) (FA 11) (FA 12) (FA 13) (FA 2) (FA 3) (FA 4) (FA 5) (FA 15) (FA 14) (FA 6) (FA 7) (FA 8) (FA 9) (FA 10) z1 r hRT rfl rfl rfl rfl rfl (by first | with_reducible assumption | omega) hx0 (by first | with_reducible assumption | omega) (by first | with_reducible assumption | omega) (by first | with_reducible assumption | omega) (by first | with_reducible assumption | omega) hrgk hrgt (by first | with_reducible assumption | omega) (by first | with_reducible assumption | omega) gw10 (by first | with_reducible assumption | omega) hYI (by first | with_reducible assumption | omega) hLE.2 ⟨hz1a, hz1b⟩) ci_X11_pass qm_L_270 ⟨Nat.le_of_ble_eq_true rfl, Nat.le_of_ble_eq_true rfl⟩ ⟨Nat.le_of_ble_eq_true rfl, Nat.le_of_ble_eq_true rfl⟩ [0, 23, 1, 3, 8, 9, 10, 11, 17, 18, 19, 20, 21, 22, 24, 2, 6, 7, 4, 12, 13, 14, 15, 16] [5, 25] rfl rfl rfl (by decide +kernel) (by decide +kernel) (by decide +kernel) 0 rfl rfl rfl hl.1 rfl (Nat.le_of_ble_eq_true rfl) dL_law_2533 (fun u_3 H locs hφ hP hD hS => ?_)
  obtain ⟨r_4, v_5⟩ := u_3
  obtain ⟨p_6, p_7, p_8, p_9, p_10, p_11, p_12, p_13, p_14, rtr_4⟩ : (0 ≤ v_5.1.2.2.1 ∧ v_5.1.2.2.1 ≤ 400) ∧ (0 ≤ v_5.1.2.2.2.1 ∧ v_5.1.2.2.2.1 ≤ 20) ∧ (0 ≤ v_5.1.2.2.2.2.1 ∧ v_5.1.2.2.2.2.1 ≤ 65535) ∧ (rgI v_5.2.2.1.1 (-1) 420 6) ∧ (rgI v_5.2.2.1.2.1 (-1) 5 6) ∧ (rgI v_5.2.2.1.2.2.2.2.1 0 ((IA 3) - 1) v_5.1.2.2.2.1) ∧ (KNC (FA 0) (FA 1) (IA 3) (IA 4) v_5.1.2.2.2.1 v_5.2.2.1.2.2.2.2.1 v_5.2.2.1.2.2.2.2.2.1 v_5.2.2.1.2.2.2.2.2.2.1) ∧ ((((1 ≤ z1 ∧ z1 ≤ 99) ∧ (IA 7) + z1 ≤ 400) ∧ v_5.1.1 = v_5.1.2.2.1 ∧ (cL v_5.1.2.2.1 v_5.1.2.2.2.1 v_5.2.2.1.2.2.2.1 v_5.2.2.1.2.2.2.2.1 v_5.2.2.1.2.2.2.2.2.1) = plF (eC (FA 0) (FA 1) (IA 3) (IA 4) (IA 5)) z1 (cL (IA 7) (IA 8) (FA 2) (FA 3) (FA 4))) ∨ (¬ ((1 ≤ z1 ∧ z1 ≤ 99) ∧ (IA 7) + z1 ≤ 400) ∧ (v_5.1.1 : Int) = -1 ∧ (cL v_5.1.2.2.1 v_5.1.2.2.2.1 v_5.2.2.1.2.2.2.1 v_5.2.2.1.2.2.2.2.1 v_5.2.2.1.2.2.2.2.2.1) = (cL (IA 7) (IA 8) (FA 2) (FA 3) (FA 4)))) ∧ (v_5.2.2.1.2.2.2.2.2.2.2.1 = (FA 15)) ∧ ((RT k) (RX (FA 0) (FA 1) (IA 3) (IA 4)) r_4) := hφ
  obtain ⟨hP, hD⟩ := PD.dim4 ⟨hP, hD⟩
  obtain ⟨hP, hD⟩ := PD.by3 (is := [2, 4, 17, 5, 20, 0, 18, 19, 6, 7, 8, 9, 21, 22, 23, 24, 25, 10, 11, 12, 13, 14, 15, 3, 16, 1]) (y := (GA k a (fun i => [(IA 0), (IA 1), v_5.1.2.1, (IA 3), (IA 4), (IA 5), (IA 6), v_5.1.2.2.1, v_5.1.2.2.2.1, (IA 9), (IA 10), (IA 11), v_5.1.2.2.2.2.1, v_5.1.2.2.2.2.2.1, v_5.1.2.2.2.2.2.2.1, v_5.1.2.2.2.2.2.2.2.1, v_5.1.2.2.2.2.2.2.2.2.1, v_5.1.2.2.2.2.2.2.2.2.2.1, v_5.1.2.2.2.2.2.2.2.2.2.2].getD i 0) LA (fun i => [(FA 0), (FA 1), v_5.2.2.1.2.2.2.1, v_5.2.2.1.2.2.2.2.1, v_5.2.2.1.2.2.2.2.2.1, v_5.2.2.1.2.2.2.2.2.2.1, (FA 6), (FA 7), (FA 8), (FA 9), (FA 10), v_5.2.2.1.1, v_5.2.2.1.2.1, v_5.2.2.1.2.2.1, v_5.2.2.1.2.2.2.2.2.2.2.2, v_5.2.2.1.2.2.2.2.2.2.2.1, (FA 16)].getD i (fun _ => 0)) QA VA r_4)) ⟨hP, hD⟩ (by decide +kernel) rfl rfl
  refine W.ceq (cells' := 123 + cz true r_4.b) (slots' := 16705 + sz true r_4.b) rfl rfl ?_
  refine W.eq (g2 := F0 m 2536 ls [.int (iZ v_5.1.1)]) rfl ?_
  refine lv_pop hx hb dL_law_2536 rfl ?_
  refine lv_aload_n hx hb dL_law_2537 rfl (lv_at hl 1 rfl) ?_
  refine lv_aload_n hx hb dL_law_2538 rfl (lv_at hl 3 rfl) ?_
  refine lv_iload_n hx hb dL_law_2539 rfl (lv_at hl 0 rfl) ?_
  refine lv_iconst (v := iZ 1) hx hb dL_law_2540 rfl ?_
  refine lv_iadd hx hb dL_law_2541 ?_
  refine lv_topi (fun x_15 ex_15 => ?_)
  obtain rfl : x_15 = iZ (i + 1) := ex_15.trans (iZ_add i 1)
  refine va_sld hx hb hX hbl hbA hS (zi1 hi hL) dL_law_2542 ?_
  refine lv_topi (fun x_16 ex_16 => ?_)
  obtain rfl : x_16 = iZ z1 := ex_16.trans hz1
  obtain ⟨hP, hD⟩ := PD.fr5 ⟨hP, hD⟩
  refine CKV2 (As := [.int (iZ z1)]) (rest := []) (tl := (GA k a (fun i => [(IA 0), (IA 1), v_5.1.2.1, (IA 3), (IA 4), (IA 5), (IA 6), v_5.1.2.2.1, v_5.1.2.2.2.1, (IA 9), (IA 10), (IA 11), v_5.1.2.2.2.2.1, v_5.1.2.2.2.2.2.1, v_5.1.2.2.2.2.2.2.1, v_5.1.2.2.2.2.2.2.2.1, v_5.1.2.2.2.2.2.2.2.2.1, v_5.1.2.2.2.2.2.2.2.2.2.1, v_5.1.2.2.2.2.2.2.2.2.2.2].getD i 0) LA (fun i => [(FA 0), (FA 1), v_5.2.2.1.2.2.2.1, v_5.2.2.1.2.2.2.2.1, v_5.2.2.1.2.2.2.2.2.1, v_5.2.2.1.2.2.2.2.2.2.1, (FA 6), (FA 7), (FA 8), (FA 9), (FA 10), v_5.2.2.1.1, v_5.2.2.1.2.1, v_5.2.2.1.2.2.1, v_5.2.2.1.2.2.2.2.2.2.2.2, v_5.2.2.1.2.2.2.2.2.2.2.1, (FA 16)].getD i (fun _ => 0)) QA VA r_4) ++ ((GB k a IB LB FB QB VB r) ++ ((GC k a IC LC FC QC VC r) ++ ((GD k a ID LD FD QD VD r) ++ (r_4.tl))))) hx hb hml hown hts hKK hP hD hS hA (r_pass l D k (a 106) (a 107) (a 108) (a 109) (a 110) (a 111) (a 112) (a 113) (a 114) (a 115) (a 116) (a 117) (a 118) (a 119) (a 120) (a 121) (a 122) (IR 0) (IR 1) (IR 2) (IR 3) (IR 4) (IR 5) (IR 6) (IR 7) (IR 8) (IR 9) (IR 10) (IR 11) (IR 12) (IR 13) (IR 14) (IR 15) (IR 16) (IR 17) (LR 0) (LR 1) (FR 0) z1 hM ⟨hz1a, hz1b⟩) ci_X12_pass qm_L_273 ⟨Nat.le_of_ble_eq_true rfl, Nat.le_of_ble_eq_true rfl⟩ (lroom _) [0, 1] [2, 3, 4, 5, 6, 7, 8, 9, 10, 11, 12, 13, 14, 15, 16] rfl rfl rfl (by decide +kernel) (by decide +kernel) (by decide +kernel) 0 rfl rfl rfl hl.1 rfl (Nat.le_of_ble_eq_true rfl) dL_law_2543 (fun u_17 H locs hφ hP hD hS => ?_)
  obtain ⟨p_18, p_19, p_20⟩ : (M0 u_17.2.2.1) ∧ (CSlowWorldsLaw_law_r4331_294b62.FR u_17.2.2.1 (FR 0)) ∧ ((((1 ≤ z1 ∧ z1 ≤ 99) ∧ gz (FR 0) 3 + z1 ≤ 400) ∧ u_17.1.1 = gz u_17.2.2.1 3 ∧ (rL u_17.2.2.1) = plF (eR (FR 0)) z1 (rL (FR 0))) ∨ (¬ ((1 ≤ z1 ∧ z1 ≤ 99) ∧ gz (FR 0) 3 + z1 ≤ 400) ∧ (u_17.1.1 : Int) = -1 ∧ u_17.2.2.1 = (FR 0))) := hφ
  obtain ⟨hP, hD⟩ := PD.by3 (is := [15, 16, 0, 1, 2, 3, 4, 5, 6, 7, 8, 9, 10, 11, 12, 13, 14]) (y := (GR k a (u9 IR 0 u_17.1.2) LR (u9 FR 0 u_17.2.2.1) QR VR r_4)) ⟨hP, hD⟩ (by decide +kernel) rfl rfl
  refine W.eq (g2 := F0 m 2546 ls [.int (iZ u_17.1.1)]) rfl ?_
  refine lv_pop hx hb dL_law_2546 rfl ?_
  refine lv_goto (tgt := 2846) hx hb dL_law_2547 rfl ?_
  obtain ⟨hP, hD⟩ := PD.fr5 ⟨hP, hD⟩
  obtain ⟨hP, hD⟩ := PD.fr5 ⟨hP, hD⟩
  obtain ⟨hP, hD⟩ := PD.fr5 ⟨hP, hD⟩
  obtain ⟨hP, hD⟩ := PD.fr5 ⟨hP, hD⟩
  exact hk a (fun i => [(IA 0), (IA 1), v_5.1.2.1, (IA 3), (IA 4), (IA 5), (IA 6), v_5.1.2.2.1, v_5.1.2.2.2.1, (IA 9), (IA 10), (IA 11), v_5.1.2.2.2.2.1, v_5.1.2.2.2.2.2.1, v_5.1.2.2.2.2.2.2.1, v_5.1.2.2.2.2.2.2.2.1, v_5.1.2.2.2.2.2.2.2.2.1, v_5.1.2.2.2.2.2.2.2.2.2.1, v_5.1.2.2.2.2.2.2.2.2.2.2].getD i 0) LA (fun i => [(FA 0), (FA 1), v_5.2.2.1.2.2.2.1, v_5.2.2.1.2.2.2.2.1, v_5.2.2.1.2.2.2.2.2.1, v_5.2.2.1.2.2.2.2.2.2.1, (FA 6), (FA 7), (FA 8), (FA 9), (FA 10), v_5.2.2.1.1, v_5.2.2.1.2.1, v_5.2.2.1.2.2.1, v_5.2.2.1.2.2.2.2.2.2.2.2, v_5.2.2.1.2.2.2.2.2.2.2.1, (FA 16)].getD i (fun _ => 0)) QA VA IB LB FB QB VB IC LC FC QC VC ID LD FD QD VD (u9 IR 0 u_17.1.2) LR (u9 FR 0 u_17.2.2.1) QR VR r_4 H locs ls (show INV _ _ _ _ _ _ _ _ _ _ _ _ _ _ _ from ⟨(show WI (IA 3) (IA 4) (IA 5) v_5.1.2.2.1 v_5.1.2.2.2.1 (IA 9) (IA 10) (IA 11) (FA 0) v_5.2.2.1.2.2.2.2.1 (FA 6) (FA 7) (FA 9) (FA 10) from (by first | with_reducible assumption | exact ⟨by omega, by omega, by omega, by omega, by omega, by omega, by omega, by omega, by first | exact gw9 | assumption, by first | exact gw10 | assumption, by first | exact gw11 | assumption⟩)), hWI_0, hWI_1, hWI_2, hrd, htr0, htr1, htr2, htr3, (show rgI v_5.2.2.1.1 (-1) 420 6 from (by assumption)), (show rgI v_5.2.2.1.2.1 (-1) 5 6 from (by assumption)), (show 0 ≤ v_5.1.2.2.2.2.1 ∧ v_5.1.2.2.2.2.1 ≤ 65535 from (by first | with_reducible assumption | omega)), hev, hmk, (show M0 u_17.2.2.1 from (by assumption)), (show MK u_17.2.2.1 (IR 17) from MK.keep (by omega) hMK (fun e h1 h2 => p_19.1 e (Or.inl (by omega)))), hTI, hFS, htd, hlt, rgH, rgS, rgY, hdr, hit, hmmk, heq, htq, hrel, hbf, htb, hkw, (show SKE (IA 3) (IA 4) (IA 5) (FA 0) (FA 1) u_17.2.2.1 0 from SKE.fr hSK p_19 gw2.2), (show SKI 0 (IA 1) (ID 0) (ID 1) (ID 2) (FD 0) (FD 1) u_17.2.2.1 890 from fun h => SKE.keep (hSK0 h) (fun e p q => p_19.1 e (Or.inl (by omega))) hWI_0.2.1.2), (show SKI 1 (IA 1) (ID 9) (ID 10) (ID 11) (FD 11) (FD 12) u_17.2.2.1 1780 from fun h => SKE.keep (hSK1 h) (fun e p q => p_19.1 e (Or.inl (by omega))) hWI_1.2.1.2), (show SKI 2 (IA 1) (ID 18) (ID 19) (ID 20) (FD 22) (FD 23) u_17.2.2.1 2670 from fun h => SKE.keep (hSK2 h) (fun e p q => p_19.1 e (Or.inl (by omega))) hWI_2.2.1.2), hNE, hNE0, hNE1, hNE2, (show LFE (IA 3) (IA 4) v_5.1.2.2.1 v_5.1.2.2.2.1 (FA 0) (FA 1) v_5.2.2.1.2.2.2.1 v_5.2.2.1.2.2.2.2.1 v_5.2.2.1.2.2.2.2.2.1 v_5.2.2.1.2.2.2.2.2.2.1 u_17.2.2.1 0 from ⟨(pass_two hLE.1 (eR_ske hSK gw1.2) hLE.rg.1 rfl p_13 p_20).1, p_12⟩), (show YFE (IA 3) (IA 9) (IA 11) (FA 6) (FA 7) (FA 8) (FA 9) (FA 10) u_17.2.2.1 0 from (YFE.fr hYE p_19)), (show (∀ o9 : Int, 0 ≤ o9 → o9 < 60 → 0 ≤ gz v_5.2.2.1.2.2.2.2.2.2.2.1 o9 ∧ gz v_5.2.2.1.2.2.2.2.2.2.2.1 o9 ≤ 99) ∧ okZ (FR 11) ∧ cQ v_5.2.2.1.2.2.2.2.2.2.2.1 = rQ (FR 11) from (by rw [p_14]; exact hQE)), (show LFI 0 (IA 1) (ID 0) (ID 1) (ID 4) (ID 5) (FD 0) (FD 1) (FD 2) (FD 3) (FD 4) (FD 5) u_17.2.2.1 890 from (fun h => (hLE0 h).keep (by omega) hWI_0.2.2.2.1 hWI_0.2.2.2.2.1 (fun e p r => p_19.1 _ (Or.inl (by omega))))), (show LFI 1 (IA 1) (ID 9) (ID 10) (ID 13) (ID 14) (FD 11) (FD 12) (FD 13) (FD 14) (FD 15) (FD 16) u_17.2.2.1 1780 from (fun h => (hLE1 h).keep (by omega) hWI_1.2.2.2.1 hWI_1.2.2.2.2.1 (fun e p r => p_19.1 _ (Or.inl (by omega))))), (show LFI 2 (IA 1) (ID 18) (ID 19) (ID 22) (ID 23) (FD 22) (FD 23) (FD 24) (FD 25) (FD 26) (FD 27) u_17.2.2.1 2670 from (fun h => (hLE2 h).keep (by omega) hWI_2.2.2.2.1 hWI_2.2.2.2.2.1 (fun e p r => p_19.1 _ (Or.inl (by omega))))), (show YFI 0 (IA 1) (ID 0) (ID 6) (ID 8) (FD 6) (FD 7) (FD 8) (FD 9) (FD 10) u_17.2.2.1 890 from (fun h => (hYE0 h).keep (fun e p r => p_19.1 _ (Or.inl (by omega))))), (show YFI 1 (IA 1) (ID 9) (ID 15) (ID 17) (FD 17) (FD 18) (FD 19) (FD 20) (FD 21) u_17.2.2.1 1780 from (fun h => (hYE1 h).keep (fun e p r => p_19.1 _ (Or.inl (by omega))))), (show YFI 2 (IA 1) (ID 18) (ID 24) (ID 26) (FD 28) (FD 29) (FD 30) (FD 31) (FD 32) u_17.2.2.1 2670 from (fun h => (hYE2 h).keep (fun e p r => p_19.1 _ (Or.inl (by omega)))))⟩) rtr_4 hP hD hS (lv_sub hl [0, 1, 2, 3] rfl)
set_option maxHeartbeats 40000000 in
set_option maxRecDepth 100000 in
theorem law_c62 {p : Program} {e : Env} {s : State} {m : MethodId} {below : List Frame} {meth : Method} {c : Code} (l : Launch) {b L : Nat} {xs : Nat → Int32} {A : Nat → Prop} {D : va_G} {k : Nat → ClassId} {sa sv : Nat} {i : Int} (C : LFX p s m meth c b L xs A D k sa sv) (hi : 0 ≤ i ∧ i + 6 ≤ (L : Int)) (hk : LAT p l e s m below meth c b A D k 2846 i) : LAT p l e s m below meth c b A D k 2550 i := by
  obtain ⟨hx, hb, hr, hml, hown, hts, hKK, hX, hbl, hbA, hA, hAf, hlocks, hSY, hRR, hL⟩ := id C
  intro a IA LA FA QA VA IB LB FB QB VB IC LC FC QC VC ID LD FD QD VD IR LR FR QR VR r H locs ls hI hRT hP hD hS hl
  have hK := hKK.1
  obtain ⟨hP, hD⟩ : PD D A ((GA k a IA LA FA QA VA r) ++ ((GB k a IB LB FB QB VB r) ++ ((GC k a IC LC FC QC VC r) ++ ((GD k a ID LD FD QD VD r) ++ ((GR k a IR LR FR QR VR r) ++ (r.tl)))))) H := ⟨hP, hD⟩
  obtain ⟨hWI, hWI_0, hWI_1, hWI_2, hrd, htr0, htr1, htr2, htr3, hrgk, hrgt, hdrc, hev, hmk, hM, hMK, hTI, hFS, htd, hlt, rgH, rgS, rgY, hdr, hit, hmmk, heq, htq, hrel, hbf, htb, hkw, hSK, hSK0, hSK1, hSK2, hNE, hNE0, hNE1, hNE2, hLE, hYE, hQE, hLE0, hLE1, hLE2, hYE0, hYE1, hYE2⟩ := id hI
  obtain ⟨gw1, gw2, gw3, gw4, gw5, gw6, gw7, gw8, gw9, gw10, gw11⟩ := id hWI
  have hx0 := gw9
  have hYI := gw11
  have hpf : rgI (FR 3) (-128) 127 900 := fun e h1 h2 => by rw [← htb e h1 h2]; exact hbf e h1 h2
  obtain ⟨z1, hz1, hz1a, hz1b⟩ := i32_z (xs (iZ (i + 1)).toNatClampNeg)
  obtain ⟨z2, hz2, hz2a, hz2b⟩ := i32_z (xs (iZ (i + 2)).toNatClampNeg)
  obtain ⟨z3, hz3, hz3a, hz3b⟩ := i32_z (xs (iZ (i + 3)).toNatClampNeg)
  obtain ⟨z4, hz4, hz4a, hz4b⟩ := i32_z (xs (iZ (i + 4)).toNatClampNeg)
  obtain ⟨z5, hz5, hz5a, hz5b⟩ := i32_z (xs (iZ (i + 5)).toNatClampNeg)
  have hl : lv_has ls 4 [(3, .int (iZ i)), (2, .ref (a 106)), (1, .ref (a 0)), (0, .ref b)] := hl
  have hls := hQE.1
  replace hls : _ := hls
  refine lv_aload_n hx hb dL_law_2550 rfl (lv_at hl 2 rfl) ?_
  refine lv_aload_n hx hb dL_law_2551 rfl (lv_at hl 3 rfl) ?_
  refine lv_iload_n hx hb dL_law_2552 rfl (lv_at hl 0 rfl) ?_
  refine lv_iconst (v := iZ 1) hx hb dL_law_2553 rfl ?_
  refine lv_iadd hx hb dL_law_2554 ?_
  refine lv_topi (fun x_1 ex_1 => ?_)
  obtain rfl : x_1 = iZ (i + 1) := ex_1.trans (iZ_add i 1)
  refine va_sld hx hb hX hbl hbA hS (zi1 hi hL) dL_law_2555 ?_
  refine lv_topi (fun x_2 ex_2 => ?_)
  obtain rfl : x_2 = iZ z1 := ex_2.trans hz1
  refine lv_aload_n hx hb dL_law_2556 rfl (lv_at hl 3 rfl) ?_
  refine lv_iload_n hx hb dL_law_2557 rfl (lv_at hl 0 rfl) ?_
  refine lv_iconst (v := iZ 2) hx hb dL_law_2558 rfl ?_
  refine lv_iadd hx hb dL_law_2559 ?_
  refine lv_topi (fun x_3 ex_3 => ?_)
  obtain rfl : x_3 = iZ (i + 2) := ex_3.trans (iZ_add i 2)
  refine va_sld hx hb hX hbl hbA hS (zi2 hi hL) dL_law_2560 ?_
  refine lv_topi (fun x_4 ex_4 => ?_)
  obtain rfl : x_4 = iZ z2 := ex_4.trans hz2
  refine CKV2 (As := [.int (iZ z1), .int (iZ z2)]) (rest := []) (tl := (GB k a IB LB FB QB VB r) ++ ((GC k a IC LC FC QC VC r) ++ ((GD k a ID LD FD QD VD r) ++ ((GR k a IR LR FR QR VR r) ++ (r.tl))))) hx hb hml hown hts hKK hP hD hS hA (p_wore l D k (a 0) (a 1) (a 2) (a 3) (a 4) (a 5) (a 6) (a 7) (a 8) (a 9) (a 10) (a 11) (IA 0) (IA 1) (IA 2) (LA 0) (LA 1) ([.ref (a 26), .ref (a 27), .ref (a 28), .int (iZ (IA 3)), .int (iZ (IA 4)), .int (iZ (IA 5)), .int (iZ (IA 6))]) (a 23) (a 27) (a 28) (a 24) (a 25) (IA 3) (IA 4) (IA 5) (FA 0) (FA 1) (a 29) (a 30) (a 31) (a 32) (IA 7) (IA 8) (FA 2) (FA 3) (FA 4) (FA 5) z1 z2 rfl rfl rfl rfl rfl (by first | with_reducible assumption | omega) hx0 (by first | with_reducible assumption | omega) (by first | with_reducible assumption | omega) (by first | with_reducible assumption | omega) (by first | with_reducible assumption | omega) (by first | with_reducible assumption | omega) gw10 ⟨hz1a, hz1b⟩ ⟨hz2a, hz2b⟩) ci_X11_wore qm_L_274 ⟨Nat.le_of_ble_eq_true rfl, Nat.le_of_ble_eq_true rfl⟩ (lroom _) [0, 1, 3, 8, 9, 10, 11, 2, 6, 7] [4, 5, 12, 13, 14, 15, 16, 17, 18, 19, 20, 21, 22, 23, 24, 25] rfl rfl rfl (by decide +kernel) (by decide +kernel) (by decide +kernel) 0 rfl rfl rfl hl.1 rfl (Nat.le_of_ble_eq_true rfl) dL_law_2561 (fun u_5 H locs hφ hP hD hS => ?_)
  obtain ⟨hP, hD⟩ := PD.by3 (is := [16, 17, 23, 18, 0, 1, 24, 25, 19, 20, 21, 22, 2, 3, 4, 5, 6, 7, 8, 9, 10, 11, 12, 13, 14, 15]) (y := (GA k a (u9 IA 2 u_5.1.2) LA FA QA VA r)) ⟨hP, hD⟩ (by decide +kernel) rfl rfl
  refine W.eq (g2 := F0 m 2564 ls [.int (iZ u_5.1.1)]) rfl ?_
  refine lv_pop hx hb dL_law_2564 rfl ?_
  refine lv_aload_n hx hb dL_law_2565 rfl (lv_at hl 1 rfl) ?_
  refine lv_aload_n hx hb dL_law_2566 rfl (lv_at hl 3 rfl) ?_
  refine lv_iload_n hx hb dL_law_2567 rfl (lv_at hl 0 rfl) ?_
  refine lv_iconst (v := iZ 1) hx hb dL_law_2568 rfl ?_
  refine lv_iadd hx hb dL_law_2569 ?_
  refine lv_topi (fun x_6 ex_6 => ?_)
  obtain rfl : x_6 = iZ (i + 1) := ex_6.trans (iZ_add i 1)
  refine va_sld hx hb hX hbl hbA hS (zi1 hi hL) dL_law_2570 ?_
  refine lv_topi (fun x_7 ex_7 => ?_)
  obtain rfl : x_7 = iZ z1 := ex_7.trans hz1
  refine lv_aload_n hx hb dL_law_2571 rfl (lv_at hl 3 rfl) ?_
  refine lv_iload_n hx hb dL_law_2572 rfl (lv_at hl 0 rfl) ?_
  refine lv_iconst (v := iZ 2) hx hb dL_law_2573 rfl ?_
  refine lv_iadd hx hb dL_law_2574 ?_
  refine lv_topi (fun x_8 ex_8 => ?_)
  obtain rfl : x_8 = iZ (i + 2) := ex_8.trans (iZ_add i 2)
  refine va_sld hx hb hX hbl hbA hS (zi2 hi hL) dL_law_2575 ?_
  refine lv_topi (fun x_9 ex_9 => ?_)
  obtain rfl : x_9 = iZ z2 := ex_9.trans hz2
  obtain ⟨hP, hD⟩ := PD.fr5 ⟨hP, hD⟩
  refine CKV2 (As := [.int (iZ z1), .int (iZ z2)]) (rest := []) (tl := (GA k a (u9 IA 2 u_5.1.2) LA FA QA VA r) ++ ((GB k a IB LB FB QB VB r) ++ ((GC k a IC LC FC QC VC r) ++ ((GD k a ID LD FD QD VD r) ++ (r.tl))))) hx hb hml hown hts hKK hP hD hS hA (q_wore l D k (a 106) (a 107) (a 108) (a 109) (a 110) (a 111) (a 112) (a 113) (a 114) (a 115) (a 116) (a 117) (a 118) (a 119) (a 120) (a 121) (a 122) (IR 0) (IR 1) (IR 2) (IR 3) (IR 4) (IR 5) (IR 6) (IR 7) (IR 8) (IR 9) (IR 10) (IR 11) (IR 12) (IR 13) (IR 14) (IR 15) (IR 16) (IR 17) (LR 0) (LR 1) (FR 0) z1 z2 hM ⟨hz1a, hz1b⟩ ⟨hz2a, hz2b⟩) ci_X12_wore qm_L_277 ⟨Nat.le_of_ble_eq_true rfl, Nat.le_of_ble_eq_true rfl⟩ (lroom _) [0, 1] [2, 3, 4, 5, 6, 7, 8, 9, 10, 11, 12, 13, 14, 15, 16] rfl rfl rfl (by decide +kernel) (by decide +kernel) (by decide +kernel) 0 rfl rfl rfl hl.1 rfl (Nat.le_of_ble_eq_true rfl) dL_law_2576 (fun u_10 H locs hφ hP hD hS => ?_)
  obtain ⟨hP, hD⟩ := PD.by3 (is := [15, 16, 0, 1, 2, 3, 4, 5, 6, 7, 8, 9, 10, 11, 12, 13, 14]) (y := (GR k a (u9 IR 0 u_10.1.2) LR FR QR VR r)) ⟨hP, hD⟩ (by decide +kernel) rfl rfl
  refine W.eq (g2 := F0 m 2579 ls [.int (iZ u_10.1.1)]) rfl ?_
  refine lv_pop hx hb dL_law_2579 rfl ?_
  refine lv_goto (tgt := 2846) hx hb dL_law_2580 rfl ?_
  obtain ⟨hP, hD⟩ := PD.fr5 ⟨hP, hD⟩
  obtain ⟨hP, hD⟩ := PD.fr5 ⟨hP, hD⟩
  obtain ⟨hP, hD⟩ := PD.fr5 ⟨hP, hD⟩
  obtain ⟨hP, hD⟩ := PD.fr5 ⟨hP, hD⟩
  exact hk a (u9 IA 2 u_5.1.2) LA FA QA VA IB LB FB QB VB IC LC FC QC VC ID LD FD QD VD (u9 IR 0 u_10.1.2) LR FR QR VR r H locs ls (show INV _ _ _ _ _ _ _ _ _ _ _ _ _ _ _ from ⟨hWI, hWI_0, hWI_1, hWI_2, hrd, htr0, htr1, htr2, htr3, hrgk, hrgt, hdrc, hev, hmk, hM, hMK, hTI, hFS, htd, hlt, rgH, rgS, rgY, hdr, hit, hmmk, heq, htq, hrel, hbf, htb, hkw, hSK, hSK0, hSK1, hSK2, hNE, hNE0, hNE1, hNE2, hLE, hYE, hQE, hLE0, hLE1, hLE2, hYE0, hYE1, hYE2⟩) hRT hP hD hS (lv_sub hl [0, 1, 2, 3] rfl)
set_option maxHeartbeats 40000000 in
set_option maxRecDepth 100000 in
theorem law_c63 {p : Program} {e : Env} {s : State} {m : MethodId} {below : List Frame} {meth : Method} {c : Code} (l : Launch) {b L : Nat} {xs : Nat → Int32} {A : Nat → Prop} {D : va_G} {k : Nat → ClassId} {sa sv : Nat} {i : Int} (C : LFX p s m meth c b L xs A D k sa sv) (hi : 0 ≤ i ∧ i + 6 ≤ (L : Int)) (hk : LAT p l e s m below meth c b A D k 2846 i) : LAT p l e s m below meth c b A D k 2583 i := by
  obtain ⟨hx, hb, hr, hml, hown, hts, hKK, hX, hbl, hbA, hA, hAf, hlocks, hSY, hRR, hL⟩ := id C
  intro a IA LA FA QA VA IB LB FB QB VB IC LC FC QC VC ID LD FD QD VD IR LR FR QR VR r H locs ls hI hRT hP hD hS hl
  have hK := hKK.1
  obtain ⟨hP, hD⟩ : PD D A ((GA k a IA LA FA QA VA r) ++ ((GB k a IB LB FB QB VB r) ++ ((GC k a IC LC FC QC VC r) ++ ((GD k a ID LD FD QD VD r) ++ ((GR k a IR LR FR QR VR r) ++ (r.tl)))))) H := ⟨hP, hD⟩
  obtain ⟨hWI, hWI_0, hWI_1, hWI_2, hrd, htr0, htr1, htr2, htr3, hrgk, hrgt, hdrc, hev, hmk, hM, hMK, hTI, hFS, htd, hlt, rgH, rgS, rgY, hdr, hit, hmmk, heq, htq, hrel, hbf, htb, hkw, hSK, hSK0, hSK1, hSK2, hNE, hNE0, hNE1, hNE2, hLE, hYE, hQE, hLE0, hLE1, hLE2, hYE0, hYE1, hYE2⟩ := id hI
  obtain ⟨gw1, gw2, gw3, gw4, gw5, gw6, gw7, gw8, gw9, gw10, gw11⟩ := id hWI
  have hx0 := gw9
  have hYI := gw11
  have hpf : rgI (FR 3) (-128) 127 900 := fun e h1 h2 => by rw [← htb e h1 h2]; exact hbf e h1 h2
  obtain ⟨z1, hz1, hz1a, hz1b⟩ := i32_z (xs (iZ (i + 1)).toNatClampNeg)
  obtain ⟨z2, hz2, hz2a, hz2b⟩ := i32_z (xs (iZ (i + 2)).toNatClampNeg)
  obtain ⟨z3, hz3, hz3a, hz3b⟩ := i32_z (xs (iZ (i + 3)).toNatClampNeg)
  obtain ⟨z4, hz4, hz4a, hz4b⟩ := i32_z (xs (iZ (i + 4)).toNatClampNeg)
  obtain ⟨z5, hz5, hz5a, hz5b⟩ := i32_z (xs (iZ (i + 5)).toNatClampNeg)
  have hl : lv_has ls 4 [(3, .int (iZ i)), (2, .ref (a 106)), (1, .ref (a 0)), (0, .ref b)] := hl
  have hls := hQE.1
  replace hls : _ := hls
  refine lv_aload_n hx hb dL_law_2583 rfl (lv_at hl 2 rfl) ?_
  refine lv_aload_n hx hb dL_law_2584 rfl (lv_at hl 3 rfl) ?_
  refine lv_iload_n hx hb dL_law_2585 rfl (lv_at hl 0 rfl) ?_
  refine lv_iconst (v := iZ 1) hx hb dL_law_2586 rfl ?_
  refine lv_iadd hx hb dL_law_2587 ?_
  refine lv_topi (fun x_1 ex_1 => ?_)
  obtain rfl : x_1 = iZ (i + 1) := ex_1.trans (iZ_add i 1)
  refine va_sld hx hb hX hbl hbA hS (zi1 hi hL) dL_law_2588 ?_
  refine lv_topi (fun x_2 ex_2 => ?_)
  obtain rfl : x_2 = iZ z1 := ex_2.trans hz1
  refine lv_aload_n hx hb dL_law_2589 rfl (lv_at hl 3 rfl) ?_
  refine lv_iload_n hx hb dL_law_2590 rfl (lv_at hl 0 rfl) ?_
  refine lv_iconst (v := iZ 2) hx hb dL_law_2591 rfl ?_
  refine lv_iadd hx hb dL_law_2592 ?_
  refine lv_topi (fun x_3 ex_3 => ?_)
  obtain rfl : x_3 = iZ (i + 2) := ex_3.trans (iZ_add i 2)
  refine va_sld hx hb hX hbl hbA hS (zi2 hi hL) dL_law_2593 ?_
  refine lv_topi (fun x_4 ex_4 => ?_)
  obtain rfl : x_4 = iZ z2 := ex_4.trans hz2
  refine CKV2 (As := [.int (iZ z1), .int (iZ z2)]) (rest := []) (tl := (GB k a IB LB FB QB VB r) ++ ((GC k a IC LC FC QC VC r) ++ ((GD k a ID LD FD QD VD r) ++ ((GR k a IR LR FR QR VR r) ++ (r.tl))))) hx hb hml hown hts hKK hP hD hS hA (x_wear l D k (a 0) (a 1) (a 2) (a 3) (a 4) (a 5) (a 6) (a 7) (a 8) (a 9) (a 10) (a 11) (IA 0) (IA 1) (IA 2) (LA 0) (LA 1) ([.ref (a 26), .ref (a 27), .ref (a 28), .int (iZ (IA 3)), .int (iZ (IA 4)), .int (iZ (IA 5)), .int (iZ (IA 6))]) (a 23) (a 27) (a 28) (a 24) (a 25) (IA 3) (IA 4) (IA 5) (FA 0) (FA 1) (a 29) (a 30) (a 31) (a 32) (IA 7) (IA 8) (FA 2) (FA 3) (FA 4) (FA 5) z1 z2 rfl rfl rfl rfl rfl (by first | with_reducible assumption | omega) hx0 (by first | with_reducible assumption | omega) (by first | with_reducible assumption | omega) (by first | with_reducible assumption | omega) (by first | with_reducible assumption | omega) (by first | with_reducible assumption | omega) gw10 ⟨hz1a, hz1b⟩ ⟨hz2a, hz2b⟩) ci_X11_wear qm_L_278 ⟨Nat.le_of_ble_eq_true rfl, Nat.le_of_ble_eq_true rfl⟩ (lroom _) [0, 1, 3, 8, 9, 10, 11, 2, 6, 7] [4, 5, 12, 13, 14, 15, 16, 17, 18, 19, 20, 21, 22, 23, 24, 25] rfl rfl rfl (by decide +kernel) (by decide +kernel) (by decide +kernel) 0 rfl rfl rfl hl.1 rfl (Nat.le_of_ble_eq_true rfl) dL_law_2594 (fun u_5 H locs hφ hP hD hS => ?_)
  have p_6 : (((0 ≤ z1 ∧ z1 < (IA 3)) ∧ 0 ≤ z2 ∧ z2 ≤ 1) ∧ (u_5.1.1 : Int) = 1 ∧ (cL (IA 7) (IA 8) u_5.2.2.1 (FA 3) (FA 4)) = dsF z1 z2 (cL (IA 7) (IA 8) (FA 2) (FA 3) (FA 4))) ∨ (¬ ((0 ≤ z1 ∧ z1 < (IA 3)) ∧ 0 ≤ z2 ∧ z2 ≤ 1) ∧ (u_5.1.1 : Int) = 0 ∧ (cL (IA 7) (IA 8) u_5.2.2.1 (FA 3) (FA 4)) = (cL (IA 7) (IA 8) (FA 2) (FA 3) (FA 4))) := hφ
  obtain ⟨hP, hD⟩ := PD.by3 (is := [16, 17, 23, 18, 0, 1, 24, 25, 19, 20, 21, 22, 2, 3, 4, 5, 6, 7, 8, 9, 10, 11, 12, 13, 14, 15]) (y := (GA k a (u9 IA 2 u_5.1.2) LA (u9 FA 2 u_5.2.2.1) QA VA r)) ⟨hP, hD⟩ (by decide +kernel) rfl rfl
  refine W.eq (g2 := F0 m 2597 ls [.int (iZ u_5.1.1)]) rfl ?_
  refine lv_pop hx hb dL_law_2597 rfl ?_
  refine lv_aload_n hx hb dL_law_2598 rfl (lv_at hl 1 rfl) ?_
  refine lv_aload_n hx hb dL_law_2599 rfl (lv_at hl 3 rfl) ?_
  refine lv_iload_n hx hb dL_law_2600 rfl (lv_at hl 0 rfl) ?_
  refine lv_iconst (v := iZ 1) hx hb dL_law_2601 rfl ?_
  refine lv_iadd hx hb dL_law_2602 ?_
  refine lv_topi (fun x_7 ex_7 => ?_)
  obtain rfl : x_7 = iZ (i + 1) := ex_7.trans (iZ_add i 1)
  refine va_sld hx hb hX hbl hbA hS (zi1 hi hL) dL_law_2603 ?_
  refine lv_topi (fun x_8 ex_8 => ?_)
  obtain rfl : x_8 = iZ z1 := ex_8.trans hz1
  refine lv_aload_n hx hb dL_law_2604 rfl (lv_at hl 3 rfl) ?_
  refine lv_iload_n hx hb dL_law_2605 rfl (lv_at hl 0 rfl) ?_
  refine lv_iconst (v := iZ 2) hx hb dL_law_2606 rfl ?_
  refine lv_iadd hx hb dL_law_2607 ?_
  refine lv_topi (fun x_9 ex_9 => ?_)
  obtain rfl : x_9 = iZ (i + 2) := ex_9.trans (iZ_add i 2)
  refine va_sld hx hb hX hbl hbA hS (zi2 hi hL) dL_law_2608 ?_
  refine lv_topi (fun x_10 ex_10 => ?_)
  obtain rfl : x_10 = iZ z2 := ex_10.trans hz2
  obtain ⟨hP, hD⟩ := PD.fr5 ⟨hP, hD⟩
  refine CKV2 (As := [.int (iZ z1), .int (iZ z2)]) (rest := []) (tl := (GA k a (u9 IA 2 u_5.1.2) LA (u9 FA 2 u_5.2.2.1) QA VA r) ++ ((GB k a IB LB FB QB VB r) ++ ((GC k a IC LC FC QC VC r) ++ ((GD k a ID LD FD QD VD r) ++ (r.tl))))) hx hb hml hown hts hKK hP hD hS hA (r_wear l D k (a 106) (a 107) (a 108) (a 109) (a 110) (a 111) (a 112) (a 113) (a 114) (a 115) (a 116) (a 117) (a 118) (a 119) (a 120) (a 121) (a 122) (IR 0) (IR 1) (IR 2) (IR 3) (IR 4) (IR 5) (IR 6) (IR 7) (IR 8) (IR 9) (IR 10) (IR 11) (IR 12) (IR 13) (IR 14) (IR 15) (IR 16) (IR 17) (LR 0) (LR 1) (FR 0) z1 z2 hM ⟨hz1a, hz1b⟩ ⟨hz2a, hz2b⟩) ci_X12_wear qm_L_282 ⟨Nat.le_of_ble_eq_true rfl, Nat.le_of_ble_eq_true rfl⟩ (lroom _) [0, 1] [2, 3, 4, 5, 6, 7, 8, 9, 10, 11, 12, 13, 14, 15, 16] rfl rfl rfl (by decide +kernel) (by decide +kernel) (by decide +kernel) 0 rfl rfl rfl hl.1 rfl (Nat.le_of_ble_eq_true rfl) dL_law_2609 (fun u_11 H locs hφ hP hD hS => ?_)
  obtain ⟨p_12, p_13, p_14⟩ : (M0 u_11.2.2.1) ∧ (CSlowWorldsLaw_law_r4331_294b62.FR u_11.2.2.1 (FR 0)) ∧ ((((0 ≤ z1 ∧ z1 < gz (FR 0) 0) ∧ 0 ≤ z2 ∧ z2 ≤ 1) ∧ (u_11.1.1 : Int) = 1 ∧ (rL u_11.2.2.1) = dsF z1 z2 (rL (FR 0))) ∨ (¬ ((0 ≤ z1 ∧ z1 < gz (FR 0) 0) ∧ 0 ≤ z2 ∧ z2 ≤ 1) ∧ (u_11.1.1 : Int) = 0 ∧ u_11.2.2.1 = (FR 0))) := hφ
  obtain ⟨hP, hD⟩ := PD.by3 (is := [15, 16, 0, 1, 2, 3, 4, 5, 6, 7, 8, 9, 10, 11, 12, 13, 14]) (y := (GR k a (u9 IR 0 u_11.1.2) LR (u9 FR 0 u_11.2.2.1) QR VR r)) ⟨hP, hD⟩ (by decide +kernel) rfl rfl
  refine W.eq (g2 := F0 m 2612 ls [.int (iZ u_11.1.1)]) rfl ?_
  refine lv_pop hx hb dL_law_2612 rfl ?_
  refine lv_goto (tgt := 2846) hx hb dL_law_2613 rfl ?_
  obtain ⟨hP, hD⟩ := PD.fr5 ⟨hP, hD⟩
  obtain ⟨hP, hD⟩ := PD.fr5 ⟨hP, hD⟩
  obtain ⟨hP, hD⟩ := PD.fr5 ⟨hP, hD⟩
  obtain ⟨hP, hD⟩ := PD.fr5 ⟨hP, hD⟩
  exact hk a (u9 IA 2 u_5.1.2) LA (u9 FA 2 u_5.2.2.1) QA VA IB LB FB QB VB IC LC FC QC VC ID LD FD QD VD (u9 IR 0 u_11.1.2) LR (u9 FR 0 u_11.2.2.1) QR VR r H locs ls (show INV _ _ _ _ _ _ _ _ _ _ _ _ _ _ _ from ⟨hWI, hWI_0, hWI_1, hWI_2, hrd, htr0, htr1, htr2, htr3, hrgk, hrgt, hdrc, hev, hmk, (show M0 u_11.2.2.1 from (by assumption)), (show MK u_11.2.2.1 (IR 17) from MK.keep (by omega) hMK (fun e h1 h2 => p_13.1 e (Or.inl (by omega)))), hTI, hFS, htd, hlt, rgH, rgS, rgY, hdr, hit, hmmk, heq, htq, hrel, hbf, htb, hkw, (show SKE (IA 3) (IA 4) (IA 5) (FA 0) (FA 1) u_11.2.2.1 0 from SKE.fr hSK p_13 gw2.2), (show SKI 0 (IA 1) (ID 0) (ID 1) (ID 2) (FD 0) (FD 1) u_11.2.2.1 890 from fun h => SKE.keep (hSK0 h) (fun e p q => p_13.1 e (Or.inl (by omega))) hWI_0.2.1.2), (show SKI 1 (IA 1) (ID 9) (ID 10) (ID 11) (FD 11) (FD 12) u_11.2.2.1 1780 from fun h => SKE.keep (hSK1 h) (fun e p q => p_13.1 e (Or.inl (by omega))) hWI_1.2.1.2), (show SKI 2 (IA 1) (ID 18) (ID 19) (ID 20) (FD 22) (FD 23) u_11.2.2.1 2670 from fun h => SKE.keep (hSK2 h) (fun e p q => p_13.1 e (Or.inl (by omega))) hWI_2.2.1.2), hNE, hNE0, hNE1, hNE2, (show LFE (IA 3) (IA 4) (IA 7) (IA 8) (FA 0) (FA 1) u_5.2.2.1 (FA 3) (FA 4) (FA 5) u_11.2.2.1 0 from ⟨(wear_two hLE.1 (SKE.z hSK).1 p_6 p_14).1, hLE.2⟩), (show YFE (IA 3) (IA 9) (IA 11) (FA 6) (FA 7) (FA 8) (FA 9) (FA 10) u_11.2.2.1 0 from (YFE.fr hYE p_13)), hQE, (show LFI 0 (IA 1) (ID 0) (ID 1) (ID 4) (ID 5) (FD 0) (FD 1) (FD 2) (FD 3) (FD 4) (FD 5) u_11.2.2.1 890 from (fun h => (hLE0 h).keep (by omega) hWI_0.2.2.2.1 hWI_0.2.2.2.2.1 (fun e p r => p_13.1 _ (Or.inl (by omega))))), (show LFI 1 (IA 1) (ID 9) (ID 10) (ID 13) (ID 14) (FD 11) (FD 12) (FD 13) (FD 14) (FD 15) (FD 16) u_11.2.2.1 1780 from (fun h => (hLE1 h).keep (by omega) hWI_1.2.2.2.1 hWI_1.2.2.2.2.1 (fun e p r => p_13.1 _ (Or.inl (by omega))))), (show LFI 2 (IA 1) (ID 18) (ID 19) (ID 22) (ID 23) (FD 22) (FD 23) (FD 24) (FD 25) (FD 26) (FD 27) u_11.2.2.1 2670 from (fun h => (hLE2 h).keep (by omega) hWI_2.2.2.2.1 hWI_2.2.2.2.2.1 (fun e p r => p_13.1 _ (Or.inl (by omega))))), (show YFI 0 (IA 1) (ID 0) (ID 6) (ID 8) (FD 6) (FD 7) (FD 8) (FD 9) (FD 10) u_11.2.2.1 890 from (fun h => (hYE0 h).keep (fun e p r => p_13.1 _ (Or.inl (by omega))))), (show YFI 1 (IA 1) (ID 9) (ID 15) (ID 17) (FD 17) (FD 18) (FD 19) (FD 20) (FD 21) u_11.2.2.1 1780 from (fun h => (hYE1 h).keep (fun e p r => p_13.1 _ (Or.inl (by omega))))), (show YFI 2 (IA 1) (ID 18) (ID 24) (ID 26) (FD 28) (FD 29) (FD 30) (FD 31) (FD 32) u_11.2.2.1 2670 from (fun h => (hYE2 h).keep (fun e p r => p_13.1 _ (Or.inl (by omega)))))⟩) hRT hP hD hS (lv_sub hl [0, 1, 2, 3] rfl)
end
