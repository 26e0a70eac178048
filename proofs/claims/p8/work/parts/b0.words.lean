theorem qc_X11_status : Cond.code yX11_status cX11_status 1 (some .int) ∈ gw := tbt (tb3 (List.mem_of_getElem? (i := 8) rfl)) rfl
theorem qi_yX11_status : Cond.instanceMethod yX11_status ∈ gw := tbt (tb3 (List.mem_of_getElem? (i := 6) rfl)) rfl
theorem qs_X11_status : Cond.selects (yX11_status).cls yX11_status yX11_status ∈ gw := tbt (tb3 (List.mem_of_getElem? (i := 7) rfl)) rfl
theorem ci_X11_status : CIv yX11_status cX11_status 1 (some .int) 0 := ⟨qc_X11_status, qi_yX11_status, qs_X11_status, qz_X11, by decide +kernel⟩
theorem qm_L_13 : Cond.methodLink RL 13 yX11_status ∈ gw := tbt (tb3 (List.mem_of_getElem? (i := 5) rfl)) rfl
theorem qc_X12_status : Cond.code yX12_status cX12_status 1 (some .int) ∈ gw := tbt (tb6 (List.mem_of_getElem? (i := 156) rfl)) rfl
theorem qi_yX12_status : Cond.instanceMethod yX12_status ∈ gw := tbt (tb6 (List.mem_of_getElem? (i := 154) rfl)) rfl
theorem qs_X12_status : Cond.selects (yX12_status).cls yX12_status yX12_status ∈ gw := tbt (tb6 (List.mem_of_getElem? (i := 155) rfl)) rfl
theorem ci_X12_status : CIv yX12_status cX12_status 1 (some .int) 0 := ⟨qc_X12_status, qi_yX12_status, qs_X12_status, qz_X12, by decide +kernel⟩
theorem qm_L_17 : Cond.methodLink RL 17 yX12_status ∈ gw := tbt (tb6 (List.mem_of_getElem? (i := 153) rfl)) rfl
theorem qc_X11_top : Cond.code yX11_top cX11_top 1 (some .long) ∈ gw := tbt (tb3 (List.mem_of_getElem? (i := 12) rfl)) rfl
theorem qi_yX11_top : Cond.instanceMethod yX11_top ∈ gw := tbt (tb3 (List.mem_of_getElem? (i := 10) rfl)) rfl
theorem qs_X11_top : Cond.selects (yX11_top).cls yX11_top yX11_top ∈ gw := tbt (tb3 (List.mem_of_getElem? (i := 11) rfl)) rfl
theorem ci_X11_top : CIv yX11_top cX11_top 1 (some .long) 0 := ⟨qc_X11_top, qi_yX11_top, qs_X11_top, qz_X11, by decide +kernel⟩
theorem qm_L_18 : Cond.methodLink RL 18 yX11_top ∈ gw := tbt (tb3 (List.mem_of_getElem? (i := 9) rfl)) rfl
theorem qc_X12_top : Cond.code yX12_top cX12_top 1 (some .long) ∈ gw := tbt (tb6 (List.mem_of_getElem? (i := 160) rfl)) rfl
theorem qi_yX12_top : Cond.instanceMethod yX12_top ∈ gw := tbt (tb6 (List.mem_of_getElem? (i := 158) rfl)) rfl
theorem qs_X12_top : Cond.selects (yX12_top).cls yX12_top yX12_top ∈ gw := tbt (tb6 (List.mem_of_getElem? (i := 159) rfl)) rfl
theorem ci_X12_top : CIv yX12_top cX12_top 1 (some .long) 0 := ⟨qc_X12_top, qi_yX12_top, qs_X12_top, qz_X12, by decide +kernel⟩
theorem qm_L_22 : Cond.methodLink RL 22 yX12_top ∈ gw := tbt (tb6 (List.mem_of_getElem? (i := 157) rfl)) rfl
theorem qc_X11_bottom : Cond.code yX11_bottom cX11_bottom 1 (some .long) ∈ gw := tbt (tb3 (List.mem_of_getElem? (i := 16) rfl)) rfl
theorem qi_yX11_bottom : Cond.instanceMethod yX11_bottom ∈ gw := tbt (tb3 (List.mem_of_getElem? (i := 14) rfl)) rfl
theorem qs_X11_bottom : Cond.selects (yX11_bottom).cls yX11_bottom yX11_bottom ∈ gw := tbt (tb3 (List.mem_of_getElem? (i := 15) rfl)) rfl
theorem ci_X11_bottom : CIv yX11_bottom cX11_bottom 1 (some .long) 0 := ⟨qc_X11_bottom, qi_yX11_bottom, qs_X11_bottom, qz_X11, by decide +kernel⟩
theorem qm_L_23 : Cond.methodLink RL 23 yX11_bottom ∈ gw := tbt (tb3 (List.mem_of_getElem? (i := 13) rfl)) rfl
theorem qc_X12_bottom : Cond.code yX12_bottom cX12_bottom 1 (some .long) ∈ gw := tbt (tb6 (List.mem_of_getElem? (i := 164) rfl)) rfl
theorem qi_yX12_bottom : Cond.instanceMethod yX12_bottom ∈ gw := tbt (tb6 (List.mem_of_getElem? (i := 162) rfl)) rfl
theorem qs_X12_bottom : Cond.selects (yX12_bottom).cls yX12_bottom yX12_bottom ∈ gw := tbt (tb6 (List.mem_of_getElem? (i := 163) rfl)) rfl
theorem ci_X12_bottom : CIv yX12_bottom cX12_bottom 1 (some .long) 0 := ⟨qc_X12_bottom, qi_yX12_bottom, qs_X12_bottom, qz_X12, by decide +kernel⟩
theorem qm_L_26 : Cond.methodLink RL 26 yX12_bottom ∈ gw := tbt (tb6 (List.mem_of_getElem? (i := 161) rfl)) rfl
theorem qc_X11_tray : Cond.code yX11_tray cX11_tray 4 (some .boolean) ∈ gw := tbt (tb3 (List.mem_of_getElem? (i := 20) rfl)) rfl
theorem qi_yX11_tray : Cond.instanceMethod yX11_tray ∈ gw := tbt (tb3 (List.mem_of_getElem? (i := 18) rfl)) rfl
theorem qs_X11_tray : Cond.selects (yX11_tray).cls yX11_tray yX11_tray ∈ gw := tbt (tb3 (List.mem_of_getElem? (i := 19) rfl)) rfl
theorem ci_X11_tray : CIv yX11_tray cX11_tray 4 (some .boolean) 3 := ⟨qc_X11_tray, qi_yX11_tray, qs_X11_tray, qz_X11, by decide +kernel⟩
theorem qm_L_27 : Cond.methodLink RL 27 yX11_tray ∈ gw := tbt (tb3 (List.mem_of_getElem? (i := 17) rfl)) rfl
theorem qc_X12_tray : Cond.code yX12_tray cX12_tray 5 (some .boolean) ∈ gw := tbt (tb6 (List.mem_of_getElem? (i := 168) rfl)) rfl
theorem qi_yX12_tray : Cond.instanceMethod yX12_tray ∈ gw := tbt (tb6 (List.mem_of_getElem? (i := 166) rfl)) rfl
theorem qs_X12_tray : Cond.selects (yX12_tray).cls yX12_tray yX12_tray ∈ gw := tbt (tb6 (List.mem_of_getElem? (i := 167) rfl)) rfl
theorem ci_X12_tray : CIv yX12_tray cX12_tray 5 (some .boolean) 3 := ⟨qc_X12_tray, qi_yX12_tray, qs_X12_tray, qz_X12, by decide +kernel⟩
theorem qm_L_31 : Cond.methodLink RL 31 yX12_tray ∈ gw := tbt (tb6 (List.mem_of_getElem? (i := 165) rfl)) rfl
theorem qk_L_32 : Cond.constantLong RL 32 (4294967295) ∈ gw := tbt (tb9 (List.mem_of_getElem? (i := 50) rfl)) rfl
theorem qc_X11_write : Cond.code yX11_write cX11_write 6 (some .boolean) ∈ gw := tbt (tb3 (List.mem_of_getElem? (i := 45) rfl)) rfl
theorem qi_yX11_write : Cond.instanceMethod yX11_write ∈ gw := tbt (tb3 (List.mem_of_getElem? (i := 43) rfl)) rfl
theorem qs_X11_write : Cond.selects (yX11_write).cls yX11_write yX11_write ∈ gw := tbt (tb3 (List.mem_of_getElem? (i := 44) rfl)) rfl
theorem ci_X11_write : CIv yX11_write cX11_write 6 (some .boolean) 3 := ⟨qc_X11_write, qi_yX11_write, qs_X11_write, qz_X11, by decide +kernel⟩
theorem qm_L_34 : Cond.methodLink RL 34 yX11_write ∈ gw := tbt (tb3 (List.mem_of_getElem? (i := 42) rfl)) rfl
theorem qc_X12_write : Cond.code yX12_write cX12_write 6 (some .boolean) ∈ gw := tbt (tb6 (List.mem_of_getElem? (i := 179) rfl)) rfl
theorem qi_yX12_write : Cond.instanceMethod yX12_write ∈ gw := tbt (tb6 (List.mem_of_getElem? (i := 177) rfl)) rfl
theorem qs_X12_write : Cond.selects (yX12_write).cls yX12_write yX12_write ∈ gw := tbt (tb6 (List.mem_of_getElem? (i := 178) rfl)) rfl
theorem ci_X12_write : CIv yX12_write cX12_write 6 (some .boolean) 3 := ⟨qc_X12_write, qi_yX12_write, qs_X12_write, qz_X12, by decide +kernel⟩
theorem qm_L_38 : Cond.methodLink RL 38 yX12_write ∈ gw := tbt (tb6 (List.mem_of_getElem? (i := 176) rfl)) rfl
theorem qc_X11_read : Cond.code yX11_read cX11_read 4 (some .long) ∈ gw := tbt (tb3 (List.mem_of_getElem? (i := 61) rfl)) rfl
theorem qi_yX11_read : Cond.instanceMethod yX11_read ∈ gw := tbt (tb3 (List.mem_of_getElem? (i := 59) rfl)) rfl
theorem qs_X11_read : Cond.selects (yX11_read).cls yX11_read yX11_read ∈ gw := tbt (tb3 (List.mem_of_getElem? (i := 60) rfl)) rfl
theorem ci_X11_read : CIv yX11_read cX11_read 4 (some .long) 2 := ⟨qc_X11_read, qi_yX11_read, qs_X11_read, qz_X11, by decide +kernel⟩
theorem qm_L_39 : Cond.methodLink RL 39 yX11_read ∈ gw := tbt (tb3 (List.mem_of_getElem? (i := 58) rfl)) rfl
theorem qc_X12_read : Cond.code yX12_read cX12_read 3 (some .long) ∈ gw := tbt (tb6 (List.mem_of_getElem? (i := 190) rfl)) rfl
theorem qi_yX12_read : Cond.instanceMethod yX12_read ∈ gw := tbt (tb6 (List.mem_of_getElem? (i := 188) rfl)) rfl
theorem qs_X12_read : Cond.selects (yX12_read).cls yX12_read yX12_read ∈ gw := tbt (tb6 (List.mem_of_getElem? (i := 189) rfl)) rfl
theorem ci_X12_read : CIv yX12_read cX12_read 3 (some .long) 2 := ⟨qc_X12_read, qi_yX12_read, qs_X12_read, qz_X12, by decide +kernel⟩
theorem qm_L_43 : Cond.methodLink RL 43 yX12_read ∈ gw := tbt (tb6 (List.mem_of_getElem? (i := 187) rfl)) rfl
theorem qc_X11_pour : Cond.code yX11_pour cX11_pour 8 (some .boolean) ∈ gw := tbt (tb3 (List.mem_of_getElem? (i := 69) rfl)) rfl
theorem qi_yX11_pour : Cond.instanceMethod yX11_pour ∈ gw := tbt (tb3 (List.mem_of_getElem? (i := 67) rfl)) rfl
theorem qs_X11_pour : Cond.selects (yX11_pour).cls yX11_pour yX11_pour ∈ gw := tbt (tb3 (List.mem_of_getElem? (i := 68) rfl)) rfl
theorem ci_X11_pour : CIv yX11_pour cX11_pour 8 (some .boolean) 5 := ⟨qc_X11_pour, qi_yX11_pour, qs_X11_pour, qz_X11, by decide +kernel⟩
theorem qm_L_44 : Cond.methodLink RL 44 yX11_pour ∈ gw := tbt (tb3 (List.mem_of_getElem? (i := 66) rfl)) rfl
theorem qc_X12_pour : Cond.code yX12_pour cX12_pour 8 (some .boolean) ∈ gw := tbt (tb6 (List.mem_of_getElem? (i := 195) rfl)) rfl
theorem qi_yX12_pour : Cond.instanceMethod yX12_pour ∈ gw := tbt (tb6 (List.mem_of_getElem? (i := 193) rfl)) rfl
theorem qs_X12_pour : Cond.selects (yX12_pour).cls yX12_pour yX12_pour ∈ gw := tbt (tb6 (List.mem_of_getElem? (i := 194) rfl)) rfl
theorem ci_X12_pour : CIv yX12_pour cX12_pour 8 (some .boolean) 5 := ⟨qc_X12_pour, qi_yX12_pour, qs_X12_pour, qz_X12, by decide +kernel⟩
theorem qm_L_48 : Cond.methodLink RL 48 yX12_pour ∈ gw := tbt (tb6 (List.mem_of_getElem? (i := 192) rfl)) rfl
theorem qc_X11_feed : Cond.code yX11_feed cX11_feed 6 (some .int) ∈ gw := tbt (tb3 (List.mem_of_getElem? (i := 80) rfl)) rfl
theorem qi_yX11_feed : Cond.instanceMethod yX11_feed ∈ gw := tbt (tb3 (List.mem_of_getElem? (i := 78) rfl)) rfl
theorem qs_X11_feed : Cond.selects (yX11_feed).cls yX11_feed yX11_feed ∈ gw := tbt (tb3 (List.mem_of_getElem? (i := 79) rfl)) rfl
theorem ci_X11_feed : CIv yX11_feed cX11_feed 6 (some .int) 5 := ⟨qc_X11_feed, qi_yX11_feed, qs_X11_feed, qz_X11, by decide +kernel⟩
theorem qm_L_49 : Cond.methodLink RL 49 yX11_feed ∈ gw := tbt (tb3 (List.mem_of_getElem? (i := 77) rfl)) rfl
theorem qc_X12_feed : Cond.code yX12_feed cX12_feed 6 (some .int) ∈ gw := tbt (tb6 (List.mem_of_getElem? (i := 199) rfl)) rfl
theorem qi_yX12_feed : Cond.instanceMethod yX12_feed ∈ gw := tbt (tb6 (List.mem_of_getElem? (i := 197) rfl)) rfl
theorem qs_X12_feed : Cond.selects (yX12_feed).cls yX12_feed yX12_feed ∈ gw := tbt (tb6 (List.mem_of_getElem? (i := 198) rfl)) rfl
theorem ci_X12_feed : CIv yX12_feed cX12_feed 6 (some .int) 5 := ⟨qc_X12_feed, qi_yX12_feed, qs_X12_feed, qz_X12, by decide +kernel⟩
theorem qm_L_53 : Cond.methodLink RL 53 yX12_feed ∈ gw := tbt (tb6 (List.mem_of_getElem? (i := 196) rfl)) rfl
theorem dL_law_344 : decode cL_law 344 = .ok (.aload_n 1, 1) := fq1_43 (fl_5 (j := 24) rfl rfl)
theorem dL_law_345 : decode cL_law 345 = .ok (.invokevirtual 13, 3) := fq3_182 (fl_5 (j := 25) rfl rfl) (fl_5 (j := 26) rfl rfl) (fl_5 (j := 27) rfl rfl) (by decide)
theorem dL_law_348 : decode cL_law 348 = .ok (.pop, 1) := fq1_87 (fl_5 (j := 28) rfl rfl)
theorem dL_law_349 : decode cL_law 349 = .ok (.aload_n 2, 1) := fq1_44 (fl_5 (j := 29) rfl rfl)
theorem dL_law_350 : decode cL_law 350 = .ok (.invokevirtual 17, 3) := fq3_182 (fl_5 (j := 30) rfl rfl) (fl_5 (j := 31) rfl rfl) (fl_5 (j := 32) rfl rfl) (by decide)
theorem dL_law_353 : decode cL_law 353 = .ok (.pop, 1) := fq1_87 (fl_5 (j := 33) rfl rfl)
theorem dL_law_354 : decode cL_law 354 = .ok (.goto 2492, 3) := fq3_167 (fl_5 (j := 34) rfl rfl) (fl_5 (j := 35) rfl rfl) (fl_5 (j := 36) rfl rfl) (by decide)
theorem dL_law_357 : decode cL_law 357 = .ok (.aload_n 1, 1) := fq1_43 (fl_5 (j := 37) rfl rfl)
theorem dL_law_358 : decode cL_law 358 = .ok (.invokevirtual 18, 3) := fq3_182 (fl_5 (j := 38) rfl rfl) (fl_5 (j := 39) rfl rfl) (fl_5 (j := 40) rfl rfl) (by decide)
theorem dL_law_361 : decode cL_law 361 = .ok (.pop2, 1) := fq1_88 (fl_5 (j := 41) rfl rfl)
theorem dL_law_362 : decode cL_law 362 = .ok (.aload_n 2, 1) := fq1_44 (fl_5 (j := 42) rfl rfl)
theorem dL_law_363 : decode cL_law 363 = .ok (.invokevirtual 22, 3) := fq3_182 (fl_5 (j := 43) rfl rfl) (fl_5 (j := 44) rfl rfl) (fl_5 (j := 45) rfl rfl) (by decide)
theorem dL_law_366 : decode cL_law 366 = .ok (.pop2, 1) := fq1_88 (fl_5 (j := 46) rfl rfl)
theorem dL_law_367 : decode cL_law 367 = .ok (.goto 2479, 3) := fq3_167 (fl_5 (j := 47) rfl rfl) (fl_5 (j := 48) rfl rfl) (fl_5 (j := 49) rfl rfl) (by decide)
theorem dL_law_370 : decode cL_law 370 = .ok (.aload_n 1, 1) := fq1_43 (fl_5 (j := 50) rfl rfl)
theorem dL_law_371 : decode cL_law 371 = .ok (.invokevirtual 23, 3) := fq3_182 (fl_5 (j := 51) rfl rfl) (fl_5 (j := 52) rfl rfl) (fl_5 (j := 53) rfl rfl) (by decide)
theorem dL_law_374 : decode cL_law 374 = .ok (.pop2, 1) := fq1_88 (fl_5 (j := 54) rfl rfl)
theorem dL_law_375 : decode cL_law 375 = .ok (.aload_n 2, 1) := fq1_44 (fl_5 (j := 55) rfl rfl)
theorem dL_law_376 : decode cL_law 376 = .ok (.invokevirtual 26, 3) := fq3_182 (fl_5 (j := 56) rfl rfl) (fl_5 (j := 57) rfl rfl) (fl_5 (j := 58) rfl rfl) (by decide)
theorem dL_law_379 : decode cL_law 379 = .ok (.pop2, 1) := fq1_88 (fl_5 (j := 59) rfl rfl)
theorem dL_law_380 : decode cL_law 380 = .ok (.goto 2466, 3) := fq3_167 (fl_5 (j := 60) rfl rfl) (fl_5 (j := 61) rfl rfl) (fl_5 (j := 62) rfl rfl) (by decide)
theorem dL_law_383 : decode cL_law 383 = .ok (.aload_n 1, 1) := fq1_43 (fl_5 (j := 63) rfl rfl)
theorem dL_law_384 : decode cL_law 384 = .ok (.aload_n 0, 1) := fq1_42 (fl_6 (j := 0) rfl rfl)
theorem dL_law_385 : decode cL_law 385 = .ok (.iload_n 3, 1) := fq1_29 (fl_6 (j := 1) rfl rfl)
theorem dL_law_386 : decode cL_law 386 = .ok (.iconst 1, 1) := fq1_4 (fl_6 (j := 2) rfl rfl)
theorem dL_law_387 : decode cL_law 387 = .ok (.iadd, 1) := fq1_96 (fl_6 (j := 3) rfl rfl)
theorem dL_law_388 : decode cL_law 388 = .ok (.iaload, 1) := fq1_46 (fl_6 (j := 4) rfl rfl)
theorem dL_law_389 : decode cL_law 389 = .ok (.aload_n 0, 1) := fq1_42 (fl_6 (j := 5) rfl rfl)
theorem dL_law_390 : decode cL_law 390 = .ok (.iload_n 3, 1) := fq1_29 (fl_6 (j := 6) rfl rfl)
theorem dL_law_391 : decode cL_law 391 = .ok (.iconst 2, 1) := fq1_5 (fl_6 (j := 7) rfl rfl)
theorem dL_law_392 : decode cL_law 392 = .ok (.iadd, 1) := fq1_96 (fl_6 (j := 8) rfl rfl)
theorem dL_law_393 : decode cL_law 393 = .ok (.iaload, 1) := fq1_46 (fl_6 (j := 9) rfl rfl)
theorem dL_law_394 : decode cL_law 394 = .ok (.aload_n 0, 1) := fq1_42 (fl_6 (j := 10) rfl rfl)
theorem dL_law_395 : decode cL_law 395 = .ok (.iload_n 3, 1) := fq1_29 (fl_6 (j := 11) rfl rfl)
theorem dL_law_396 : decode cL_law 396 = .ok (.iconst 3, 1) := fq1_6 (fl_6 (j := 12) rfl rfl)
theorem dL_law_397 : decode cL_law 397 = .ok (.iadd, 1) := fq1_96 (fl_6 (j := 13) rfl rfl)
theorem dL_law_398 : decode cL_law 398 = .ok (.iaload, 1) := fq1_46 (fl_6 (j := 14) rfl rfl)
theorem dL_law_399 : decode cL_law 399 = .ok (.invokevirtual 27, 3) := fq3_182 (fl_6 (j := 15) rfl rfl) (fl_6 (j := 16) rfl rfl) (fl_6 (j := 17) rfl rfl) (by decide)
theorem dL_law_402 : decode cL_law 402 = .ok (.pop, 1) := fq1_87 (fl_6 (j := 18) rfl rfl)
theorem dL_law_403 : decode cL_law 403 = .ok (.aload_n 2, 1) := fq1_44 (fl_6 (j := 19) rfl rfl)
theorem dL_law_404 : decode cL_law 404 = .ok (.aload_n 0, 1) := fq1_42 (fl_6 (j := 20) rfl rfl)
theorem dL_law_405 : decode cL_law 405 = .ok (.iload_n 3, 1) := fq1_29 (fl_6 (j := 21) rfl rfl)
theorem dL_law_406 : decode cL_law 406 = .ok (.iconst 1, 1) := fq1_4 (fl_6 (j := 22) rfl rfl)
theorem dL_law_407 : decode cL_law 407 = .ok (.iadd, 1) := fq1_96 (fl_6 (j := 23) rfl rfl)
theorem dL_law_408 : decode cL_law 408 = .ok (.iaload, 1) := fq1_46 (fl_6 (j := 24) rfl rfl)
theorem dL_law_409 : decode cL_law 409 = .ok (.aload_n 0, 1) := fq1_42 (fl_6 (j := 25) rfl rfl)
theorem dL_law_410 : decode cL_law 410 = .ok (.iload_n 3, 1) := fq1_29 (fl_6 (j := 26) rfl rfl)
theorem dL_law_411 : decode cL_law 411 = .ok (.iconst 2, 1) := fq1_5 (fl_6 (j := 27) rfl rfl)
theorem dL_law_412 : decode cL_law 412 = .ok (.iadd, 1) := fq1_96 (fl_6 (j := 28) rfl rfl)
theorem dL_law_413 : decode cL_law 413 = .ok (.iaload, 1) := fq1_46 (fl_6 (j := 29) rfl rfl)
theorem dL_law_414 : decode cL_law 414 = .ok (.aload_n 0, 1) := fq1_42 (fl_6 (j := 30) rfl rfl)
theorem dL_law_415 : decode cL_law 415 = .ok (.iload_n 3, 1) := fq1_29 (fl_6 (j := 31) rfl rfl)
theorem dL_law_416 : decode cL_law 416 = .ok (.iconst 3, 1) := fq1_6 (fl_6 (j := 32) rfl rfl)
theorem dL_law_417 : decode cL_law 417 = .ok (.iadd, 1) := fq1_96 (fl_6 (j := 33) rfl rfl)
theorem dL_law_418 : decode cL_law 418 = .ok (.iaload, 1) := fq1_46 (fl_6 (j := 34) rfl rfl)
theorem dL_law_419 : decode cL_law 419 = .ok (.invokevirtual 31, 3) := fq3_182 (fl_6 (j := 35) rfl rfl) (fl_6 (j := 36) rfl rfl) (fl_6 (j := 37) rfl rfl) (by decide)
theorem dL_law_422 : decode cL_law 422 = .ok (.pop, 1) := fq1_87 (fl_6 (j := 38) rfl rfl)
theorem dL_law_423 : decode cL_law 423 = .ok (.goto 2423, 3) := fq3_167 (fl_6 (j := 39) rfl rfl) (fl_6 (j := 40) rfl rfl) (fl_6 (j := 41) rfl rfl) (by decide)
theorem dL_law_426 : decode cL_law 426 = .ok (.aload_n 1, 1) := fq1_43 (fl_6 (j := 42) rfl rfl)
theorem dL_law_427 : decode cL_law 427 = .ok (.aload_n 0, 1) := fq1_42 (fl_6 (j := 43) rfl rfl)
theorem dL_law_428 : decode cL_law 428 = .ok (.iload_n 3, 1) := fq1_29 (fl_6 (j := 44) rfl rfl)
theorem dL_law_429 : decode cL_law 429 = .ok (.iconst 1, 1) := fq1_4 (fl_6 (j := 45) rfl rfl)
theorem dL_law_430 : decode cL_law 430 = .ok (.iadd, 1) := fq1_96 (fl_6 (j := 46) rfl rfl)
theorem dL_law_431 : decode cL_law 431 = .ok (.iaload, 1) := fq1_46 (fl_6 (j := 47) rfl rfl)
theorem dL_law_432 : decode cL_law 432 = .ok (.aload_n 0, 1) := fq1_42 (fl_6 (j := 48) rfl rfl)
theorem dL_law_433 : decode cL_law 433 = .ok (.iload_n 3, 1) := fq1_29 (fl_6 (j := 49) rfl rfl)
theorem dL_law_434 : decode cL_law 434 = .ok (.iconst 2, 1) := fq1_5 (fl_6 (j := 50) rfl rfl)
theorem dL_law_435 : decode cL_law 435 = .ok (.iadd, 1) := fq1_96 (fl_6 (j := 51) rfl rfl)
theorem dL_law_436 : decode cL_law 436 = .ok (.iaload, 1) := fq1_46 (fl_6 (j := 52) rfl rfl)
theorem dL_law_437 : decode cL_law 437 = .ok (.aload_n 0, 1) := fq1_42 (fl_6 (j := 53) rfl rfl)
theorem dL_law_438 : decode cL_law 438 = .ok (.iload_n 3, 1) := fq1_29 (fl_6 (j := 54) rfl rfl)
theorem dL_law_439 : decode cL_law 439 = .ok (.iconst 3, 1) := fq1_6 (fl_6 (j := 55) rfl rfl)
theorem dL_law_440 : decode cL_law 440 = .ok (.iadd, 1) := fq1_96 (fl_6 (j := 56) rfl rfl)
theorem dL_law_441 : decode cL_law 441 = .ok (.iaload, 1) := fq1_46 (fl_6 (j := 57) rfl rfl)
theorem dL_law_442 : decode cL_law 442 = .ok (.i2l, 1) := fq1_133 (fl_6 (j := 58) rfl rfl)
theorem dL_law_443 : decode cL_law 443 = .ok (.bipush 32, 2) := by decide +kernel
theorem dL_law_445 : decode cL_law 445 = .ok (.lshl, 1) := fq1_121 (fl_6 (j := 61) rfl rfl)
theorem dL_law_446 : decode cL_law 446 = .ok (.aload_n 0, 1) := fq1_42 (fl_6 (j := 62) rfl rfl)
theorem dL_law_447 : decode cL_law 447 = .ok (.iload_n 3, 1) := fq1_29 (fl_6 (j := 63) rfl rfl)
theorem dL_law_448 : decode cL_law 448 = .ok (.iconst 4, 1) := fq1_7 (fl_7 (j := 0) rfl rfl)
theorem dL_law_449 : decode cL_law 449 = .ok (.iadd, 1) := fq1_96 (fl_7 (j := 1) rfl rfl)
theorem dL_law_450 : decode cL_law 450 = .ok (.iaload, 1) := fq1_46 (fl_7 (j := 2) rfl rfl)
theorem dL_law_451 : decode cL_law 451 = .ok (.i2l, 1) := fq1_133 (fl_7 (j := 3) rfl rfl)
theorem dL_law_452 : decode cL_law 452 = .ok (.ldc2_w 32, 3) := by decide +kernel
theorem dL_law_455 : decode cL_law 455 = .ok (.land, 1) := fq1_127 (fl_7 (j := 7) rfl rfl)
theorem dL_law_456 : decode cL_law 456 = .ok (.lor, 1) := fq1_129 (fl_7 (j := 8) rfl rfl)
theorem dL_law_457 : decode cL_law 457 = .ok (.invokevirtual 34, 3) := fq3_182 (fl_7 (j := 9) rfl rfl) (fl_7 (j := 10) rfl rfl) (fl_7 (j := 11) rfl rfl) (by decide)
theorem dL_law_460 : decode cL_law 460 = .ok (.pop, 1) := fq1_87 (fl_7 (j := 12) rfl rfl)
theorem dL_law_461 : decode cL_law 461 = .ok (.aload_n 2, 1) := fq1_44 (fl_7 (j := 13) rfl rfl)
theorem dL_law_462 : decode cL_law 462 = .ok (.aload_n 0, 1) := fq1_42 (fl_7 (j := 14) rfl rfl)
theorem dL_law_463 : decode cL_law 463 = .ok (.iload_n 3, 1) := fq1_29 (fl_7 (j := 15) rfl rfl)
theorem dL_law_464 : decode cL_law 464 = .ok (.iconst 1, 1) := fq1_4 (fl_7 (j := 16) rfl rfl)
theorem dL_law_465 : decode cL_law 465 = .ok (.iadd, 1) := fq1_96 (fl_7 (j := 17) rfl rfl)
theorem dL_law_466 : decode cL_law 466 = .ok (.iaload, 1) := fq1_46 (fl_7 (j := 18) rfl rfl)
theorem dL_law_467 : decode cL_law 467 = .ok (.aload_n 0, 1) := fq1_42 (fl_7 (j := 19) rfl rfl)
theorem dL_law_468 : decode cL_law 468 = .ok (.iload_n 3, 1) := fq1_29 (fl_7 (j := 20) rfl rfl)
theorem dL_law_469 : decode cL_law 469 = .ok (.iconst 2, 1) := fq1_5 (fl_7 (j := 21) rfl rfl)
theorem dL_law_470 : decode cL_law 470 = .ok (.iadd, 1) := fq1_96 (fl_7 (j := 22) rfl rfl)
theorem dL_law_471 : decode cL_law 471 = .ok (.iaload, 1) := fq1_46 (fl_7 (j := 23) rfl rfl)
theorem dL_law_472 : decode cL_law 472 = .ok (.aload_n 0, 1) := fq1_42 (fl_7 (j := 24) rfl rfl)
theorem dL_law_473 : decode cL_law 473 = .ok (.iload_n 3, 1) := fq1_29 (fl_7 (j := 25) rfl rfl)
theorem dL_law_474 : decode cL_law 474 = .ok (.iconst 3, 1) := fq1_6 (fl_7 (j := 26) rfl rfl)
theorem dL_law_475 : decode cL_law 475 = .ok (.iadd, 1) := fq1_96 (fl_7 (j := 27) rfl rfl)
theorem dL_law_476 : decode cL_law 476 = .ok (.iaload, 1) := fq1_46 (fl_7 (j := 28) rfl rfl)
theorem dL_law_477 : decode cL_law 477 = .ok (.i2l, 1) := fq1_133 (fl_7 (j := 29) rfl rfl)
theorem dL_law_478 : decode cL_law 478 = .ok (.bipush 32, 2) := by decide +kernel
theorem dL_law_480 : decode cL_law 480 = .ok (.lshl, 1) := fq1_121 (fl_7 (j := 32) rfl rfl)
theorem dL_law_481 : decode cL_law 481 = .ok (.aload_n 0, 1) := fq1_42 (fl_7 (j := 33) rfl rfl)
theorem dL_law_482 : decode cL_law 482 = .ok (.iload_n 3, 1) := fq1_29 (fl_7 (j := 34) rfl rfl)
theorem dL_law_483 : decode cL_law 483 = .ok (.iconst 4, 1) := fq1_7 (fl_7 (j := 35) rfl rfl)
theorem dL_law_484 : decode cL_law 484 = .ok (.iadd, 1) := fq1_96 (fl_7 (j := 36) rfl rfl)
theorem dL_law_485 : decode cL_law 485 = .ok (.iaload, 1) := fq1_46 (fl_7 (j := 37) rfl rfl)
theorem dL_law_486 : decode cL_law 486 = .ok (.i2l, 1) := fq1_133 (fl_7 (j := 38) rfl rfl)
theorem dL_law_487 : decode cL_law 487 = .ok (.ldc2_w 32, 3) := by decide +kernel
theorem dL_law_490 : decode cL_law 490 = .ok (.land, 1) := fq1_127 (fl_7 (j := 42) rfl rfl)
theorem dL_law_491 : decode cL_law 491 = .ok (.lor, 1) := fq1_129 (fl_7 (j := 43) rfl rfl)
theorem dL_law_492 : decode cL_law 492 = .ok (.invokevirtual 38, 3) := fq3_182 (fl_7 (j := 44) rfl rfl) (fl_7 (j := 45) rfl rfl) (fl_7 (j := 46) rfl rfl) (by decide)
theorem dL_law_495 : decode cL_law 495 = .ok (.pop, 1) := fq1_87 (fl_7 (j := 47) rfl rfl)
theorem dL_law_496 : decode cL_law 496 = .ok (.goto 2350, 3) := fq3_167 (fl_7 (j := 48) rfl rfl) (fl_7 (j := 49) rfl rfl) (fl_7 (j := 50) rfl rfl) (by decide)
theorem dL_law_499 : decode cL_law 499 = .ok (.aload_n 1, 1) := fq1_43 (fl_7 (j := 51) rfl rfl)
theorem dL_law_500 : decode cL_law 500 = .ok (.aload_n 0, 1) := fq1_42 (fl_7 (j := 52) rfl rfl)
theorem dL_law_501 : decode cL_law 501 = .ok (.iload_n 3, 1) := fq1_29 (fl_7 (j := 53) rfl rfl)
theorem dL_law_502 : decode cL_law 502 = .ok (.iconst 1, 1) := fq1_4 (fl_7 (j := 54) rfl rfl)
theorem dL_law_503 : decode cL_law 503 = .ok (.iadd, 1) := fq1_96 (fl_7 (j := 55) rfl rfl)
theorem dL_law_504 : decode cL_law 504 = .ok (.iaload, 1) := fq1_46 (fl_7 (j := 56) rfl rfl)
theorem dL_law_505 : decode cL_law 505 = .ok (.aload_n 0, 1) := fq1_42 (fl_7 (j := 57) rfl rfl)
theorem dL_law_506 : decode cL_law 506 = .ok (.iload_n 3, 1) := fq1_29 (fl_7 (j := 58) rfl rfl)
theorem dL_law_507 : decode cL_law 507 = .ok (.iconst 2, 1) := fq1_5 (fl_7 (j := 59) rfl rfl)
theorem dL_law_508 : decode cL_law 508 = .ok (.iadd, 1) := fq1_96 (fl_7 (j := 60) rfl rfl)
theorem dL_law_509 : decode cL_law 509 = .ok (.iaload, 1) := fq1_46 (fl_7 (j := 61) rfl rfl)
theorem dL_law_510 : decode cL_law 510 = .ok (.invokevirtual 39, 3) := fq3_182 (fl_7 (j := 62) rfl rfl) (fl_7 (j := 63) rfl rfl) (fl_8 (j := 0) rfl rfl) (by decide)
theorem dL_law_513 : decode cL_law 513 = .ok (.pop2, 1) := fq1_88 (fl_8 (j := 1) rfl rfl)
theorem dL_law_514 : decode cL_law 514 = .ok (.aload_n 2, 1) := fq1_44 (fl_8 (j := 2) rfl rfl)
theorem dL_law_515 : decode cL_law 515 = .ok (.aload_n 0, 1) := fq1_42 (fl_8 (j := 3) rfl rfl)
theorem dL_law_516 : decode cL_law 516 = .ok (.iload_n 3, 1) := fq1_29 (fl_8 (j := 4) rfl rfl)
theorem dL_law_517 : decode cL_law 517 = .ok (.iconst 1, 1) := fq1_4 (fl_8 (j := 5) rfl rfl)
theorem dL_law_518 : decode cL_law 518 = .ok (.iadd, 1) := fq1_96 (fl_8 (j := 6) rfl rfl)
theorem dL_law_519 : decode cL_law 519 = .ok (.iaload, 1) := fq1_46 (fl_8 (j := 7) rfl rfl)
theorem dL_law_520 : decode cL_law 520 = .ok (.aload_n 0, 1) := fq1_42 (fl_8 (j := 8) rfl rfl)
theorem dL_law_521 : decode cL_law 521 = .ok (.iload_n 3, 1) := fq1_29 (fl_8 (j := 9) rfl rfl)
theorem dL_law_522 : decode cL_law 522 = .ok (.iconst 2, 1) := fq1_5 (fl_8 (j := 10) rfl rfl)
theorem dL_law_523 : decode cL_law 523 = .ok (.iadd, 1) := fq1_96 (fl_8 (j := 11) rfl rfl)
theorem dL_law_524 : decode cL_law 524 = .ok (.iaload, 1) := fq1_46 (fl_8 (j := 12) rfl rfl)
theorem dL_law_525 : decode cL_law 525 = .ok (.invokevirtual 43, 3) := fq3_182 (fl_8 (j := 13) rfl rfl) (fl_8 (j := 14) rfl rfl) (fl_8 (j := 15) rfl rfl) (by decide)
theorem dL_law_528 : decode cL_law 528 = .ok (.pop2, 1) := fq1_88 (fl_8 (j := 16) rfl rfl)
theorem dL_law_529 : decode cL_law 529 = .ok (.goto 2317, 3) := fq3_167 (fl_8 (j := 17) rfl rfl) (fl_8 (j := 18) rfl rfl) (fl_8 (j := 19) rfl rfl) (by decide)
theorem dL_law_532 : decode cL_law 532 = .ok (.aload_n 1, 1) := fq1_43 (fl_8 (j := 20) rfl rfl)
theorem dL_law_533 : decode cL_law 533 = .ok (.aload_n 0, 1) := fq1_42 (fl_8 (j := 21) rfl rfl)
theorem dL_law_534 : decode cL_law 534 = .ok (.iload_n 3, 1) := fq1_29 (fl_8 (j := 22) rfl rfl)
theorem dL_law_535 : decode cL_law 535 = .ok (.iconst 1, 1) := fq1_4 (fl_8 (j := 23) rfl rfl)
theorem dL_law_536 : decode cL_law 536 = .ok (.iadd, 1) := fq1_96 (fl_8 (j := 24) rfl rfl)
theorem dL_law_537 : decode cL_law 537 = .ok (.iaload, 1) := fq1_46 (fl_8 (j := 25) rfl rfl)
theorem dL_law_538 : decode cL_law 538 = .ok (.aload_n 0, 1) := fq1_42 (fl_8 (j := 26) rfl rfl)
theorem dL_law_539 : decode cL_law 539 = .ok (.iload_n 3, 1) := fq1_29 (fl_8 (j := 27) rfl rfl)
theorem dL_law_540 : decode cL_law 540 = .ok (.iconst 2, 1) := fq1_5 (fl_8 (j := 28) rfl rfl)
theorem dL_law_541 : decode cL_law 541 = .ok (.iadd, 1) := fq1_96 (fl_8 (j := 29) rfl rfl)
theorem dL_law_542 : decode cL_law 542 = .ok (.iaload, 1) := fq1_46 (fl_8 (j := 30) rfl rfl)
theorem dL_law_543 : decode cL_law 543 = .ok (.aload_n 0, 1) := fq1_42 (fl_8 (j := 31) rfl rfl)
theorem dL_law_544 : decode cL_law 544 = .ok (.iload_n 3, 1) := fq1_29 (fl_8 (j := 32) rfl rfl)
theorem dL_law_545 : decode cL_law 545 = .ok (.iconst 3, 1) := fq1_6 (fl_8 (j := 33) rfl rfl)
theorem dL_law_546 : decode cL_law 546 = .ok (.iadd, 1) := fq1_96 (fl_8 (j := 34) rfl rfl)
theorem dL_law_547 : decode cL_law 547 = .ok (.iaload, 1) := fq1_46 (fl_8 (j := 35) rfl rfl)
theorem dL_law_548 : decode cL_law 548 = .ok (.aload_n 0, 1) := fq1_42 (fl_8 (j := 36) rfl rfl)
theorem dL_law_549 : decode cL_law 549 = .ok (.iload_n 3, 1) := fq1_29 (fl_8 (j := 37) rfl rfl)
theorem dL_law_550 : decode cL_law 550 = .ok (.iconst 4, 1) := fq1_7 (fl_8 (j := 38) rfl rfl)
theorem dL_law_551 : decode cL_law 551 = .ok (.iadd, 1) := fq1_96 (fl_8 (j := 39) rfl rfl)
theorem dL_law_552 : decode cL_law 552 = .ok (.iaload, 1) := fq1_46 (fl_8 (j := 40) rfl rfl)
theorem dL_law_553 : decode cL_law 553 = .ok (.aload_n 0, 1) := fq1_42 (fl_8 (j := 41) rfl rfl)
theorem dL_law_554 : decode cL_law 554 = .ok (.iload_n 3, 1) := fq1_29 (fl_8 (j := 42) rfl rfl)
theorem dL_law_555 : decode cL_law 555 = .ok (.iconst 5, 1) := fq1_8 (fl_8 (j := 43) rfl rfl)
theorem dL_law_556 : decode cL_law 556 = .ok (.iadd, 1) := fq1_96 (fl_8 (j := 44) rfl rfl)
theorem dL_law_557 : decode cL_law 557 = .ok (.iaload, 1) := fq1_46 (fl_8 (j := 45) rfl rfl)
theorem dL_law_558 : decode cL_law 558 = .ok (.invokevirtual 44, 3) := fq3_182 (fl_8 (j := 46) rfl rfl) (fl_8 (j := 47) rfl rfl) (fl_8 (j := 48) rfl rfl) (by decide)
theorem dL_law_561 : decode cL_law 561 = .ok (.aload_n 2, 1) := fq1_44 (fl_8 (j := 49) rfl rfl)
theorem dL_law_562 : decode cL_law 562 = .ok (.aload_n 0, 1) := fq1_42 (fl_8 (j := 50) rfl rfl)
theorem dL_law_563 : decode cL_law 563 = .ok (.iload_n 3, 1) := fq1_29 (fl_8 (j := 51) rfl rfl)
theorem dL_law_564 : decode cL_law 564 = .ok (.iconst 1, 1) := fq1_4 (fl_8 (j := 52) rfl rfl)
theorem dL_law_565 : decode cL_law 565 = .ok (.iadd, 1) := fq1_96 (fl_8 (j := 53) rfl rfl)
theorem dL_law_566 : decode cL_law 566 = .ok (.iaload, 1) := fq1_46 (fl_8 (j := 54) rfl rfl)
theorem dL_law_567 : decode cL_law 567 = .ok (.aload_n 0, 1) := fq1_42 (fl_8 (j := 55) rfl rfl)
theorem dL_law_568 : decode cL_law 568 = .ok (.iload_n 3, 1) := fq1_29 (fl_8 (j := 56) rfl rfl)
theorem dL_law_569 : decode cL_law 569 = .ok (.iconst 2, 1) := fq1_5 (fl_8 (j := 57) rfl rfl)
theorem dL_law_570 : decode cL_law 570 = .ok (.iadd, 1) := fq1_96 (fl_8 (j := 58) rfl rfl)
theorem dL_law_571 : decode cL_law 571 = .ok (.iaload, 1) := fq1_46 (fl_8 (j := 59) rfl rfl)
theorem dL_law_572 : decode cL_law 572 = .ok (.aload_n 0, 1) := fq1_42 (fl_8 (j := 60) rfl rfl)
theorem dL_law_573 : decode cL_law 573 = .ok (.iload_n 3, 1) := fq1_29 (fl_8 (j := 61) rfl rfl)
theorem dL_law_574 : decode cL_law 574 = .ok (.iconst 3, 1) := fq1_6 (fl_8 (j := 62) rfl rfl)
theorem dL_law_575 : decode cL_law 575 = .ok (.iadd, 1) := fq1_96 (fl_8 (j := 63) rfl rfl)
theorem dL_law_576 : decode cL_law 576 = .ok (.iaload, 1) := fq1_46 (fl_9 (j := 0) rfl rfl)
theorem dL_law_577 : decode cL_law 577 = .ok (.aload_n 0, 1) := fq1_42 (fl_9 (j := 1) rfl rfl)
theorem dL_law_578 : decode cL_law 578 = .ok (.iload_n 3, 1) := fq1_29 (fl_9 (j := 2) rfl rfl)
theorem dL_law_579 : decode cL_law 579 = .ok (.iconst 4, 1) := fq1_7 (fl_9 (j := 3) rfl rfl)
theorem dL_law_580 : decode cL_law 580 = .ok (.iadd, 1) := fq1_96 (fl_9 (j := 4) rfl rfl)
theorem dL_law_581 : decode cL_law 581 = .ok (.iaload, 1) := fq1_46 (fl_9 (j := 5) rfl rfl)
theorem dL_law_582 : decode cL_law 582 = .ok (.aload_n 0, 1) := fq1_42 (fl_9 (j := 6) rfl rfl)
theorem dL_law_583 : decode cL_law 583 = .ok (.iload_n 3, 1) := fq1_29 (fl_9 (j := 7) rfl rfl)
theorem dL_law_584 : decode cL_law 584 = .ok (.iconst 5, 1) := fq1_8 (fl_9 (j := 8) rfl rfl)
theorem dL_law_585 : decode cL_law 585 = .ok (.iadd, 1) := fq1_96 (fl_9 (j := 9) rfl rfl)
theorem dL_law_586 : decode cL_law 586 = .ok (.iaload, 1) := fq1_46 (fl_9 (j := 10) rfl rfl)
theorem dL_law_587 : decode cL_law 587 = .ok (.invokevirtual 48, 3) := fq3_182 (fl_9 (j := 11) rfl rfl) (fl_9 (j := 12) rfl rfl) (fl_9 (j := 13) rfl rfl) (by decide)
theorem dL_law_590 : decode cL_law 590 = .ok (.if_icmp .eq 2256, 3) := by decide +kernel
theorem dL_law_595 : decode cL_law 595 = .ok (.aload_n 1, 1) := fq1_43 (fl_9 (j := 19) rfl rfl)
theorem dL_law_596 : decode cL_law 596 = .ok (.aload_n 0, 1) := fq1_42 (fl_9 (j := 20) rfl rfl)
theorem dL_law_597 : decode cL_law 597 = .ok (.iload_n 3, 1) := fq1_29 (fl_9 (j := 21) rfl rfl)
theorem dL_law_598 : decode cL_law 598 = .ok (.iconst 1, 1) := fq1_4 (fl_9 (j := 22) rfl rfl)
theorem dL_law_599 : decode cL_law 599 = .ok (.iadd, 1) := fq1_96 (fl_9 (j := 23) rfl rfl)
theorem dL_law_600 : decode cL_law 600 = .ok (.iaload, 1) := fq1_46 (fl_9 (j := 24) rfl rfl)
theorem dL_law_601 : decode cL_law 601 = .ok (.aload_n 0, 1) := fq1_42 (fl_9 (j := 25) rfl rfl)
theorem dL_law_602 : decode cL_law 602 = .ok (.iload_n 3, 1) := fq1_29 (fl_9 (j := 26) rfl rfl)
theorem dL_law_603 : decode cL_law 603 = .ok (.iconst 2, 1) := fq1_5 (fl_9 (j := 27) rfl rfl)
theorem dL_law_604 : decode cL_law 604 = .ok (.iadd, 1) := fq1_96 (fl_9 (j := 28) rfl rfl)
theorem dL_law_605 : decode cL_law 605 = .ok (.iaload, 1) := fq1_46 (fl_9 (j := 29) rfl rfl)
theorem dL_law_606 : decode cL_law 606 = .ok (.aload_n 0, 1) := fq1_42 (fl_9 (j := 30) rfl rfl)
theorem dL_law_607 : decode cL_law 607 = .ok (.iload_n 3, 1) := fq1_29 (fl_9 (j := 31) rfl rfl)
theorem dL_law_608 : decode cL_law 608 = .ok (.iconst 3, 1) := fq1_6 (fl_9 (j := 32) rfl rfl)
theorem dL_law_609 : decode cL_law 609 = .ok (.iadd, 1) := fq1_96 (fl_9 (j := 33) rfl rfl)
theorem dL_law_610 : decode cL_law 610 = .ok (.iaload, 1) := fq1_46 (fl_9 (j := 34) rfl rfl)
theorem dL_law_611 : decode cL_law 611 = .ok (.aload_n 0, 1) := fq1_42 (fl_9 (j := 35) rfl rfl)
theorem dL_law_612 : decode cL_law 612 = .ok (.iload_n 3, 1) := fq1_29 (fl_9 (j := 36) rfl rfl)
theorem dL_law_613 : decode cL_law 613 = .ok (.iconst 4, 1) := fq1_7 (fl_9 (j := 37) rfl rfl)
theorem dL_law_614 : decode cL_law 614 = .ok (.iadd, 1) := fq1_96 (fl_9 (j := 38) rfl rfl)
theorem dL_law_615 : decode cL_law 615 = .ok (.iaload, 1) := fq1_46 (fl_9 (j := 39) rfl rfl)
theorem dL_law_616 : decode cL_law 616 = .ok (.aload_n 0, 1) := fq1_42 (fl_9 (j := 40) rfl rfl)
theorem dL_law_617 : decode cL_law 617 = .ok (.iload_n 3, 1) := fq1_29 (fl_9 (j := 41) rfl rfl)
theorem dL_law_618 : decode cL_law 618 = .ok (.iconst 5, 1) := fq1_8 (fl_9 (j := 42) rfl rfl)
theorem dL_law_619 : decode cL_law 619 = .ok (.iadd, 1) := fq1_96 (fl_9 (j := 43) rfl rfl)
theorem dL_law_620 : decode cL_law 620 = .ok (.iaload, 1) := fq1_46 (fl_9 (j := 44) rfl rfl)
theorem dL_law_621 : decode cL_law 621 = .ok (.invokevirtual 49, 3) := fq3_182 (fl_9 (j := 45) rfl rfl) (fl_9 (j := 46) rfl rfl) (fl_9 (j := 47) rfl rfl) (by decide)
theorem dL_law_624 : decode cL_law 624 = .ok (.pop, 1) := fq1_87 (fl_9 (j := 48) rfl rfl)
theorem dL_law_625 : decode cL_law 625 = .ok (.aload_n 2, 1) := fq1_44 (fl_9 (j := 49) rfl rfl)
theorem dL_law_626 : decode cL_law 626 = .ok (.aload_n 0, 1) := fq1_42 (fl_9 (j := 50) rfl rfl)
theorem dL_law_627 : decode cL_law 627 = .ok (.iload_n 3, 1) := fq1_29 (fl_9 (j := 51) rfl rfl)
theorem dL_law_628 : decode cL_law 628 = .ok (.iconst 1, 1) := fq1_4 (fl_9 (j := 52) rfl rfl)
theorem dL_law_629 : decode cL_law 629 = .ok (.iadd, 1) := fq1_96 (fl_9 (j := 53) rfl rfl)
theorem dL_law_630 : decode cL_law 630 = .ok (.iaload, 1) := fq1_46 (fl_9 (j := 54) rfl rfl)
theorem dL_law_631 : decode cL_law 631 = .ok (.aload_n 0, 1) := fq1_42 (fl_9 (j := 55) rfl rfl)
theorem dL_law_632 : decode cL_law 632 = .ok (.iload_n 3, 1) := fq1_29 (fl_9 (j := 56) rfl rfl)
theorem dL_law_633 : decode cL_law 633 = .ok (.iconst 2, 1) := fq1_5 (fl_9 (j := 57) rfl rfl)
theorem dL_law_634 : decode cL_law 634 = .ok (.iadd, 1) := fq1_96 (fl_9 (j := 58) rfl rfl)
theorem dL_law_635 : decode cL_law 635 = .ok (.iaload, 1) := fq1_46 (fl_9 (j := 59) rfl rfl)
theorem dL_law_636 : decode cL_law 636 = .ok (.aload_n 0, 1) := fq1_42 (fl_9 (j := 60) rfl rfl)
theorem dL_law_637 : decode cL_law 637 = .ok (.iload_n 3, 1) := fq1_29 (fl_9 (j := 61) rfl rfl)
theorem dL_law_638 : decode cL_law 638 = .ok (.iconst 3, 1) := fq1_6 (fl_9 (j := 62) rfl rfl)
theorem dL_law_639 : decode cL_law 639 = .ok (.iadd, 1) := fq1_96 (fl_9 (j := 63) rfl rfl)
theorem dL_law_640 : decode cL_law 640 = .ok (.iaload, 1) := fq1_46 (fl_10 (j := 0) rfl rfl)
theorem dL_law_641 : decode cL_law 641 = .ok (.aload_n 0, 1) := fq1_42 (fl_10 (j := 1) rfl rfl)
theorem dL_law_642 : decode cL_law 642 = .ok (.iload_n 3, 1) := fq1_29 (fl_10 (j := 2) rfl rfl)
theorem dL_law_643 : decode cL_law 643 = .ok (.iconst 4, 1) := fq1_7 (fl_10 (j := 3) rfl rfl)
theorem dL_law_644 : decode cL_law 644 = .ok (.iadd, 1) := fq1_96 (fl_10 (j := 4) rfl rfl)
theorem dL_law_645 : decode cL_law 645 = .ok (.iaload, 1) := fq1_46 (fl_10 (j := 5) rfl rfl)
theorem dL_law_646 : decode cL_law 646 = .ok (.aload_n 0, 1) := fq1_42 (fl_10 (j := 6) rfl rfl)
theorem dL_law_647 : decode cL_law 647 = .ok (.iload_n 3, 1) := fq1_29 (fl_10 (j := 7) rfl rfl)
theorem dL_law_648 : decode cL_law 648 = .ok (.iconst 5, 1) := fq1_8 (fl_10 (j := 8) rfl rfl)
theorem dL_law_649 : decode cL_law 649 = .ok (.iadd, 1) := fq1_96 (fl_10 (j := 9) rfl rfl)
theorem dL_law_650 : decode cL_law 650 = .ok (.iaload, 1) := fq1_46 (fl_10 (j := 10) rfl rfl)
theorem dL_law_651 : decode cL_law 651 = .ok (.invokevirtual 53, 3) := fq3_182 (fl_10 (j := 11) rfl rfl) (fl_10 (j := 12) rfl rfl) (fl_10 (j := 13) rfl rfl) (by decide)
theorem dL_law_654 : decode cL_law 654 = .ok (.pop, 1) := fq1_87 (fl_10 (j := 14) rfl rfl)
theorem dL_law_655 : decode cL_law 655 = .ok (.goto 2191, 3) := fq3_167 (fl_10 (j := 15) rfl rfl) (fl_10 (j := 16) rfl rfl) (fl_10 (j := 17) rfl rfl) (by decide)
