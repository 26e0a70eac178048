theorem qc_X11_status : Cond.code yX11_status cX11_status 1 (some .int) ∈ gw := tbt (tb3 (List.mem_of_getElem? (i := 8) rfl)) rfl
theorem qi_yX11_status : Cond.instanceMethod yX11_status ∈ gw := tbt (tb3 (List.mem_of_getElem? (i := 6) rfl)) rfl
theorem qs_X11_status : Cond.selects (yX11_status).cls yX11_status yX11_status ∈ gw := tbt (tb3 (List.mem_of_getElem? (i := 7) rfl)) rfl
theorem ci_X11_status : CIv yX11_status cX11_status 1 (some .int) 0 := ⟨qc_X11_status, qi_yX11_status, qs_X11_status, qz_X11, by decide +kernel⟩
theorem qm_L_13 : Cond.methodLink RL 13 yX11_status ∈ gw := tbt (tb3 (List.mem_of_getElem? (i := 5) rfl)) rfl
theorem qc_X12_status : Cond.code yX12_status cX12_status 1 (some .int) ∈ gw := tbt (tb6 (List.mem_of_getElem? (i := 156) rfl)) rfl
theorem qi_yX12_status : Cond.instanceMethod yX12_status ∈ gw := tbt (tb6 (List.mem_of_getElem? (i := 154) rfl)) rfl
theorem qs_X12_status : Cond.selects (yX12_status).cls yX12_status yX12_status ∈ gw := tbt (tb6 (List.mem_of_getElem? (i := 155) rfl)) rfl
theorem ci_X12_status : CIv yX12_status cX12_status 1 (some .int) 0 := ⟨qc_X12_status, qi_yX12_status, qs_X12_status, qz_X12, by decide +kernel⟩
theorem qm_L_17 : Cond.methodLink RL 17 yX12_status ∈ gw := tbt (tb6 (List.mem_of_getElem? (i := 153) rfl)) rfl
theorem qc_X11_top : Cond.code yX11_top cX11_top 1 (some .long) ∈ gw := tbt (tb3 (List.mem_of_getElem? (i := 12) rfl)) rfl
theorem qi_yX11_top : Cond.instanceMethod yX11_top ∈ gw := tbt (tb3 (List.mem_of_getElem? (i := 10) rfl)) rfl
theorem qs_X11_top : Cond.selects (yX11_top).cls yX11_top yX11_top ∈ gw := tbt (tb3 (List.mem_of_getElem? (i := 11) rfl)) rfl
theorem ci_X11_top : CIv yX11_top cX11_top 1 (some .long) 0 := ⟨qc_X11_top, qi_yX11_top, qs_X11_top, qz_X11, by decide +kernel⟩
theorem qm_L_18 : Cond.methodLink RL 18 yX11_top ∈ gw := tbt (tb3 (List.mem_of_getElem? (i := 9) rfl)) rfl
theorem qc_X12_top : Cond.code yX12_top cX12_top 1 (some .long) ∈ gw := tbt (tb6 (List.mem_of_getElem? (i := 160) rfl)) rfl
theorem qi_yX12_top : Cond.instanceMethod yX12_top ∈ gw := tbt (tb6 (List.mem_of_getElem? (i := 158) rfl)) rfl
theorem qs_X12_top : Cond.selects (yX12_top).cls yX12_top yX12_top ∈ gw := tbt (tb6 (List.mem_of_getElem? (i := 159) rfl)) rfl
theorem ci_X12_top : CIv yX12_top cX12_top 1 (some .long) 0 := ⟨qc_X12_top, qi_yX12_top, qs_X12_top, qz_X12, by decide +kernel⟩
theorem qm_L_22 : Cond.methodLink RL 22 yX12_top ∈ gw := tbt (tb6 (List.mem_of_getElem? (i := 157) rfl)) rfl
theorem qc_X11_bottom : Cond.code yX11_bottom cX11_bottom 1 (some .long) ∈ gw := tbt (tb3 (List.mem_of_getElem? (i := 16) rfl)) rfl
theorem qi_yX11_bottom : Cond.instanceMethod yX11_bottom ∈ gw := tbt (tb3 (List.mem_of_getElem? (i := 14) rfl)) rfl
theorem qs_X11_bottom : Cond.selects (yX11_bottom).cls yX11_bottom yX11_bottom ∈ gw := tbt (tb3 (List.mem_of_getElem? (i := 15) rfl)) rfl
theorem ci_X11_bottom : CIv yX11_bottom cX11_bottom 1 (some .long) 0 := ⟨qc_X11_bottom, qi_yX11_bottom, qs_X11_bottom, qz_X11, by decide +kernel⟩
theorem qm_L_23 : Cond.methodLink RL 23 yX11_bottom ∈ gw := tbt (tb3 (List.mem_of_getElem? (i := 13) rfl)) rfl
theorem qc_X12_bottom : Cond.code yX12_bottom cX12_bottom 1 (some .long) ∈ gw := tbt (tb6 (List.mem_of_getElem? (i := 164) rfl)) rfl
theorem qi_yX12_bottom : Cond.instanceMethod yX12_bottom ∈ gw := tbt (tb6 (List.mem_of_getElem? (i := 162) rfl)) rfl
theorem qs_X12_bottom : Cond.selects (yX12_bottom).cls yX12_bottom yX12_bottom ∈ gw := tbt (tb6 (List.mem_of_getElem? (i := 163) rfl)) rfl
theorem ci_X12_bottom : CIv yX12_bottom cX12_bottom 1 (some .long) 0 := ⟨qc_X12_bottom, qi_yX12_bottom, qs_X12_bottom, qz_X12, by decide +kernel⟩
theorem qm_L_26 : Cond.methodLink RL 26 yX12_bottom ∈ gw := tbt (tb6 (List.mem_of_getElem? (i := 161) rfl)) rfl
theorem qc_X11_tray : Cond.code yX11_tray cX11_tray 4 (some .boolean) ∈ gw := tbt (tb3 (List.mem_of_getElem? (i := 20) rfl)) rfl
theorem qi_yX11_tray : Cond.instanceMethod yX11_tray ∈ gw := tbt (tb3 (List.mem_of_getElem? (i := 18) rfl)) rfl
theorem qs_X11_tray : Cond.selects (yX11_tray).cls yX11_tray yX11_tray ∈ gw := tbt (tb3 (List.mem_of_getElem? (i := 19) rfl)) rfl
theorem ci_X11_tray : CIv yX11_tray cX11_tray 4 (some .boolean) 3 := ⟨qc_X11_tray, qi_yX11_tray, qs_X11_tray, qz_X11, by decide +kernel⟩
theorem qm_L_27 : Cond.methodLink RL 27 yX11_tray ∈ gw := tbt (tb3 (List.mem_of_getElem? (i := 17) rfl)) rfl
theorem qc_X12_tray : Cond.code yX12_tray cX12_tray 5 (some .boolean) ∈ gw := tbt (tb6 (List.mem_of_getElem? (i := 168) rfl)) rfl
theorem qi_yX12_tray : Cond.instanceMethod yX12_tray ∈ gw := tbt (tb6 (List.mem_of_getElem? (i := 166) rfl)) rfl
theorem qs_X12_tray : Cond.selects (yX12_tray).cls yX12_tray yX12_tray ∈ gw := tbt (tb6 (List.mem_of_getElem? (i := 167) rfl)) rfl
theorem ci_X12_tray : CIv yX12_tray cX12_tray 5 (some .boolean) 3 := ⟨qc_X12_tray, qi_yX12_tray, qs_X12_tray, qz_X12, by decide +kernel⟩
theorem qm_L_31 : Cond.methodLink RL 31 yX12_tray ∈ gw := tbt (tb6 (List.mem_of_getElem? (i := 165) rfl)) rfl
theorem qk_L_32 : Cond.constantLong RL 32 (4294967295) ∈ gw := tbt (tb9 (List.mem_of_getElem? (i := 50) rfl)) rfl
theorem qc_X11_write : Cond.code yX11_write cX11_write 6 (some .boolean) ∈ gw := tbt (tb3 (List.mem_of_getElem? (i := 45) rfl)) rfl
theorem qi_yX11_write : Cond.instanceMethod yX11_write ∈ gw := tbt (tb3 (List.mem_of_getElem? (i := 43) rfl)) rfl
theorem qs_X11_write : Cond.selects (yX11_write).cls yX11_write yX11_write ∈ gw := tbt (tb3 (List.mem_of_getElem? (i := 44) rfl)) rfl
theorem ci_X11_write : CIv yX11_write cX11_write 6 (some .boolean) 3 := ⟨qc_X11_write, qi_yX11_write, qs_X11_write, qz_X11, by decide +kernel⟩
theorem qm_L_34 : Cond.methodLink RL 34 yX11_write ∈ gw := tbt (tb3 (List.mem_of_getElem? (i := 42) rfl)) rfl
theorem qc_X12_write : Cond.code yX12_write cX12_write 6 (some .boolean) ∈ gw := tbt (tb6 (List.mem_of_getElem? (i := 179) rfl)) rfl
theorem qi_yX12_write : Cond.instanceMethod yX12_write ∈ gw := tbt (tb6 (List.mem_of_getElem? (i := 177) rfl)) rfl
theorem qs_X12_write : Cond.selects (yX12_write).cls yX12_write yX12_write ∈ gw := tbt (tb6 (List.mem_of_getElem? (i := 178) rfl)) rfl
theorem ci_X12_write : CIv yX12_write cX12_write 6 (some .boolean) 3 := ⟨qc_X12_write, qi_yX12_write, qs_X12_write, qz_X12, by decide +kernel⟩
theorem qm_L_38 : Cond.methodLink RL 38 yX12_write ∈ gw := tbt (tb6 (List.mem_of_getElem? (i := 176) rfl)) rfl
theorem qc_X11_read : Cond.code yX11_read cX11_read 4 (some .long) ∈ gw := tbt (tb3 (List.mem_of_getElem? (i := 61) rfl)) rfl
theorem qi_yX11_read : Cond.instanceMethod yX11_read ∈ gw := tbt (tb3 (List.mem_of_getElem? (i := 59) rfl)) rfl
theorem qs_X11_read : Cond.selects (yX11_read).cls yX11_read yX11_read ∈ gw := tbt (tb3 (List.mem_of_getElem? (i := 60) rfl)) rfl
theorem ci_X11_read : CIv yX11_read cX11_read 4 (some .long) 2 := ⟨qc_X11_read, qi_yX11_read, qs_X11_read, qz_X11, by decide +kernel⟩
theorem qm_L_39 : Cond.methodLink RL 39 yX11_read ∈ gw := tbt (tb3 (List.mem_of_getElem? (i := 58) rfl)) rfl
theorem qc_X12_read : Cond.code yX12_read cX12_read 3 (some .long) ∈ gw := tbt (tb6 (List.mem_of_getElem? (i := 190) rfl)) rfl
theorem qi_yX12_read : Cond.instanceMethod yX12_read ∈ gw := tbt (tb6 (List.mem_of_getElem? (i := 188) rfl)) rfl
theorem qs_X12_read : Cond.selects (yX12_read).cls yX12_read yX12_read ∈ gw := tbt (tb6 (List.mem_of_getElem? (i := 189) rfl)) rfl
theorem ci_X12_read : CIv yX12_read cX12_read 3 (some .long) 2 := ⟨qc_X12_read, qi_yX12_read, qs_X12_read, qz_X12, by decide +kernel⟩
theorem qm_L_43 : Cond.methodLink RL 43 yX12_read ∈ gw := tbt (tb6 (List.mem_of_getElem? (i := 187) rfl)) rfl
theorem qc_X11_pour : Cond.code yX11_pour cX11_pour 8 (some .boolean) ∈ gw := tbt (tb3 (List.mem_of_getElem? (i := 69) rfl)) rfl
theorem qi_yX11_pour : Cond.instanceMethod yX11_pour ∈ gw := tbt (tb3 (List.mem_of_getElem? (i := 67) rfl)) rfl
theorem qs_X11_pour : Cond.selects (yX11_pour).cls yX11_pour yX11_pour ∈ gw := tbt (tb3 (List.mem_of_getElem? (i := 68) rfl)) rfl
theorem ci_X11_pour : CIv yX11_pour cX11_pour 8 (some .boolean) 5 := ⟨qc_X11_pour, qi_yX11_pour, qs_X11_pour, qz_X11, by decide +kernel⟩
theorem qm_L_44 : Cond.methodLink RL 44 yX11_pour ∈ gw := tbt (tb3 (List.mem_of_getElem? (i := 66) rfl)) rfl
theorem qc_X12_pour : Cond.code yX12_pour cX12_pour 8 (some .boolean) ∈ gw := tbt (tb6 (List.mem_of_getElem? (i := 195) rfl)) rfl
theorem qi_yX12_pour : Cond.instanceMethod yX12_pour ∈ gw := tbt (tb6 (List.mem_of_getElem? (i := 193) rfl)) rfl
theorem qs_X12_pour : Cond.selects (yX12_pour).cls yX12_pour yX12_pour ∈ gw := tbt (tb6 (List.mem_of_getElem? (i := 194) rfl)) rfl
theorem ci_X12_pour : CIv yX12_pour cX12_pour 8 (some .boolean) 5 := ⟨qc_X12_pour, qi_yX12_pour, qs_X12_pour, qz_X12, by decide +kernel⟩
theorem qm_L_48 : Cond.methodLink RL 48 yX12_pour ∈ gw := tbt (tb6 (List.mem_of_getElem? (i := 192) rfl)) rfl
theorem qc_X11_feed : Cond.code yX11_feed cX11_feed 6 (some .int) ∈ gw := tbt (tb3 (List.mem_of_getElem? (i := 80) rfl)) rfl
theorem qi_yX11_feed : Cond.instanceMethod yX11_feed ∈ gw := tbt (tb3 (List.mem_of_getElem? (i := 78) rfl)) rfl
theorem qs_X11_feed : Cond.selects (yX11_feed).cls yX11_feed yX11_feed ∈ gw := tbt (tb3 (List.mem_of_getElem? (i := 79) rfl)) rfl
theorem ci_X11_feed : CIv yX11_feed cX11_feed 6 (some .int) 5 := ⟨qc_X11_feed, qi_yX11_feed, qs_X11_feed, qz_X11, by decide +kernel⟩
theorem qm_L_49 : Cond.methodLink RL 49 yX11_feed ∈ gw := tbt (tb3 (List.mem_of_getElem? (i := 77) rfl)) rfl
theorem qc_X12_feed : Cond.code yX12_feed cX12_feed 6 (some .int) ∈ gw := tbt (tb6 (List.mem_of_getElem? (i := 199) rfl)) rfl
theorem qi_yX12_feed : Cond.instanceMethod yX12_feed ∈ gw := tbt (tb6 (List.mem_of_getElem? (i := 197) rfl)) rfl
theorem qs_X12_feed : Cond.selects (yX12_feed).cls yX12_feed yX12_feed ∈ gw := tbt (tb6 (List.mem_of_getElem? (i := 198) rfl)) rfl
theorem ci_X12_feed : CIv yX12_feed cX12_feed 6 (some .int) 5 := ⟨qc_X12_feed, qi_yX12_feed, qs_X12_feed, qz_X12, by decide +kernel⟩
theorem qm_L_53 : Cond.methodLink RL 53 yX12_feed ∈ gw := tbt (tb6 (List.mem_of_getElem? (i := 196) rfl)) rfl
theorem qc_X11_sky : Cond.code yX11_sky cX11_sky 3 (some .int) ∈ gw := tbt (tb3 (List.mem_of_getElem? (i := 88) rfl)) rfl
theorem qi_yX11_sky : Cond.instanceMethod yX11_sky ∈ gw := tbt (tb3 (List.mem_of_getElem? (i := 86) rfl)) rfl
theorem qs_X11_sky : Cond.selects (yX11_sky).cls yX11_sky yX11_sky ∈ gw := tbt (tb3 (List.mem_of_getElem? (i := 87) rfl)) rfl
theorem ci_X11_sky : CIv yX11_sky cX11_sky 3 (some .int) 1 := ⟨qc_X11_sky, qi_yX11_sky, qs_X11_sky, qz_X11, by decide +kernel⟩
theorem qm_L_54 : Cond.methodLink RL 54 yX11_sky ∈ gw := tbt (tb3 (List.mem_of_getElem? (i := 85) rfl)) rfl
theorem qc_X12_sky : Cond.code yX12_sky cX12_sky 4 (some .int) ∈ gw := tbt (tb6 (List.mem_of_getElem? (i := 211) rfl)) rfl
theorem qi_yX12_sky : Cond.instanceMethod yX12_sky ∈ gw := tbt (tb6 (List.mem_of_getElem? (i := 209) rfl)) rfl
theorem qs_X12_sky : Cond.selects (yX12_sky).cls yX12_sky yX12_sky ∈ gw := tbt (tb6 (List.mem_of_getElem? (i := 210) rfl)) rfl
theorem ci_X12_sky : CIv yX12_sky cX12_sky 4 (some .int) 1 := ⟨qc_X12_sky, qi_yX12_sky, qs_X12_sky, qz_X12, by decide +kernel⟩
theorem qm_L_58 : Cond.methodLink RL 58 yX12_sky ∈ gw := tbt (tb6 (List.mem_of_getElem? (i := 208) rfl)) rfl
theorem qc_X11_years : Cond.code yX11_years cX11_years 3 (some .int) ∈ gw := tbt (tb3 (List.mem_of_getElem? (i := 208) rfl)) rfl
theorem qi_yX11_years : Cond.instanceMethod yX11_years ∈ gw := tbt (tb3 (List.mem_of_getElem? (i := 206) rfl)) rfl
theorem qs_X11_years : Cond.selects (yX11_years).cls yX11_years yX11_years ∈ gw := tbt (tb3 (List.mem_of_getElem? (i := 207) rfl)) rfl
theorem ci_X11_years : CIv yX11_years cX11_years 3 (some .int) 1 := ⟨qc_X11_years, qi_yX11_years, qs_X11_years, qz_X11, by decide +kernel⟩
theorem qm_L_59 : Cond.methodLink RL 59 yX11_years ∈ gw := tbt (tb3 (List.mem_of_getElem? (i := 205) rfl)) rfl
theorem qc_X12_years : Cond.code yX12_years cX12_years 4 (some .int) ∈ gw := tbt (tb7 (List.mem_of_getElem? (i := 70) rfl)) rfl
theorem qi_yX12_years : Cond.instanceMethod yX12_years ∈ gw := tbt (tb7 (List.mem_of_getElem? (i := 68) rfl)) rfl
theorem qs_X12_years : Cond.selects (yX12_years).cls yX12_years yX12_years ∈ gw := tbt (tb7 (List.mem_of_getElem? (i := 69) rfl)) rfl
theorem ci_X12_years : CIv yX12_years cX12_years 4 (some .int) 1 := ⟨qc_X12_years, qi_yX12_years, qs_X12_years, qz_X12, by decide +kernel⟩
theorem qm_L_62 : Cond.methodLink RL 62 yX12_years ∈ gw := tbt (tb7 (List.mem_of_getElem? (i := 67) rfl)) rfl
theorem qc_X11_fault : Cond.code yX11_fault cX11_fault 2 (some .int) ∈ gw := tbt (tb4 (List.mem_of_getElem? (i := 16) rfl)) rfl
theorem qi_yX11_fault : Cond.instanceMethod yX11_fault ∈ gw := tbt (tb4 (List.mem_of_getElem? (i := 14) rfl)) rfl
theorem qs_X11_fault : Cond.selects (yX11_fault).cls yX11_fault yX11_fault ∈ gw := tbt (tb4 (List.mem_of_getElem? (i := 15) rfl)) rfl
theorem ci_X11_fault : CIv yX11_fault cX11_fault 2 (some .int) 1 := ⟨qc_X11_fault, qi_yX11_fault, qs_X11_fault, qz_X11, by decide +kernel⟩
theorem qm_L_63 : Cond.methodLink RL 63 yX11_fault ∈ gw := tbt (tb4 (List.mem_of_getElem? (i := 13) rfl)) rfl
theorem qc_X12_fault : Cond.code yX12_fault cX12_fault 2 (some .int) ∈ gw := tbt (tb6 (List.mem_of_getElem? (i := 207) rfl)) rfl
theorem qi_yX12_fault : Cond.instanceMethod yX12_fault ∈ gw := tbt (tb6 (List.mem_of_getElem? (i := 205) rfl)) rfl
theorem qs_X12_fault : Cond.selects (yX12_fault).cls yX12_fault yX12_fault ∈ gw := tbt (tb6 (List.mem_of_getElem? (i := 206) rfl)) rfl
theorem ci_X12_fault : CIv yX12_fault cX12_fault 2 (some .int) 1 := ⟨qc_X12_fault, qi_yX12_fault, qs_X12_fault, qz_X12, by decide +kernel⟩
theorem qm_L_66 : Cond.methodLink RL 66 yX12_fault ∈ gw := tbt (tb6 (List.mem_of_getElem? (i := 204) rfl)) rfl
theorem qc_X11_told : Cond.code yX11_told cX11_told 2 (some .int) ∈ gw := tbt (tb4 (List.mem_of_getElem? (i := 20) rfl)) rfl
theorem qi_yX11_told : Cond.instanceMethod yX11_told ∈ gw := tbt (tb4 (List.mem_of_getElem? (i := 18) rfl)) rfl
theorem qs_X11_told : Cond.selects (yX11_told).cls yX11_told yX11_told ∈ gw := tbt (tb4 (List.mem_of_getElem? (i := 19) rfl)) rfl
theorem ci_X11_told : CIv yX11_told cX11_told 2 (some .int) 1 := ⟨qc_X11_told, qi_yX11_told, qs_X11_told, qz_X11, by decide +kernel⟩
theorem qm_L_67 : Cond.methodLink RL 67 yX11_told ∈ gw := tbt (tb4 (List.mem_of_getElem? (i := 17) rfl)) rfl
theorem qc_X12_told : Cond.code yX12_told cX12_told 2 (some .int) ∈ gw := tbt (tb7 (List.mem_of_getElem? (i := 90) rfl)) rfl
theorem qi_yX12_told : Cond.instanceMethod yX12_told ∈ gw := tbt (tb7 (List.mem_of_getElem? (i := 88) rfl)) rfl
theorem qs_X12_told : Cond.selects (yX12_told).cls yX12_told yX12_told ∈ gw := tbt (tb7 (List.mem_of_getElem? (i := 89) rfl)) rfl
theorem ci_X12_told : CIv yX12_told cX12_told 2 (some .int) 1 := ⟨qc_X12_told, qi_yX12_told, qs_X12_told, qz_X12, by decide +kernel⟩
theorem qm_L_70 : Cond.methodLink RL 70 yX12_told ∈ gw := tbt (tb7 (List.mem_of_getElem? (i := 87) rfl)) rfl
theorem qc_X11_rock : Cond.code yX11_rock cX11_rock 3 (some .int) ∈ gw := tbt (tb4 (List.mem_of_getElem? (i := 28) rfl)) rfl
theorem qi_yX11_rock : Cond.instanceMethod yX11_rock ∈ gw := tbt (tb4 (List.mem_of_getElem? (i := 26) rfl)) rfl
theorem qs_X11_rock : Cond.selects (yX11_rock).cls yX11_rock yX11_rock ∈ gw := tbt (tb4 (List.mem_of_getElem? (i := 27) rfl)) rfl
theorem ci_X11_rock : CIv yX11_rock cX11_rock 3 (some .int) 2 := ⟨qc_X11_rock, qi_yX11_rock, qs_X11_rock, qz_X11, by decide +kernel⟩
theorem qm_L_71 : Cond.methodLink RL 71 yX11_rock ∈ gw := tbt (tb4 (List.mem_of_getElem? (i := 25) rfl)) rfl
theorem qc_X12_rock : Cond.code yX12_rock cX12_rock 3 (some .int) ∈ gw := tbt (tb7 (List.mem_of_getElem? (i := 94) rfl)) rfl
theorem qi_yX12_rock : Cond.instanceMethod yX12_rock ∈ gw := tbt (tb7 (List.mem_of_getElem? (i := 92) rfl)) rfl
theorem qs_X12_rock : Cond.selects (yX12_rock).cls yX12_rock yX12_rock ∈ gw := tbt (tb7 (List.mem_of_getElem? (i := 93) rfl)) rfl
theorem ci_X12_rock : CIv yX12_rock cX12_rock 3 (some .int) 2 := ⟨qc_X12_rock, qi_yX12_rock, qs_X12_rock, qz_X12, by decide +kernel⟩
theorem qm_L_75 : Cond.methodLink RL 75 yX12_rock ∈ gw := tbt (tb7 (List.mem_of_getElem? (i := 91) rfl)) rfl
theorem qc_X11_ice : Cond.code yX11_ice cX11_ice 3 (some .int) ∈ gw := tbt (tb4 (List.mem_of_getElem? (i := 40) rfl)) rfl
theorem qi_yX11_ice : Cond.instanceMethod yX11_ice ∈ gw := tbt (tb4 (List.mem_of_getElem? (i := 38) rfl)) rfl
theorem qs_X11_ice : Cond.selects (yX11_ice).cls yX11_ice yX11_ice ∈ gw := tbt (tb4 (List.mem_of_getElem? (i := 39) rfl)) rfl
theorem ci_X11_ice : CIv yX11_ice cX11_ice 3 (some .int) 2 := ⟨qc_X11_ice, qi_yX11_ice, qs_X11_ice, qz_X11, by decide +kernel⟩
theorem qm_L_76 : Cond.methodLink RL 76 yX11_ice ∈ gw := tbt (tb4 (List.mem_of_getElem? (i := 37) rfl)) rfl
theorem qc_X12_ice : Cond.code yX12_ice cX12_ice 3 (some .int) ∈ gw := tbt (tb7 (List.mem_of_getElem? (i := 105) rfl)) rfl
theorem qi_yX12_ice : Cond.instanceMethod yX12_ice ∈ gw := tbt (tb7 (List.mem_of_getElem? (i := 103) rfl)) rfl
theorem qs_X12_ice : Cond.selects (yX12_ice).cls yX12_ice yX12_ice ∈ gw := tbt (tb7 (List.mem_of_getElem? (i := 104) rfl)) rfl
theorem ci_X12_ice : CIv yX12_ice cX12_ice 3 (some .int) 2 := ⟨qc_X12_ice, qi_yX12_ice, qs_X12_ice, qz_X12, by decide +kernel⟩
theorem qm_L_79 : Cond.methodLink RL 79 yX12_ice ∈ gw := tbt (tb7 (List.mem_of_getElem? (i := 102) rfl)) rfl
theorem qc_X11_direction : Cond.code yX11_direction cX11_direction 3 (some .int) ∈ gw := tbt (tb4 (List.mem_of_getElem? (i := 44) rfl)) rfl
theorem qi_yX11_direction : Cond.instanceMethod yX11_direction ∈ gw := tbt (tb4 (List.mem_of_getElem? (i := 42) rfl)) rfl
theorem qs_X11_direction : Cond.selects (yX11_direction).cls yX11_direction yX11_direction ∈ gw := tbt (tb4 (List.mem_of_getElem? (i := 43) rfl)) rfl
theorem ci_X11_direction : CIv yX11_direction cX11_direction 3 (some .int) 2 := ⟨qc_X11_direction, qi_yX11_direction, qs_X11_direction, qz_X11, by decide +kernel⟩
theorem qm_L_80 : Cond.methodLink RL 80 yX11_direction ∈ gw := tbt (tb4 (List.mem_of_getElem? (i := 41) rfl)) rfl
theorem qc_X12_direction : Cond.code yX12_direction cX12_direction 3 (some .int) ∈ gw := tbt (tb7 (List.mem_of_getElem? (i := 109) rfl)) rfl
theorem qi_yX12_direction : Cond.instanceMethod yX12_direction ∈ gw := tbt (tb7 (List.mem_of_getElem? (i := 107) rfl)) rfl
theorem qs_X12_direction : Cond.selects (yX12_direction).cls yX12_direction yX12_direction ∈ gw := tbt (tb7 (List.mem_of_getElem? (i := 108) rfl)) rfl
theorem ci_X12_direction : CIv yX12_direction cX12_direction 3 (some .int) 2 := ⟨qc_X12_direction, qi_yX12_direction, qs_X12_direction, qz_X12, by decide +kernel⟩
theorem qm_L_83 : Cond.methodLink RL 83 yX12_direction ∈ gw := tbt (tb7 (List.mem_of_getElem? (i := 106) rfl)) rfl
theorem qc_X11_light : Cond.code yX11_light cX11_light 5 (some .int) ∈ gw := tbt (tb4 (List.mem_of_getElem? (i := 52) rfl)) rfl
theorem qi_yX11_light : Cond.instanceMethod yX11_light ∈ gw := tbt (tb4 (List.mem_of_getElem? (i := 50) rfl)) rfl
theorem qs_X11_light : Cond.selects (yX11_light).cls yX11_light yX11_light ∈ gw := tbt (tb4 (List.mem_of_getElem? (i := 51) rfl)) rfl
theorem ci_X11_light : CIv yX11_light cX11_light 5 (some .int) 4 := ⟨qc_X11_light, qi_yX11_light, qs_X11_light, qz_X11, by decide +kernel⟩
theorem qm_L_84 : Cond.methodLink RL 84 yX11_light ∈ gw := tbt (tb4 (List.mem_of_getElem? (i := 49) rfl)) rfl
theorem qc_X12_light : Cond.code yX12_light cX12_light 5 (some .int) ∈ gw := tbt (tb7 (List.mem_of_getElem? (i := 120) rfl)) rfl
theorem qi_yX12_light : Cond.instanceMethod yX12_light ∈ gw := tbt (tb7 (List.mem_of_getElem? (i := 118) rfl)) rfl
theorem qs_X12_light : Cond.selects (yX12_light).cls yX12_light yX12_light ∈ gw := tbt (tb7 (List.mem_of_getElem? (i := 119) rfl)) rfl
theorem ci_X12_light : CIv yX12_light cX12_light 5 (some .int) 4 := ⟨qc_X12_light, qi_yX12_light, qs_X12_light, qz_X12, by decide +kernel⟩
theorem qm_L_88 : Cond.methodLink RL 88 yX12_light ∈ gw := tbt (tb7 (List.mem_of_getElem? (i := 117) rfl)) rfl
theorem qc_X11_iced : Cond.code yX11_iced cX11_iced 4 (some .int) ∈ gw := tbt (tb4 (List.mem_of_getElem? (i := 65) rfl)) rfl
theorem qi_yX11_iced : Cond.instanceMethod yX11_iced ∈ gw := tbt (tb4 (List.mem_of_getElem? (i := 63) rfl)) rfl
theorem qs_X11_iced : Cond.selects (yX11_iced).cls yX11_iced yX11_iced ∈ gw := tbt (tb4 (List.mem_of_getElem? (i := 64) rfl)) rfl
theorem ci_X11_iced : CIv yX11_iced cX11_iced 4 (some .int) 3 := ⟨qc_X11_iced, qi_yX11_iced, qs_X11_iced, qz_X11, by decide +kernel⟩
theorem qm_L_89 : Cond.methodLink RL 89 yX11_iced ∈ gw := tbt (tb4 (List.mem_of_getElem? (i := 62) rfl)) rfl
theorem qc_X12_iced : Cond.code yX12_iced cX12_iced 4 (some .int) ∈ gw := tbt (tb7 (List.mem_of_getElem? (i := 132) rfl)) rfl
theorem qi_yX12_iced : Cond.instanceMethod yX12_iced ∈ gw := tbt (tb7 (List.mem_of_getElem? (i := 130) rfl)) rfl
theorem qs_X12_iced : Cond.selects (yX12_iced).cls yX12_iced yX12_iced ∈ gw := tbt (tb7 (List.mem_of_getElem? (i := 131) rfl)) rfl
theorem ci_X12_iced : CIv yX12_iced cX12_iced 4 (some .int) 3 := ⟨qc_X12_iced, qi_yX12_iced, qs_X12_iced, qz_X12, by decide +kernel⟩
theorem qm_L_93 : Cond.methodLink RL 93 yX12_iced ∈ gw := tbt (tb7 (List.mem_of_getElem? (i := 129) rfl)) rfl
theorem qc_X11_arrives : Cond.code yX11_arrives cX11_arrives 4 (some .int) ∈ gw := tbt (tb4 (List.mem_of_getElem? (i := 80) rfl)) rfl
theorem qi_yX11_arrives : Cond.instanceMethod yX11_arrives ∈ gw := tbt (tb4 (List.mem_of_getElem? (i := 78) rfl)) rfl
theorem qs_X11_arrives : Cond.selects (yX11_arrives).cls yX11_arrives yX11_arrives ∈ gw := tbt (tb4 (List.mem_of_getElem? (i := 79) rfl)) rfl
theorem ci_X11_arrives : CIv yX11_arrives cX11_arrives 4 (some .int) 3 := ⟨qc_X11_arrives, qi_yX11_arrives, qs_X11_arrives, qz_X11, by decide +kernel⟩
theorem qm_L_94 : Cond.methodLink RL 94 yX11_arrives ∈ gw := tbt (tb4 (List.mem_of_getElem? (i := 77) rfl)) rfl
theorem qc_X12_arrives : Cond.code yX12_arrives cX12_arrives 4 (some .int) ∈ gw := tbt (tb7 (List.mem_of_getElem? (i := 147) rfl)) rfl
theorem qi_yX12_arrives : Cond.instanceMethod yX12_arrives ∈ gw := tbt (tb7 (List.mem_of_getElem? (i := 145) rfl)) rfl
theorem qs_X12_arrives : Cond.selects (yX12_arrives).cls yX12_arrives yX12_arrives ∈ gw := tbt (tb7 (List.mem_of_getElem? (i := 146) rfl)) rfl
theorem ci_X12_arrives : CIv yX12_arrives cX12_arrives 4 (some .int) 3 := ⟨qc_X12_arrives, qi_yX12_arrives, qs_X12_arrives, qz_X12, by decide +kernel⟩
theorem qm_L_97 : Cond.methodLink RL 97 yX12_arrives ∈ gw := tbt (tb7 (List.mem_of_getElem? (i := 144) rfl)) rfl
theorem qc_X11_ship : Cond.code yX11_ship cX11_ship 4 (some .int) ∈ gw := tbt (tb4 (List.mem_of_getElem? (i := 99) rfl)) rfl
theorem qi_yX11_ship : Cond.instanceMethod yX11_ship ∈ gw := tbt (tb4 (List.mem_of_getElem? (i := 97) rfl)) rfl
theorem qs_X11_ship : Cond.selects (yX11_ship).cls yX11_ship yX11_ship ∈ gw := tbt (tb4 (List.mem_of_getElem? (i := 98) rfl)) rfl
theorem ci_X11_ship : CIv yX11_ship cX11_ship 4 (some .int) 3 := ⟨qc_X11_ship, qi_yX11_ship, qs_X11_ship, qz_X11, by decide +kernel⟩
theorem qm_L_98 : Cond.methodLink RL 98 yX11_ship ∈ gw := tbt (tb4 (List.mem_of_getElem? (i := 96) rfl)) rfl
theorem qc_X12_ship : Cond.code yX12_ship cX12_ship 4 (some .int) ∈ gw := tbt (tb7 (List.mem_of_getElem? (i := 168) rfl)) rfl
theorem qi_yX12_ship : Cond.instanceMethod yX12_ship ∈ gw := tbt (tb7 (List.mem_of_getElem? (i := 166) rfl)) rfl
theorem qs_X12_ship : Cond.selects (yX12_ship).cls yX12_ship yX12_ship ∈ gw := tbt (tb7 (List.mem_of_getElem? (i := 167) rfl)) rfl
theorem ci_X12_ship : CIv yX12_ship cX12_ship 4 (some .int) 3 := ⟨qc_X12_ship, qi_yX12_ship, qs_X12_ship, qz_X12, by decide +kernel⟩
theorem qm_L_101 : Cond.methodLink RL 101 yX12_ship ∈ gw := tbt (tb7 (List.mem_of_getElem? (i := 165) rfl)) rfl
theorem qc_X11_sees : Cond.code yX11_sees cX11_sees 4 (some .int) ∈ gw := tbt (tb4 (List.mem_of_getElem? (i := 107) rfl)) rfl
theorem qi_yX11_sees : Cond.instanceMethod yX11_sees ∈ gw := tbt (tb4 (List.mem_of_getElem? (i := 105) rfl)) rfl
theorem qs_X11_sees : Cond.selects (yX11_sees).cls yX11_sees yX11_sees ∈ gw := tbt (tb4 (List.mem_of_getElem? (i := 106) rfl)) rfl
theorem ci_X11_sees : CIv yX11_sees cX11_sees 4 (some .int) 3 := ⟨qc_X11_sees, qi_yX11_sees, qs_X11_sees, qz_X11, by decide +kernel⟩
theorem qm_L_102 : Cond.methodLink RL 102 yX11_sees ∈ gw := tbt (tb4 (List.mem_of_getElem? (i := 104) rfl)) rfl
theorem qc_X12_sees : Cond.code yX12_sees cX12_sees 4 (some .int) ∈ gw := tbt (tb7 (List.mem_of_getElem? (i := 172) rfl)) rfl
theorem qi_yX12_sees : Cond.instanceMethod yX12_sees ∈ gw := tbt (tb7 (List.mem_of_getElem? (i := 170) rfl)) rfl
theorem qs_X12_sees : Cond.selects (yX12_sees).cls yX12_sees yX12_sees ∈ gw := tbt (tb7 (List.mem_of_getElem? (i := 171) rfl)) rfl
theorem ci_X12_sees : CIv yX12_sees cX12_sees 4 (some .int) 3 := ⟨qc_X12_sees, qi_yX12_sees, qs_X12_sees, qz_X12, by decide +kernel⟩
theorem qm_L_105 : Cond.methodLink RL 105 yX12_sees ∈ gw := tbt (tb7 (List.mem_of_getElem? (i := 169) rfl)) rfl
theorem qc_X11_nearest : Cond.code yX11_nearest cX11_nearest 7 (some .int) ∈ gw := tbt (tb4 (List.mem_of_getElem? (i := 119) rfl)) rfl
theorem qi_yX11_nearest : Cond.instanceMethod yX11_nearest ∈ gw := tbt (tb4 (List.mem_of_getElem? (i := 117) rfl)) rfl
theorem qs_X11_nearest : Cond.selects (yX11_nearest).cls yX11_nearest yX11_nearest ∈ gw := tbt (tb4 (List.mem_of_getElem? (i := 118) rfl)) rfl
theorem ci_X11_nearest : CIv yX11_nearest cX11_nearest 7 (some .int) 2 := ⟨qc_X11_nearest, qi_yX11_nearest, qs_X11_nearest, qz_X11, by decide +kernel⟩
theorem qm_L_106 : Cond.methodLink RL 106 yX11_nearest ∈ gw := tbt (tb4 (List.mem_of_getElem? (i := 116) rfl)) rfl
theorem qc_X12_nearest : Cond.code yX12_nearest cX12_nearest 5 (some .int) ∈ gw := tbt (tb7 (List.mem_of_getElem? (i := 184) rfl)) rfl
theorem qi_yX12_nearest : Cond.instanceMethod yX12_nearest ∈ gw := tbt (tb7 (List.mem_of_getElem? (i := 182) rfl)) rfl
theorem qs_X12_nearest : Cond.selects (yX12_nearest).cls yX12_nearest yX12_nearest ∈ gw := tbt (tb7 (List.mem_of_getElem? (i := 183) rfl)) rfl
theorem ci_X12_nearest : CIv yX12_nearest cX12_nearest 5 (some .int) 2 := ⟨qc_X12_nearest, qi_yX12_nearest, qs_X12_nearest, qz_X12, by decide +kernel⟩
theorem qm_L_109 : Cond.methodLink RL 109 yX12_nearest ∈ gw := tbt (tb7 (List.mem_of_getElem? (i := 181) rfl)) rfl
theorem qc_X11_meetings : Cond.code yX11_meetings cX11_meetings 7 (some .int) ∈ gw := tbt (tb4 (List.mem_of_getElem? (i := 123) rfl)) rfl
theorem qi_yX11_meetings : Cond.instanceMethod yX11_meetings ∈ gw := tbt (tb4 (List.mem_of_getElem? (i := 121) rfl)) rfl
theorem qs_X11_meetings : Cond.selects (yX11_meetings).cls yX11_meetings yX11_meetings ∈ gw := tbt (tb4 (List.mem_of_getElem? (i := 122) rfl)) rfl
theorem ci_X11_meetings : CIv yX11_meetings cX11_meetings 7 (some .int) 4 := ⟨qc_X11_meetings, qi_yX11_meetings, qs_X11_meetings, qz_X11, by decide +kernel⟩
theorem qm_L_110 : Cond.methodLink RL 110 yX11_meetings ∈ gw := tbt (tb4 (List.mem_of_getElem? (i := 120) rfl)) rfl
theorem qc_X12_meetings : Cond.code yX12_meetings cX12_meetings 7 (some .int) ∈ gw := tbt (tb7 (List.mem_of_getElem? (i := 188) rfl)) rfl
theorem qi_yX12_meetings : Cond.instanceMethod yX12_meetings ∈ gw := tbt (tb7 (List.mem_of_getElem? (i := 186) rfl)) rfl
theorem qs_X12_meetings : Cond.selects (yX12_meetings).cls yX12_meetings yX12_meetings ∈ gw := tbt (tb7 (List.mem_of_getElem? (i := 187) rfl)) rfl
theorem ci_X12_meetings : CIv yX12_meetings cX12_meetings 7 (some .int) 4 := ⟨qc_X12_meetings, qi_yX12_meetings, qs_X12_meetings, qz_X12, by decide +kernel⟩
theorem qm_L_113 : Cond.methodLink RL 113 yX12_meetings ∈ gw := tbt (tb7 (List.mem_of_getElem? (i := 185) rfl)) rfl
theorem qc_X11_span : Cond.code yX11_span cX11_span 5 (some .int) ∈ gw := tbt (tb4 (List.mem_of_getElem? (i := 127) rfl)) rfl
theorem qi_yX11_span : Cond.instanceMethod yX11_span ∈ gw := tbt (tb4 (List.mem_of_getElem? (i := 125) rfl)) rfl
theorem qs_X11_span : Cond.selects (yX11_span).cls yX11_span yX11_span ∈ gw := tbt (tb4 (List.mem_of_getElem? (i := 126) rfl)) rfl
theorem ci_X11_span : CIv yX11_span cX11_span 5 (some .int) 1 := ⟨qc_X11_span, qi_yX11_span, qs_X11_span, qz_X11, by decide +kernel⟩
theorem qm_L_114 : Cond.methodLink RL 114 yX11_span ∈ gw := tbt (tb4 (List.mem_of_getElem? (i := 124) rfl)) rfl
theorem qc_X12_span : Cond.code yX12_span cX12_span 5 (some .int) ∈ gw := tbt (tb7 (List.mem_of_getElem? (i := 200) rfl)) rfl
theorem qi_yX12_span : Cond.instanceMethod yX12_span ∈ gw := tbt (tb7 (List.mem_of_getElem? (i := 198) rfl)) rfl
theorem qs_X12_span : Cond.selects (yX12_span).cls yX12_span yX12_span ∈ gw := tbt (tb7 (List.mem_of_getElem? (i := 199) rfl)) rfl
theorem ci_X12_span : CIv yX12_span cX12_span 5 (some .int) 1 := ⟨qc_X12_span, qi_yX12_span, qs_X12_span, qz_X12, by decide +kernel⟩
theorem qm_L_117 : Cond.methodLink RL 117 yX12_span ∈ gw := tbt (tb7 (List.mem_of_getElem? (i := 197) rfl)) rfl
theorem qc_X11_stale : Cond.code yX11_stale cX11_stale 5 (some .int) ∈ gw := tbt (tb4 (List.mem_of_getElem? (i := 132) rfl)) rfl
theorem qi_yX11_stale : Cond.instanceMethod yX11_stale ∈ gw := tbt (tb4 (List.mem_of_getElem? (i := 130) rfl)) rfl
theorem qs_X11_stale : Cond.selects (yX11_stale).cls yX11_stale yX11_stale ∈ gw := tbt (tb4 (List.mem_of_getElem? (i := 131) rfl)) rfl
theorem ci_X11_stale : CIv yX11_stale cX11_stale 5 (some .int) 3 := ⟨qc_X11_stale, qi_yX11_stale, qs_X11_stale, qz_X11, by decide +kernel⟩
theorem qm_L_118 : Cond.methodLink RL 118 yX11_stale ∈ gw := tbt (tb4 (List.mem_of_getElem? (i := 129) rfl)) rfl
theorem qc_X12_stale : Cond.code yX12_stale cX12_stale 5 (some .int) ∈ gw := tbt (tb7 (List.mem_of_getElem? (i := 204) rfl)) rfl
theorem qi_yX12_stale : Cond.instanceMethod yX12_stale ∈ gw := tbt (tb7 (List.mem_of_getElem? (i := 202) rfl)) rfl
theorem qs_X12_stale : Cond.selects (yX12_stale).cls yX12_stale yX12_stale ∈ gw := tbt (tb7 (List.mem_of_getElem? (i := 203) rfl)) rfl
theorem ci_X12_stale : CIv yX12_stale cX12_stale 5 (some .int) 3 := ⟨qc_X12_stale, qi_yX12_stale, qs_X12_stale, qz_X12, by decide +kernel⟩
theorem qm_L_121 : Cond.methodLink RL 121 yX12_stale ∈ gw := tbt (tb7 (List.mem_of_getElem? (i := 201) rfl)) rfl
theorem qc_X11_blind : Cond.code yX11_blind cX11_blind 6 (some .int) ∈ gw := tbt (tb4 (List.mem_of_getElem? (i := 136) rfl)) rfl
theorem qi_yX11_blind : Cond.instanceMethod yX11_blind ∈ gw := tbt (tb4 (List.mem_of_getElem? (i := 134) rfl)) rfl
theorem qs_X11_blind : Cond.selects (yX11_blind).cls yX11_blind yX11_blind ∈ gw := tbt (tb4 (List.mem_of_getElem? (i := 135) rfl)) rfl
theorem ci_X11_blind : CIv yX11_blind cX11_blind 6 (some .int) 1 := ⟨qc_X11_blind, qi_yX11_blind, qs_X11_blind, qz_X11, by decide +kernel⟩
theorem qm_L_122 : Cond.methodLink RL 122 yX11_blind ∈ gw := tbt (tb4 (List.mem_of_getElem? (i := 133) rfl)) rfl
theorem qc_X12_blind : Cond.code yX12_blind cX12_blind 6 (some .int) ∈ gw := tbt (tb7 (List.mem_of_getElem? (i := 208) rfl)) rfl
theorem qi_yX12_blind : Cond.instanceMethod yX12_blind ∈ gw := tbt (tb7 (List.mem_of_getElem? (i := 206) rfl)) rfl
theorem qs_X12_blind : Cond.selects (yX12_blind).cls yX12_blind yX12_blind ∈ gw := tbt (tb7 (List.mem_of_getElem? (i := 207) rfl)) rfl
theorem ci_X12_blind : CIv yX12_blind cX12_blind 6 (some .int) 1 := ⟨qc_X12_blind, qi_yX12_blind, qs_X12_blind, qz_X12, by decide +kernel⟩
theorem qm_L_125 : Cond.methodLink RL 125 yX12_blind ∈ gw := tbt (tb7 (List.mem_of_getElem? (i := 205) rfl)) rfl
theorem qc_X11_closest : Cond.code yX11_closest cX11_closest 6 (some .int) ∈ gw := tbt (tb4 (List.mem_of_getElem? (i := 143) rfl)) rfl
theorem qi_yX11_closest : Cond.instanceMethod yX11_closest ∈ gw := tbt (tb4 (List.mem_of_getElem? (i := 141) rfl)) rfl
theorem qs_X11_closest : Cond.selects (yX11_closest).cls yX11_closest yX11_closest ∈ gw := tbt (tb4 (List.mem_of_getElem? (i := 142) rfl)) rfl
theorem ci_X11_closest : CIv yX11_closest cX11_closest 6 (some .int) 4 := ⟨qc_X11_closest, qi_yX11_closest, qs_X11_closest, qz_X11, by decide +kernel⟩
theorem qm_L_126 : Cond.methodLink RL 126 yX11_closest ∈ gw := tbt (tb4 (List.mem_of_getElem? (i := 140) rfl)) rfl
theorem qc_X12_closest : Cond.code yX12_closest cX12_closest 6 (some .int) ∈ gw := tbt (tb7 (List.mem_of_getElem? (i := 192) rfl)) rfl
theorem qi_yX12_closest : Cond.instanceMethod yX12_closest ∈ gw := tbt (tb7 (List.mem_of_getElem? (i := 190) rfl)) rfl
theorem qs_X12_closest : Cond.selects (yX12_closest).cls yX12_closest yX12_closest ∈ gw := tbt (tb7 (List.mem_of_getElem? (i := 191) rfl)) rfl
theorem ci_X12_closest : CIv yX12_closest cX12_closest 6 (some .int) 4 := ⟨qc_X12_closest, qi_yX12_closest, qs_X12_closest, qz_X12, by decide +kernel⟩
theorem qm_L_129 : Cond.methodLink RL 129 yX12_closest ∈ gw := tbt (tb7 (List.mem_of_getElem? (i := 189) rfl)) rfl
theorem qc_X11_knows : Cond.code yX11_knows cX11_knows 4 (some .int) ∈ gw := tbt (tb4 (List.mem_of_getElem? (i := 147) rfl)) rfl
theorem qi_yX11_knows : Cond.instanceMethod yX11_knows ∈ gw := tbt (tb4 (List.mem_of_getElem? (i := 145) rfl)) rfl
theorem qs_X11_knows : Cond.selects (yX11_knows).cls yX11_knows yX11_knows ∈ gw := tbt (tb4 (List.mem_of_getElem? (i := 146) rfl)) rfl
theorem ci_X11_knows : CIv yX11_knows cX11_knows 4 (some .int) 3 := ⟨qc_X11_knows, qi_yX11_knows, qs_X11_knows, qz_X11, by decide +kernel⟩
theorem qm_L_130 : Cond.methodLink RL 130 yX11_knows ∈ gw := tbt (tb4 (List.mem_of_getElem? (i := 144) rfl)) rfl
theorem qc_X12_knows : Cond.code yX12_knows cX12_knows 4 (some .int) ∈ gw := tbt (tb7 (List.mem_of_getElem? (i := 212) rfl)) rfl
theorem qi_yX12_knows : Cond.instanceMethod yX12_knows ∈ gw := tbt (tb7 (List.mem_of_getElem? (i := 210) rfl)) rfl
theorem qs_X12_knows : Cond.selects (yX12_knows).cls yX12_knows yX12_knows ∈ gw := tbt (tb7 (List.mem_of_getElem? (i := 211) rfl)) rfl
theorem ci_X12_knows : CIv yX12_knows cX12_knows 4 (some .int) 3 := ⟨qc_X12_knows, qi_yX12_knows, qs_X12_knows, qz_X12, by decide +kernel⟩
theorem qm_L_133 : Cond.methodLink RL 133 yX12_knows ∈ gw := tbt (tb7 (List.mem_of_getElem? (i := 209) rfl)) rfl
theorem qc_X11_teller : Cond.code yX11_teller cX11_teller 4 (some .int) ∈ gw := tbt (tb4 (List.mem_of_getElem? (i := 169) rfl)) rfl
theorem qi_yX11_teller : Cond.instanceMethod yX11_teller ∈ gw := tbt (tb4 (List.mem_of_getElem? (i := 167) rfl)) rfl
theorem qs_X11_teller : Cond.selects (yX11_teller).cls yX11_teller yX11_teller ∈ gw := tbt (tb4 (List.mem_of_getElem? (i := 168) rfl)) rfl
theorem ci_X11_teller : CIv yX11_teller cX11_teller 4 (some .int) 3 := ⟨qc_X11_teller, qi_yX11_teller, qs_X11_teller, qz_X11, by decide +kernel⟩
theorem qm_L_134 : Cond.methodLink RL 134 yX11_teller ∈ gw := tbt (tb4 (List.mem_of_getElem? (i := 166) rfl)) rfl
theorem qc_X12_teller : Cond.code yX12_teller cX12_teller 4 (some .int) ∈ gw := tbt (tb7 (List.mem_of_getElem? (i := 224) rfl)) rfl
theorem qi_yX12_teller : Cond.instanceMethod yX12_teller ∈ gw := tbt (tb7 (List.mem_of_getElem? (i := 222) rfl)) rfl
theorem qs_X12_teller : Cond.selects (yX12_teller).cls yX12_teller yX12_teller ∈ gw := tbt (tb7 (List.mem_of_getElem? (i := 223) rfl)) rfl
theorem ci_X12_teller : CIv yX12_teller cX12_teller 4 (some .int) 3 := ⟨qc_X12_teller, qi_yX12_teller, qs_X12_teller, qz_X12, by decide +kernel⟩
theorem qm_L_137 : Cond.methodLink RL 137 yX12_teller ∈ gw := tbt (tb7 (List.mem_of_getElem? (i := 221) rfl)) rfl
theorem qc_X11_hops : Cond.code yX11_hops cX11_hops 4 (some .int) ∈ gw := tbt (tb4 (List.mem_of_getElem? (i := 173) rfl)) rfl
theorem qi_yX11_hops : Cond.instanceMethod yX11_hops ∈ gw := tbt (tb4 (List.mem_of_getElem? (i := 171) rfl)) rfl
theorem qs_X11_hops : Cond.selects (yX11_hops).cls yX11_hops yX11_hops ∈ gw := tbt (tb4 (List.mem_of_getElem? (i := 172) rfl)) rfl
theorem ci_X11_hops : CIv yX11_hops cX11_hops 4 (some .int) 3 := ⟨qc_X11_hops, qi_yX11_hops, qs_X11_hops, qz_X11, by decide +kernel⟩
theorem qm_L_138 : Cond.methodLink RL 138 yX11_hops ∈ gw := tbt (tb4 (List.mem_of_getElem? (i := 170) rfl)) rfl
theorem qc_X12_hops : Cond.code yX12_hops cX12_hops 4 (some .int) ∈ gw := tbt (tb7 (List.mem_of_getElem? (i := 228) rfl)) rfl
theorem qi_yX12_hops : Cond.instanceMethod yX12_hops ∈ gw := tbt (tb7 (List.mem_of_getElem? (i := 226) rfl)) rfl
theorem qs_X12_hops : Cond.selects (yX12_hops).cls yX12_hops yX12_hops ∈ gw := tbt (tb7 (List.mem_of_getElem? (i := 227) rfl)) rfl
theorem ci_X12_hops : CIv yX12_hops cX12_hops 4 (some .int) 3 := ⟨qc_X12_hops, qi_yX12_hops, qs_X12_hops, qz_X12, by decide +kernel⟩
theorem qm_L_141 : Cond.methodLink RL 141 yX12_hops ∈ gw := tbt (tb7 (List.mem_of_getElem? (i := 225) rfl)) rfl
theorem qc_X11_knowing : Cond.code yX11_knowing cX11_knowing 6 (some .int) ∈ gw := tbt (tb4 (List.mem_of_getElem? (i := 177) rfl)) rfl
theorem qi_yX11_knowing : Cond.instanceMethod yX11_knowing ∈ gw := tbt (tb4 (List.mem_of_getElem? (i := 175) rfl)) rfl
theorem qs_X11_knowing : Cond.selects (yX11_knowing).cls yX11_knowing yX11_knowing ∈ gw := tbt (tb4 (List.mem_of_getElem? (i := 176) rfl)) rfl
theorem ci_X11_knowing : CIv yX11_knowing cX11_knowing 6 (some .int) 3 := ⟨qc_X11_knowing, qi_yX11_knowing, qs_X11_knowing, qz_X11, by decide +kernel⟩
theorem qm_L_142 : Cond.methodLink RL 142 yX11_knowing ∈ gw := tbt (tb4 (List.mem_of_getElem? (i := 174) rfl)) rfl
theorem qc_X12_knowing : Cond.code yX12_knowing cX12_knowing 4 (some .int) ∈ gw := tbt (tb7 (List.mem_of_getElem? (i := 232) rfl)) rfl
theorem qi_yX12_knowing : Cond.instanceMethod yX12_knowing ∈ gw := tbt (tb7 (List.mem_of_getElem? (i := 230) rfl)) rfl
theorem qs_X12_knowing : Cond.selects (yX12_knowing).cls yX12_knowing yX12_knowing ∈ gw := tbt (tb7 (List.mem_of_getElem? (i := 231) rfl)) rfl
theorem ci_X12_knowing : CIv yX12_knowing cX12_knowing 4 (some .int) 3 := ⟨qc_X12_knowing, qi_yX12_knowing, qs_X12_knowing, qz_X12, by decide +kernel⟩
theorem qm_L_145 : Cond.methodLink RL 145 yX12_knowing ∈ gw := tbt (tb7 (List.mem_of_getElem? (i := 229) rfl)) rfl
theorem qc_X11_overtaken : Cond.code yX11_overtaken cX11_overtaken 6 (some .int) ∈ gw := tbt (tb4 (List.mem_of_getElem? (i := 181) rfl)) rfl
theorem qi_yX11_overtaken : Cond.instanceMethod yX11_overtaken ∈ gw := tbt (tb4 (List.mem_of_getElem? (i := 179) rfl)) rfl
theorem qs_X11_overtaken : Cond.selects (yX11_overtaken).cls yX11_overtaken yX11_overtaken ∈ gw := tbt (tb4 (List.mem_of_getElem? (i := 180) rfl)) rfl
theorem ci_X11_overtaken : CIv yX11_overtaken cX11_overtaken 6 (some .int) 2 := ⟨qc_X11_overtaken, qi_yX11_overtaken, qs_X11_overtaken, qz_X11, by decide +kernel⟩
theorem qm_L_146 : Cond.methodLink RL 146 yX11_overtaken ∈ gw := tbt (tb4 (List.mem_of_getElem? (i := 178) rfl)) rfl
theorem qc_X12_overtaken : Cond.code yX12_overtaken cX12_overtaken 5 (some .int) ∈ gw := tbt (tb8 (List.mem_of_getElem? (i := 0) rfl)) rfl
theorem qi_yX12_overtaken : Cond.instanceMethod yX12_overtaken ∈ gw := tbt (tb7 (List.mem_of_getElem? (i := 238) rfl)) rfl
theorem qs_X12_overtaken : Cond.selects (yX12_overtaken).cls yX12_overtaken yX12_overtaken ∈ gw := tbt (tb7 (List.mem_of_getElem? (i := 239) rfl)) rfl
theorem ci_X12_overtaken : CIv yX12_overtaken cX12_overtaken 5 (some .int) 2 := ⟨qc_X12_overtaken, qi_yX12_overtaken, qs_X12_overtaken, qz_X12, by decide +kernel⟩
theorem qm_L_149 : Cond.methodLink RL 149 yX12_overtaken ∈ gw := tbt (tb7 (List.mem_of_getElem? (i := 237) rfl)) rfl
theorem qc_X11_early : Cond.code yX11_early cX11_early 8 (some .int) ∈ gw := tbt (tb4 (List.mem_of_getElem? (i := 185) rfl)) rfl
theorem qi_yX11_early : Cond.instanceMethod yX11_early ∈ gw := tbt (tb4 (List.mem_of_getElem? (i := 183) rfl)) rfl
theorem qs_X11_early : Cond.selects (yX11_early).cls yX11_early yX11_early ∈ gw := tbt (tb4 (List.mem_of_getElem? (i := 184) rfl)) rfl
theorem ci_X11_early : CIv yX11_early cX11_early 8 (some .int) 3 := ⟨qc_X11_early, qi_yX11_early, qs_X11_early, qz_X11, by decide +kernel⟩
theorem qm_L_150 : Cond.methodLink RL 150 yX11_early ∈ gw := tbt (tb4 (List.mem_of_getElem? (i := 182) rfl)) rfl
theorem qc_X12_early : Cond.code yX12_early cX12_early 6 (some .int) ∈ gw := tbt (tb8 (List.mem_of_getElem? (i := 4) rfl)) rfl
theorem qi_yX12_early : Cond.instanceMethod yX12_early ∈ gw := tbt (tb8 (List.mem_of_getElem? (i := 2) rfl)) rfl
theorem qs_X12_early : Cond.selects (yX12_early).cls yX12_early yX12_early ∈ gw := tbt (tb8 (List.mem_of_getElem? (i := 3) rfl)) rfl
theorem ci_X12_early : CIv yX12_early cX12_early 6 (some .int) 3 := ⟨qc_X12_early, qi_yX12_early, qs_X12_early, qz_X12, by decide +kernel⟩
theorem qm_L_153 : Cond.methodLink RL 153 yX12_early ∈ gw := tbt (tb8 (List.mem_of_getElem? (i := 1) rfl)) rfl
theorem qc_X11_latest : Cond.code yX11_latest cX11_latest 3 (some .int) ∈ gw := tbt (tb4 (List.mem_of_getElem? (i := 193) rfl)) rfl
theorem qi_yX11_latest : Cond.instanceMethod yX11_latest ∈ gw := tbt (tb4 (List.mem_of_getElem? (i := 191) rfl)) rfl
theorem qs_X11_latest : Cond.selects (yX11_latest).cls yX11_latest yX11_latest ∈ gw := tbt (tb4 (List.mem_of_getElem? (i := 192) rfl)) rfl
theorem ci_X11_latest : CIv yX11_latest cX11_latest 3 (some .int) 2 := ⟨qc_X11_latest, qi_yX11_latest, qs_X11_latest, qz_X11, by decide +kernel⟩
theorem qm_L_154 : Cond.methodLink RL 154 yX11_latest ∈ gw := tbt (tb4 (List.mem_of_getElem? (i := 190) rfl)) rfl
theorem qc_X12_latest : Cond.code yX12_latest cX12_latest 3 (some .int) ∈ gw := tbt (tb8 (List.mem_of_getElem? (i := 9) rfl)) rfl
theorem qi_yX12_latest : Cond.instanceMethod yX12_latest ∈ gw := tbt (tb8 (List.mem_of_getElem? (i := 7) rfl)) rfl
theorem qs_X12_latest : Cond.selects (yX12_latest).cls yX12_latest yX12_latest ∈ gw := tbt (tb8 (List.mem_of_getElem? (i := 8) rfl)) rfl
theorem ci_X12_latest : CIv yX12_latest cX12_latest 3 (some .int) 2 := ⟨qc_X12_latest, qi_yX12_latest, qs_X12_latest, qz_X12, by decide +kernel⟩
theorem qm_L_157 : Cond.methodLink RL 157 yX12_latest ∈ gw := tbt (tb8 (List.mem_of_getElem? (i := 6) rfl)) rfl
theorem qc_X11_centre : Cond.code yX11_centre cX11_centre 6 (some .int) ∈ gw := tbt (tb4 (List.mem_of_getElem? (i := 201) rfl)) rfl
theorem qi_yX11_centre : Cond.instanceMethod yX11_centre ∈ gw := tbt (tb4 (List.mem_of_getElem? (i := 199) rfl)) rfl
theorem qs_X11_centre : Cond.selects (yX11_centre).cls yX11_centre yX11_centre ∈ gw := tbt (tb4 (List.mem_of_getElem? (i := 200) rfl)) rfl
theorem ci_X11_centre : CIv yX11_centre cX11_centre 6 (some .int) 1 := ⟨qc_X11_centre, qi_yX11_centre, qs_X11_centre, qz_X11, by decide +kernel⟩
theorem qm_L_158 : Cond.methodLink RL 158 yX11_centre ∈ gw := tbt (tb4 (List.mem_of_getElem? (i := 198) rfl)) rfl
theorem qc_X12_centre : Cond.code yX12_centre cX12_centre 5 (some .int) ∈ gw := tbt (tb8 (List.mem_of_getElem? (i := 17) rfl)) rfl
theorem qi_yX12_centre : Cond.instanceMethod yX12_centre ∈ gw := tbt (tb8 (List.mem_of_getElem? (i := 15) rfl)) rfl
theorem qs_X12_centre : Cond.selects (yX12_centre).cls yX12_centre yX12_centre ∈ gw := tbt (tb8 (List.mem_of_getElem? (i := 16) rfl)) rfl
theorem ci_X12_centre : CIv yX12_centre cX12_centre 5 (some .int) 1 := ⟨qc_X12_centre, qi_yX12_centre, qs_X12_centre, qz_X12, by decide +kernel⟩
theorem qm_L_161 : Cond.methodLink RL 161 yX12_centre ∈ gw := tbt (tb8 (List.mem_of_getElem? (i := 14) rfl)) rfl
theorem qc_X11_cutOff : Cond.code yX11_cutOff cX11_cutOff 5 (some .int) ∈ gw := tbt (tb4 (List.mem_of_getElem? (i := 205) rfl)) rfl
theorem qi_yX11_cutOff : Cond.instanceMethod yX11_cutOff ∈ gw := tbt (tb4 (List.mem_of_getElem? (i := 203) rfl)) rfl
theorem qs_X11_cutOff : Cond.selects (yX11_cutOff).cls yX11_cutOff yX11_cutOff ∈ gw := tbt (tb4 (List.mem_of_getElem? (i := 204) rfl)) rfl
theorem ci_X11_cutOff : CIv yX11_cutOff cX11_cutOff 5 (some .int) 2 := ⟨qc_X11_cutOff, qi_yX11_cutOff, qs_X11_cutOff, qz_X11, by decide +kernel⟩
theorem qm_L_162 : Cond.methodLink RL 162 yX11_cutOff ∈ gw := tbt (tb4 (List.mem_of_getElem? (i := 202) rfl)) rfl
theorem qc_X12_cutOff : Cond.code yX12_cutOff cX12_cutOff 3 (some .int) ∈ gw := tbt (tb8 (List.mem_of_getElem? (i := 21) rfl)) rfl
theorem qi_yX12_cutOff : Cond.instanceMethod yX12_cutOff ∈ gw := tbt (tb8 (List.mem_of_getElem? (i := 19) rfl)) rfl
theorem qs_X12_cutOff : Cond.selects (yX12_cutOff).cls yX12_cutOff yX12_cutOff ∈ gw := tbt (tb8 (List.mem_of_getElem? (i := 20) rfl)) rfl
theorem ci_X12_cutOff : CIv yX12_cutOff cX12_cutOff 3 (some .int) 2 := ⟨qc_X12_cutOff, qi_yX12_cutOff, qs_X12_cutOff, qz_X12, by decide +kernel⟩
theorem qm_L_165 : Cond.methodLink RL 165 yX12_cutOff ∈ gw := tbt (tb8 (List.mem_of_getElem? (i := 18) rfl)) rfl
theorem qc_X11_hearsBack : Cond.code yX11_hearsBack cX11_hearsBack 6 (some .int) ∈ gw := tbt (tb4 (List.mem_of_getElem? (i := 209) rfl)) rfl
theorem qi_yX11_hearsBack : Cond.instanceMethod yX11_hearsBack ∈ gw := tbt (tb4 (List.mem_of_getElem? (i := 207) rfl)) rfl
theorem qs_X11_hearsBack : Cond.selects (yX11_hearsBack).cls yX11_hearsBack yX11_hearsBack ∈ gw := tbt (tb4 (List.mem_of_getElem? (i := 208) rfl)) rfl
theorem ci_X11_hearsBack : CIv yX11_hearsBack cX11_hearsBack 6 (some .int) 2 := ⟨qc_X11_hearsBack, qi_yX11_hearsBack, qs_X11_hearsBack, qz_X11, by decide +kernel⟩
theorem qm_L_166 : Cond.methodLink RL 166 yX11_hearsBack ∈ gw := tbt (tb4 (List.mem_of_getElem? (i := 206) rfl)) rfl
theorem qc_X12_hearsBack : Cond.code yX12_hearsBack cX12_hearsBack 5 (some .int) ∈ gw := tbt (tb8 (List.mem_of_getElem? (i := 26) rfl)) rfl
theorem qi_yX12_hearsBack : Cond.instanceMethod yX12_hearsBack ∈ gw := tbt (tb8 (List.mem_of_getElem? (i := 24) rfl)) rfl
theorem qs_X12_hearsBack : Cond.selects (yX12_hearsBack).cls yX12_hearsBack yX12_hearsBack ∈ gw := tbt (tb8 (List.mem_of_getElem? (i := 25) rfl)) rfl
theorem ci_X12_hearsBack : CIv yX12_hearsBack cX12_hearsBack 5 (some .int) 2 := ⟨qc_X12_hearsBack, qi_yX12_hearsBack, qs_X12_hearsBack, qz_X12, by decide +kernel⟩
theorem qm_L_169 : Cond.methodLink RL 169 yX12_hearsBack ∈ gw := tbt (tb8 (List.mem_of_getElem? (i := 23) rfl)) rfl
theorem qc_X11_remote : Cond.code yX11_remote cX11_remote 7 (some .int) ∈ gw := tbt (tb4 (List.mem_of_getElem? (i := 213) rfl)) rfl
theorem qi_yX11_remote : Cond.instanceMethod yX11_remote ∈ gw := tbt (tb4 (List.mem_of_getElem? (i := 211) rfl)) rfl
theorem qs_X11_remote : Cond.selects (yX11_remote).cls yX11_remote yX11_remote ∈ gw := tbt (tb4 (List.mem_of_getElem? (i := 212) rfl)) rfl
theorem ci_X11_remote : CIv yX11_remote cX11_remote 7 (some .int) 1 := ⟨qc_X11_remote, qi_yX11_remote, qs_X11_remote, qz_X11, by decide +kernel⟩
theorem qm_L_170 : Cond.methodLink RL 170 yX11_remote ∈ gw := tbt (tb4 (List.mem_of_getElem? (i := 210) rfl)) rfl
theorem qc_X12_remote : Cond.code yX12_remote cX12_remote 7 (some .int) ∈ gw := tbt (tb8 (List.mem_of_getElem? (i := 30) rfl)) rfl
theorem qi_yX12_remote : Cond.instanceMethod yX12_remote ∈ gw := tbt (tb8 (List.mem_of_getElem? (i := 28) rfl)) rfl
theorem qs_X12_remote : Cond.selects (yX12_remote).cls yX12_remote yX12_remote ∈ gw := tbt (tb8 (List.mem_of_getElem? (i := 29) rfl)) rfl
theorem ci_X12_remote : CIv yX12_remote cX12_remote 7 (some .int) 1 := ⟨qc_X12_remote, qi_yX12_remote, qs_X12_remote, qz_X12, by decide +kernel⟩
theorem qm_L_173 : Cond.methodLink RL 173 yX12_remote ∈ gw := tbt (tb8 (List.mem_of_getElem? (i := 27) rfl)) rfl
theorem qc_X11_order : Cond.code yX11_order cX11_order 3 (some .int) ∈ gw := tbt (tb4 (List.mem_of_getElem? (i := 218) rfl)) rfl
theorem qi_yX11_order : Cond.instanceMethod yX11_order ∈ gw := tbt (tb4 (List.mem_of_getElem? (i := 216) rfl)) rfl
theorem qs_X11_order : Cond.selects (yX11_order).cls yX11_order yX11_order ∈ gw := tbt (tb4 (List.mem_of_getElem? (i := 217) rfl)) rfl
theorem ci_X11_order : CIv yX11_order cX11_order 3 (some .int) 1 := ⟨qc_X11_order, qi_yX11_order, qs_X11_order, qz_X11, by decide +kernel⟩
theorem qm_L_174 : Cond.methodLink RL 174 yX11_order ∈ gw := tbt (tb4 (List.mem_of_getElem? (i := 215) rfl)) rfl
theorem qc_X12_order : Cond.code yX12_order cX12_order 2 (some .int) ∈ gw := tbt (tb8 (List.mem_of_getElem? (i := 34) rfl)) rfl
theorem qi_yX12_order : Cond.instanceMethod yX12_order ∈ gw := tbt (tb8 (List.mem_of_getElem? (i := 32) rfl)) rfl
theorem qs_X12_order : Cond.selects (yX12_order).cls yX12_order yX12_order ∈ gw := tbt (tb8 (List.mem_of_getElem? (i := 33) rfl)) rfl
theorem ci_X12_order : CIv yX12_order cX12_order 2 (some .int) 1 := ⟨qc_X12_order, qi_yX12_order, qs_X12_order, qz_X12, by decide +kernel⟩
theorem qm_L_177 : Cond.methodLink RL 177 yX12_order ∈ gw := tbt (tb8 (List.mem_of_getElem? (i := 31) rfl)) rfl
theorem qc_X11_given : Cond.code yX11_given cX11_given 3 (some .int) ∈ gw := tbt (tb4 (List.mem_of_getElem? (i := 228) rfl)) rfl
theorem qi_yX11_given : Cond.instanceMethod yX11_given ∈ gw := tbt (tb4 (List.mem_of_getElem? (i := 226) rfl)) rfl
theorem qs_X11_given : Cond.selects (yX11_given).cls yX11_given yX11_given ∈ gw := tbt (tb4 (List.mem_of_getElem? (i := 227) rfl)) rfl
theorem ci_X11_given : CIv yX11_given cX11_given 3 (some .int) 2 := ⟨qc_X11_given, qi_yX11_given, qs_X11_given, qz_X11, by decide +kernel⟩
theorem qm_L_178 : Cond.methodLink RL 178 yX11_given ∈ gw := tbt (tb4 (List.mem_of_getElem? (i := 225) rfl)) rfl
theorem qc_X12_given : Cond.code yX12_given cX12_given 3 (some .int) ∈ gw := tbt (tb8 (List.mem_of_getElem? (i := 45) rfl)) rfl
theorem qi_yX12_given : Cond.instanceMethod yX12_given ∈ gw := tbt (tb8 (List.mem_of_getElem? (i := 43) rfl)) rfl
theorem qs_X12_given : Cond.selects (yX12_given).cls yX12_given yX12_given ∈ gw := tbt (tb8 (List.mem_of_getElem? (i := 44) rfl)) rfl
theorem ci_X12_given : CIv yX12_given cX12_given 3 (some .int) 2 := ⟨qc_X12_given, qi_yX12_given, qs_X12_given, qz_X12, by decide +kernel⟩
theorem qm_L_181 : Cond.methodLink RL 181 yX12_given ∈ gw := tbt (tb8 (List.mem_of_getElem? (i := 42) rfl)) rfl
theorem qc_X11_heard : Cond.code yX11_heard cX11_heard 3 (some .int) ∈ gw := tbt (tb4 (List.mem_of_getElem? (i := 236) rfl)) rfl
theorem qi_yX11_heard : Cond.instanceMethod yX11_heard ∈ gw := tbt (tb4 (List.mem_of_getElem? (i := 234) rfl)) rfl
theorem qs_X11_heard : Cond.selects (yX11_heard).cls yX11_heard yX11_heard ∈ gw := tbt (tb4 (List.mem_of_getElem? (i := 235) rfl)) rfl
theorem ci_X11_heard : CIv yX11_heard cX11_heard 3 (some .int) 2 := ⟨qc_X11_heard, qi_yX11_heard, qs_X11_heard, qz_X11, by decide +kernel⟩
theorem qm_L_182 : Cond.methodLink RL 182 yX11_heard ∈ gw := tbt (tb4 (List.mem_of_getElem? (i := 233) rfl)) rfl
theorem qc_X12_heard : Cond.code yX12_heard cX12_heard 3 (some .int) ∈ gw := tbt (tb8 (List.mem_of_getElem? (i := 53) rfl)) rfl
theorem qi_yX12_heard : Cond.instanceMethod yX12_heard ∈ gw := tbt (tb8 (List.mem_of_getElem? (i := 51) rfl)) rfl
theorem qs_X12_heard : Cond.selects (yX12_heard).cls yX12_heard yX12_heard ∈ gw := tbt (tb8 (List.mem_of_getElem? (i := 52) rfl)) rfl
theorem ci_X12_heard : CIv yX12_heard cX12_heard 3 (some .int) 2 := ⟨qc_X12_heard, qi_yX12_heard, qs_X12_heard, qz_X12, by decide +kernel⟩
theorem qm_L_185 : Cond.methodLink RL 185 yX12_heard ∈ gw := tbt (tb8 (List.mem_of_getElem? (i := 50) rfl)) rfl
theorem qc_X11_rules : Cond.code yX11_rules cX11_rules 3 (some .int) ∈ gw := tbt (tb5 (List.mem_of_getElem? (i := 4) rfl)) rfl
theorem qi_yX11_rules : Cond.instanceMethod yX11_rules ∈ gw := tbt (tb5 (List.mem_of_getElem? (i := 2) rfl)) rfl
theorem qs_X11_rules : Cond.selects (yX11_rules).cls yX11_rules yX11_rules ∈ gw := tbt (tb5 (List.mem_of_getElem? (i := 3) rfl)) rfl
theorem ci_X11_rules : CIv yX11_rules cX11_rules 3 (some .int) 2 := ⟨qc_X11_rules, qi_yX11_rules, qs_X11_rules, qz_X11, by decide +kernel⟩
theorem qm_L_186 : Cond.methodLink RL 186 yX11_rules ∈ gw := tbt (tb5 (List.mem_of_getElem? (i := 1) rfl)) rfl
theorem qc_X12_rules : Cond.code yX12_rules cX12_rules 3 (some .int) ∈ gw := tbt (tb8 (List.mem_of_getElem? (i := 61) rfl)) rfl
theorem qi_yX12_rules : Cond.instanceMethod yX12_rules ∈ gw := tbt (tb8 (List.mem_of_getElem? (i := 59) rfl)) rfl
theorem qs_X12_rules : Cond.selects (yX12_rules).cls yX12_rules yX12_rules ∈ gw := tbt (tb8 (List.mem_of_getElem? (i := 60) rfl)) rfl
theorem ci_X12_rules : CIv yX12_rules cX12_rules 3 (some .int) 2 := ⟨qc_X12_rules, qi_yX12_rules, qs_X12_rules, qz_X12, by decide +kernel⟩
theorem qm_L_189 : Cond.methodLink RL 189 yX12_rules ∈ gw := tbt (tb8 (List.mem_of_getElem? (i := 58) rfl)) rfl
theorem qc_X11_ruled : Cond.code yX11_ruled cX11_ruled 5 (some .int) ∈ gw := tbt (tb5 (List.mem_of_getElem? (i := 18) rfl)) rfl
theorem qi_yX11_ruled : Cond.instanceMethod yX11_ruled ∈ gw := tbt (tb5 (List.mem_of_getElem? (i := 16) rfl)) rfl
theorem qs_X11_ruled : Cond.selects (yX11_ruled).cls yX11_ruled yX11_ruled ∈ gw := tbt (tb5 (List.mem_of_getElem? (i := 17) rfl)) rfl
theorem ci_X11_ruled : CIv yX11_ruled cX11_ruled 5 (some .int) 2 := ⟨qc_X11_ruled, qi_yX11_ruled, qs_X11_ruled, qz_X11, by decide +kernel⟩
theorem qm_L_190 : Cond.methodLink RL 190 yX11_ruled ∈ gw := tbt (tb5 (List.mem_of_getElem? (i := 15) rfl)) rfl
theorem qc_X12_ruled : Cond.code yX12_ruled cX12_ruled 5 (some .int) ∈ gw := tbt (tb8 (List.mem_of_getElem? (i := 77) rfl)) rfl
theorem qi_yX12_ruled : Cond.instanceMethod yX12_ruled ∈ gw := tbt (tb8 (List.mem_of_getElem? (i := 75) rfl)) rfl
theorem qs_X12_ruled : Cond.selects (yX12_ruled).cls yX12_ruled yX12_ruled ∈ gw := tbt (tb8 (List.mem_of_getElem? (i := 76) rfl)) rfl
theorem ci_X12_ruled : CIv yX12_ruled cX12_ruled 5 (some .int) 2 := ⟨qc_X12_ruled, qi_yX12_ruled, qs_X12_ruled, qz_X12, by decide +kernel⟩
theorem qm_L_193 : Cond.methodLink RL 193 yX12_ruled ∈ gw := tbt (tb8 (List.mem_of_getElem? (i := 74) rfl)) rfl
theorem qc_X11_before : Cond.code yX11_before cX11_before 6 (some .int) ∈ gw := tbt (tb5 (List.mem_of_getElem? (i := 22) rfl)) rfl
theorem qi_yX11_before : Cond.instanceMethod yX11_before ∈ gw := tbt (tb5 (List.mem_of_getElem? (i := 20) rfl)) rfl
theorem qs_X11_before : Cond.selects (yX11_before).cls yX11_before yX11_before ∈ gw := tbt (tb5 (List.mem_of_getElem? (i := 21) rfl)) rfl
theorem ci_X11_before : CIv yX11_before cX11_before 6 (some .int) 3 := ⟨qc_X11_before, qi_yX11_before, qs_X11_before, qz_X11, by decide +kernel⟩
theorem qm_L_194 : Cond.methodLink RL 194 yX11_before ∈ gw := tbt (tb5 (List.mem_of_getElem? (i := 19) rfl)) rfl
theorem qc_X12_before : Cond.code yX12_before cX12_before 6 (some .int) ∈ gw := tbt (tb8 (List.mem_of_getElem? (i := 81) rfl)) rfl
theorem qi_yX12_before : Cond.instanceMethod yX12_before ∈ gw := tbt (tb8 (List.mem_of_getElem? (i := 79) rfl)) rfl
theorem qs_X12_before : Cond.selects (yX12_before).cls yX12_before yX12_before ∈ gw := tbt (tb8 (List.mem_of_getElem? (i := 80) rfl)) rfl
theorem ci_X12_before : CIv yX12_before cX12_before 6 (some .int) 3 := ⟨qc_X12_before, qi_yX12_before, qs_X12_before, qz_X12, by decide +kernel⟩
theorem qm_L_197 : Cond.methodLink RL 197 yX12_before ∈ gw := tbt (tb8 (List.mem_of_getElem? (i := 78) rfl)) rfl
theorem qc_X11_oneForAll : Cond.code yX11_oneForAll cX11_oneForAll 3 (some .int) ∈ gw := tbt (tb5 (List.mem_of_getElem? (i := 30) rfl)) rfl
theorem qi_yX11_oneForAll : Cond.instanceMethod yX11_oneForAll ∈ gw := tbt (tb5 (List.mem_of_getElem? (i := 28) rfl)) rfl
theorem qs_X11_oneForAll : Cond.selects (yX11_oneForAll).cls yX11_oneForAll yX11_oneForAll ∈ gw := tbt (tb5 (List.mem_of_getElem? (i := 29) rfl)) rfl
theorem ci_X11_oneForAll : CIv yX11_oneForAll cX11_oneForAll 3 (some .int) 2 := ⟨qc_X11_oneForAll, qi_yX11_oneForAll, qs_X11_oneForAll, qz_X11, by decide +kernel⟩
theorem qm_L_198 : Cond.methodLink RL 198 yX11_oneForAll ∈ gw := tbt (tb5 (List.mem_of_getElem? (i := 27) rfl)) rfl
theorem qc_X12_oneForAll : Cond.code yX12_oneForAll cX12_oneForAll 3 (some .int) ∈ gw := tbt (tb8 (List.mem_of_getElem? (i := 89) rfl)) rfl
theorem qi_yX12_oneForAll : Cond.instanceMethod yX12_oneForAll ∈ gw := tbt (tb8 (List.mem_of_getElem? (i := 87) rfl)) rfl
theorem qs_X12_oneForAll : Cond.selects (yX12_oneForAll).cls yX12_oneForAll yX12_oneForAll ∈ gw := tbt (tb8 (List.mem_of_getElem? (i := 88) rfl)) rfl
theorem ci_X12_oneForAll : CIv yX12_oneForAll cX12_oneForAll 3 (some .int) 2 := ⟨qc_X12_oneForAll, qi_yX12_oneForAll, qs_X12_oneForAll, qz_X12, by decide +kernel⟩
theorem qm_L_201 : Cond.methodLink RL 201 yX12_oneForAll ∈ gw := tbt (tb8 (List.mem_of_getElem? (i := 86) rfl)) rfl
theorem qc_X11_disputes : Cond.code yX11_disputes cX11_disputes 4 (some .int) ∈ gw := tbt (tb5 (List.mem_of_getElem? (i := 41) rfl)) rfl
theorem qi_yX11_disputes : Cond.instanceMethod yX11_disputes ∈ gw := tbt (tb5 (List.mem_of_getElem? (i := 39) rfl)) rfl
theorem qs_X11_disputes : Cond.selects (yX11_disputes).cls yX11_disputes yX11_disputes ∈ gw := tbt (tb5 (List.mem_of_getElem? (i := 40) rfl)) rfl
theorem ci_X11_disputes : CIv yX11_disputes cX11_disputes 4 (some .int) 0 := ⟨qc_X11_disputes, qi_yX11_disputes, qs_X11_disputes, qz_X11, by decide +kernel⟩
theorem qm_L_202 : Cond.methodLink RL 202 yX11_disputes ∈ gw := tbt (tb5 (List.mem_of_getElem? (i := 38) rfl)) rfl
theorem qc_X12_disputes : Cond.code yX12_disputes cX12_disputes 4 (some .int) ∈ gw := tbt (tb8 (List.mem_of_getElem? (i := 97) rfl)) rfl
theorem qi_yX12_disputes : Cond.instanceMethod yX12_disputes ∈ gw := tbt (tb8 (List.mem_of_getElem? (i := 95) rfl)) rfl
theorem qs_X12_disputes : Cond.selects (yX12_disputes).cls yX12_disputes yX12_disputes ∈ gw := tbt (tb8 (List.mem_of_getElem? (i := 96) rfl)) rfl
theorem ci_X12_disputes : CIv yX12_disputes cX12_disputes 4 (some .int) 0 := ⟨qc_X12_disputes, qi_yX12_disputes, qs_X12_disputes, qz_X12, by decide +kernel⟩
theorem qm_L_205 : Cond.methodLink RL 205 yX12_disputes ∈ gw := tbt (tb8 (List.mem_of_getElem? (i := 94) rfl)) rfl
theorem qc_X11_peace : Cond.code yX11_peace cX11_peace 3 (some .int) ∈ gw := tbt (tb5 (List.mem_of_getElem? (i := 45) rfl)) rfl
theorem qi_yX11_peace : Cond.instanceMethod yX11_peace ∈ gw := tbt (tb5 (List.mem_of_getElem? (i := 43) rfl)) rfl
theorem qs_X11_peace : Cond.selects (yX11_peace).cls yX11_peace yX11_peace ∈ gw := tbt (tb5 (List.mem_of_getElem? (i := 44) rfl)) rfl
theorem ci_X11_peace : CIv yX11_peace cX11_peace 3 (some .int) 1 := ⟨qc_X11_peace, qi_yX11_peace, qs_X11_peace, qz_X11, by decide +kernel⟩
theorem qm_L_206 : Cond.methodLink RL 206 yX11_peace ∈ gw := tbt (tb5 (List.mem_of_getElem? (i := 42) rfl)) rfl
theorem qc_X12_peace : Cond.code yX12_peace cX12_peace 5 (some .int) ∈ gw := tbt (tb8 (List.mem_of_getElem? (i := 101) rfl)) rfl
theorem qi_yX12_peace : Cond.instanceMethod yX12_peace ∈ gw := tbt (tb8 (List.mem_of_getElem? (i := 99) rfl)) rfl
theorem qs_X12_peace : Cond.selects (yX12_peace).cls yX12_peace yX12_peace ∈ gw := tbt (tb8 (List.mem_of_getElem? (i := 100) rfl)) rfl
theorem ci_X12_peace : CIv yX12_peace cX12_peace 5 (some .int) 1 := ⟨qc_X12_peace, qi_yX12_peace, qs_X12_peace, qz_X12, by decide +kernel⟩
theorem qm_L_209 : Cond.methodLink RL 209 yX12_peace ∈ gw := tbt (tb8 (List.mem_of_getElem? (i := 98) rfl)) rfl
theorem qc_X11_kth : Cond.code yX11_kth cX11_kth 5 (some .int) ∈ gw := tbt (tb5 (List.mem_of_getElem? (i := 54) rfl)) rfl
theorem qi_yX11_kth : Cond.instanceMethod yX11_kth ∈ gw := tbt (tb5 (List.mem_of_getElem? (i := 52) rfl)) rfl
theorem qs_X11_kth : Cond.selects (yX11_kth).cls yX11_kth yX11_kth ∈ gw := tbt (tb5 (List.mem_of_getElem? (i := 53) rfl)) rfl
theorem ci_X11_kth : CIv yX11_kth cX11_kth 5 (some .int) 2 := ⟨qc_X11_kth, qi_yX11_kth, qs_X11_kth, qz_X11, by decide +kernel⟩
theorem qm_L_210 : Cond.methodLink RL 210 yX11_kth ∈ gw := tbt (tb5 (List.mem_of_getElem? (i := 51) rfl)) rfl
theorem qc_X12_kth : Cond.code yX12_kth cX12_kth 7 (some .int) ∈ gw := tbt (tb8 (List.mem_of_getElem? (i := 117) rfl)) rfl
theorem qi_yX12_kth : Cond.instanceMethod yX12_kth ∈ gw := tbt (tb8 (List.mem_of_getElem? (i := 115) rfl)) rfl
theorem qs_X12_kth : Cond.selects (yX12_kth).cls yX12_kth yX12_kth ∈ gw := tbt (tb8 (List.mem_of_getElem? (i := 116) rfl)) rfl
theorem ci_X12_kth : CIv yX12_kth cX12_kth 7 (some .int) 2 := ⟨qc_X12_kth, qi_yX12_kth, qs_X12_kth, qz_X12, by decide +kernel⟩
theorem qm_L_213 : Cond.methodLink RL 213 yX12_kth ∈ gw := tbt (tb8 (List.mem_of_getElem? (i := 114) rfl)) rfl
theorem qc_X11_reign : Cond.code yX11_reign cX11_reign 5 (some .int) ∈ gw := tbt (tb5 (List.mem_of_getElem? (i := 63) rfl)) rfl
theorem qi_yX11_reign : Cond.instanceMethod yX11_reign ∈ gw := tbt (tb5 (List.mem_of_getElem? (i := 61) rfl)) rfl
theorem qs_X11_reign : Cond.selects (yX11_reign).cls yX11_reign yX11_reign ∈ gw := tbt (tb5 (List.mem_of_getElem? (i := 62) rfl)) rfl
theorem ci_X11_reign : CIv yX11_reign cX11_reign 5 (some .int) 2 := ⟨qc_X11_reign, qi_yX11_reign, qs_X11_reign, qz_X11, by decide +kernel⟩
theorem qm_L_214 : Cond.methodLink RL 214 yX11_reign ∈ gw := tbt (tb5 (List.mem_of_getElem? (i := 60) rfl)) rfl
theorem qc_X12_reign : Cond.code yX12_reign cX12_reign 3 (some .int) ∈ gw := tbt (tb8 (List.mem_of_getElem? (i := 105) rfl)) rfl
theorem qi_yX12_reign : Cond.instanceMethod yX12_reign ∈ gw := tbt (tb8 (List.mem_of_getElem? (i := 103) rfl)) rfl
theorem qs_X12_reign : Cond.selects (yX12_reign).cls yX12_reign yX12_reign ∈ gw := tbt (tb8 (List.mem_of_getElem? (i := 104) rfl)) rfl
theorem ci_X12_reign : CIv yX12_reign cX12_reign 3 (some .int) 2 := ⟨qc_X12_reign, qi_yX12_reign, qs_X12_reign, qz_X12, by decide +kernel⟩
theorem qm_L_217 : Cond.methodLink RL 217 yX12_reign ∈ gw := tbt (tb8 (List.mem_of_getElem? (i := 102) rfl)) rfl
theorem qc_X11_idle : Cond.code yX11_idle cX11_idle 6 (some .int) ∈ gw := tbt (tb5 (List.mem_of_getElem? (i := 67) rfl)) rfl
theorem qi_yX11_idle : Cond.instanceMethod yX11_idle ∈ gw := tbt (tb5 (List.mem_of_getElem? (i := 65) rfl)) rfl
theorem qs_X11_idle : Cond.selects (yX11_idle).cls yX11_idle yX11_idle ∈ gw := tbt (tb5 (List.mem_of_getElem? (i := 66) rfl)) rfl
theorem ci_X11_idle : CIv yX11_idle cX11_idle 6 (some .int) 0 := ⟨qc_X11_idle, qi_yX11_idle, qs_X11_idle, qz_X11, by decide +kernel⟩
theorem qm_L_218 : Cond.methodLink RL 218 yX11_idle ∈ gw := tbt (tb5 (List.mem_of_getElem? (i := 64) rfl)) rfl
theorem qc_X12_idle : Cond.code yX12_idle cX12_idle 5 (some .int) ∈ gw := tbt (tb8 (List.mem_of_getElem? (i := 113) rfl)) rfl
theorem qi_yX12_idle : Cond.instanceMethod yX12_idle ∈ gw := tbt (tb8 (List.mem_of_getElem? (i := 111) rfl)) rfl
theorem qs_X12_idle : Cond.selects (yX12_idle).cls yX12_idle yX12_idle ∈ gw := tbt (tb8 (List.mem_of_getElem? (i := 112) rfl)) rfl
theorem ci_X12_idle : CIv yX12_idle cX12_idle 5 (some .int) 0 := ⟨qc_X12_idle, qi_yX12_idle, qs_X12_idle, qz_X12, by decide +kernel⟩
theorem qm_L_221 : Cond.methodLink RL 221 yX12_idle ∈ gw := tbt (tb8 (List.mem_of_getElem? (i := 110) rfl)) rfl
theorem qc_X11_echo : Cond.code yX11_echo cX11_echo 4 (some .int) ∈ gw := tbt (tb5 (List.mem_of_getElem? (i := 77) rfl)) rfl
theorem qi_yX11_echo : Cond.instanceMethod yX11_echo ∈ gw := tbt (tb5 (List.mem_of_getElem? (i := 75) rfl)) rfl
theorem qs_X11_echo : Cond.selects (yX11_echo).cls yX11_echo yX11_echo ∈ gw := tbt (tb5 (List.mem_of_getElem? (i := 76) rfl)) rfl
theorem ci_X11_echo : CIv yX11_echo cX11_echo 4 (some .int) 3 := ⟨qc_X11_echo, qi_yX11_echo, qs_X11_echo, qz_X11, by decide +kernel⟩
theorem qm_L_222 : Cond.methodLink RL 222 yX11_echo ∈ gw := tbt (tb5 (List.mem_of_getElem? (i := 74) rfl)) rfl
theorem qc_X12_echo : Cond.code yX12_echo cX12_echo 4 (some .int) ∈ gw := tbt (tb8 (List.mem_of_getElem? (i := 121) rfl)) rfl
theorem qi_yX12_echo : Cond.instanceMethod yX12_echo ∈ gw := tbt (tb8 (List.mem_of_getElem? (i := 119) rfl)) rfl
theorem qs_X12_echo : Cond.selects (yX12_echo).cls yX12_echo yX12_echo ∈ gw := tbt (tb8 (List.mem_of_getElem? (i := 120) rfl)) rfl
theorem ci_X12_echo : CIv yX12_echo cX12_echo 4 (some .int) 3 := ⟨qc_X12_echo, qi_yX12_echo, qs_X12_echo, qz_X12, by decide +kernel⟩
theorem qm_L_225 : Cond.methodLink RL 225 yX12_echo ∈ gw := tbt (tb8 (List.mem_of_getElem? (i := 118) rfl)) rfl
theorem qc_X11_answered : Cond.code yX11_answered cX11_answered 6 (some .int) ∈ gw := tbt (tb5 (List.mem_of_getElem? (i := 85) rfl)) rfl
theorem qi_yX11_answered : Cond.instanceMethod yX11_answered ∈ gw := tbt (tb5 (List.mem_of_getElem? (i := 83) rfl)) rfl
theorem qs_X11_answered : Cond.selects (yX11_answered).cls yX11_answered yX11_answered ∈ gw := tbt (tb5 (List.mem_of_getElem? (i := 84) rfl)) rfl
theorem ci_X11_answered : CIv yX11_answered cX11_answered 6 (some .int) 3 := ⟨qc_X11_answered, qi_yX11_answered, qs_X11_answered, qz_X11, by decide +kernel⟩
theorem qm_L_226 : Cond.methodLink RL 226 yX11_answered ∈ gw := tbt (tb5 (List.mem_of_getElem? (i := 82) rfl)) rfl
theorem qc_X12_answered : Cond.code yX12_answered cX12_answered 5 (some .int) ∈ gw := tbt (tb8 (List.mem_of_getElem? (i := 129) rfl)) rfl
theorem qi_yX12_answered : Cond.instanceMethod yX12_answered ∈ gw := tbt (tb8 (List.mem_of_getElem? (i := 127) rfl)) rfl
theorem qs_X12_answered : Cond.selects (yX12_answered).cls yX12_answered yX12_answered ∈ gw := tbt (tb8 (List.mem_of_getElem? (i := 128) rfl)) rfl
theorem ci_X12_answered : CIv yX12_answered cX12_answered 5 (some .int) 3 := ⟨qc_X12_answered, qi_yX12_answered, qs_X12_answered, qz_X12, by decide +kernel⟩
theorem qm_L_229 : Cond.methodLink RL 229 yX12_answered ∈ gw := tbt (tb8 (List.mem_of_getElem? (i := 126) rfl)) rfl
theorem qc_X11_joint : Cond.code yX11_joint cX11_joint 6 (some .int) ∈ gw := tbt (tb5 (List.mem_of_getElem? (i := 89) rfl)) rfl
theorem qi_yX11_joint : Cond.instanceMethod yX11_joint ∈ gw := tbt (tb5 (List.mem_of_getElem? (i := 87) rfl)) rfl
theorem qs_X11_joint : Cond.selects (yX11_joint).cls yX11_joint yX11_joint ∈ gw := tbt (tb5 (List.mem_of_getElem? (i := 88) rfl)) rfl
theorem ci_X11_joint : CIv yX11_joint cX11_joint 6 (some .int) 2 := ⟨qc_X11_joint, qi_yX11_joint, qs_X11_joint, qz_X11, by decide +kernel⟩
theorem qm_L_230 : Cond.methodLink RL 230 yX11_joint ∈ gw := tbt (tb5 (List.mem_of_getElem? (i := 86) rfl)) rfl
theorem qc_X12_joint : Cond.code yX12_joint cX12_joint 5 (some .int) ∈ gw := tbt (tb8 (List.mem_of_getElem? (i := 133) rfl)) rfl
theorem qi_yX12_joint : Cond.instanceMethod yX12_joint ∈ gw := tbt (tb8 (List.mem_of_getElem? (i := 131) rfl)) rfl
theorem qs_X12_joint : Cond.selects (yX12_joint).cls yX12_joint yX12_joint ∈ gw := tbt (tb8 (List.mem_of_getElem? (i := 132) rfl)) rfl
theorem ci_X12_joint : CIv yX12_joint cX12_joint 5 (some .int) 2 := ⟨qc_X12_joint, qi_yX12_joint, qs_X12_joint, qz_X12, by decide +kernel⟩
theorem qm_L_233 : Cond.methodLink RL 233 yX12_joint ∈ gw := tbt (tb8 (List.mem_of_getElem? (i := 130) rfl)) rfl
theorem qc_X11_confirmed : Cond.code yX11_confirmed cX11_confirmed 7 (some .int) ∈ gw := tbt (tb5 (List.mem_of_getElem? (i := 97) rfl)) rfl
theorem qi_yX11_confirmed : Cond.instanceMethod yX11_confirmed ∈ gw := tbt (tb5 (List.mem_of_getElem? (i := 95) rfl)) rfl
theorem qs_X11_confirmed : Cond.selects (yX11_confirmed).cls yX11_confirmed yX11_confirmed ∈ gw := tbt (tb5 (List.mem_of_getElem? (i := 96) rfl)) rfl
theorem ci_X11_confirmed : CIv yX11_confirmed cX11_confirmed 7 (some .int) 2 := ⟨qc_X11_confirmed, qi_yX11_confirmed, qs_X11_confirmed, qz_X11, by decide +kernel⟩
theorem qm_L_234 : Cond.methodLink RL 234 yX11_confirmed ∈ gw := tbt (tb5 (List.mem_of_getElem? (i := 94) rfl)) rfl
theorem qc_X12_confirmed : Cond.code yX12_confirmed cX12_confirmed 6 (some .int) ∈ gw := tbt (tb8 (List.mem_of_getElem? (i := 141) rfl)) rfl
theorem qi_yX12_confirmed : Cond.instanceMethod yX12_confirmed ∈ gw := tbt (tb8 (List.mem_of_getElem? (i := 139) rfl)) rfl
theorem qs_X12_confirmed : Cond.selects (yX12_confirmed).cls yX12_confirmed yX12_confirmed ∈ gw := tbt (tb8 (List.mem_of_getElem? (i := 140) rfl)) rfl
theorem ci_X12_confirmed : CIv yX12_confirmed cX12_confirmed 6 (some .int) 2 := ⟨qc_X12_confirmed, qi_yX12_confirmed, qs_X12_confirmed, qz_X12, by decide +kernel⟩
theorem qm_L_237 : Cond.methodLink RL 237 yX12_confirmed ∈ gw := tbt (tb8 (List.mem_of_getElem? (i := 138) rfl)) rfl
theorem qc_X11_sure : Cond.code yX11_sure cX11_sure 4 (some .int) ∈ gw := tbt (tb5 (List.mem_of_getElem? (i := 101) rfl)) rfl
theorem qi_yX11_sure : Cond.instanceMethod yX11_sure ∈ gw := tbt (tb5 (List.mem_of_getElem? (i := 99) rfl)) rfl
theorem qs_X11_sure : Cond.selects (yX11_sure).cls yX11_sure yX11_sure ∈ gw := tbt (tb5 (List.mem_of_getElem? (i := 100) rfl)) rfl
theorem ci_X11_sure : CIv yX11_sure cX11_sure 4 (some .int) 3 := ⟨qc_X11_sure, qi_yX11_sure, qs_X11_sure, qz_X11, by decide +kernel⟩
theorem qm_L_238 : Cond.methodLink RL 238 yX11_sure ∈ gw := tbt (tb5 (List.mem_of_getElem? (i := 98) rfl)) rfl
theorem qc_X12_sure : Cond.code yX12_sure cX12_sure 4 (some .int) ∈ gw := tbt (tb8 (List.mem_of_getElem? (i := 145) rfl)) rfl
theorem qi_yX12_sure : Cond.instanceMethod yX12_sure ∈ gw := tbt (tb8 (List.mem_of_getElem? (i := 143) rfl)) rfl
theorem qs_X12_sure : Cond.selects (yX12_sure).cls yX12_sure yX12_sure ∈ gw := tbt (tb8 (List.mem_of_getElem? (i := 144) rfl)) rfl
theorem ci_X12_sure : CIv yX12_sure cX12_sure 4 (some .int) 3 := ⟨qc_X12_sure, qi_yX12_sure, qs_X12_sure, qz_X12, by decide +kernel⟩
theorem qm_L_241 : Cond.methodLink RL 241 yX12_sure ∈ gw := tbt (tb8 (List.mem_of_getElem? (i := 142) rfl)) rfl
theorem qc_X11_cheap : Cond.code yX11_cheap cX11_cheap 5 (some .int) ∈ gw := tbt (tb5 (List.mem_of_getElem? (i := 105) rfl)) rfl
theorem qi_yX11_cheap : Cond.instanceMethod yX11_cheap ∈ gw := tbt (tb5 (List.mem_of_getElem? (i := 103) rfl)) rfl
theorem qs_X11_cheap : Cond.selects (yX11_cheap).cls yX11_cheap yX11_cheap ∈ gw := tbt (tb5 (List.mem_of_getElem? (i := 104) rfl)) rfl
theorem ci_X11_cheap : CIv yX11_cheap cX11_cheap 5 (some .int) 4 := ⟨qc_X11_cheap, qi_yX11_cheap, qs_X11_cheap, qz_X11, by decide +kernel⟩
theorem qm_L_242 : Cond.methodLink RL 242 yX11_cheap ∈ gw := tbt (tb5 (List.mem_of_getElem? (i := 102) rfl)) rfl
theorem qc_X12_cheap : Cond.code yX12_cheap cX12_cheap 10 (some .int) ∈ gw := tbt (tb8 (List.mem_of_getElem? (i := 149) rfl)) rfl
theorem qi_yX12_cheap : Cond.instanceMethod yX12_cheap ∈ gw := tbt (tb8 (List.mem_of_getElem? (i := 147) rfl)) rfl
theorem qs_X12_cheap : Cond.selects (yX12_cheap).cls yX12_cheap yX12_cheap ∈ gw := tbt (tb8 (List.mem_of_getElem? (i := 148) rfl)) rfl
theorem ci_X12_cheap : CIv yX12_cheap cX12_cheap 10 (some .int) 4 := ⟨qc_X12_cheap, qi_yX12_cheap, qs_X12_cheap, qz_X12, by decide +kernel⟩
theorem qm_L_245 : Cond.methodLink RL 245 yX12_cheap ∈ gw := tbt (tb8 (List.mem_of_getElem? (i := 146) rfl)) rfl
theorem qc_X11_price : Cond.code yX11_price cX11_price 3 (some .int) ∈ gw := tbt (tb5 (List.mem_of_getElem? (i := 118) rfl)) rfl
theorem qi_yX11_price : Cond.instanceMethod yX11_price ∈ gw := tbt (tb5 (List.mem_of_getElem? (i := 116) rfl)) rfl
theorem qs_X11_price : Cond.selects (yX11_price).cls yX11_price yX11_price ∈ gw := tbt (tb5 (List.mem_of_getElem? (i := 117) rfl)) rfl
theorem ci_X11_price : CIv yX11_price cX11_price 3 (some .int) 2 := ⟨qc_X11_price, qi_yX11_price, qs_X11_price, qz_X11, by decide +kernel⟩
theorem qm_L_246 : Cond.methodLink RL 246 yX11_price ∈ gw := tbt (tb5 (List.mem_of_getElem? (i := 115) rfl)) rfl
theorem qc_X12_price : Cond.code yX12_price cX12_price 3 (some .int) ∈ gw := tbt (tb8 (List.mem_of_getElem? (i := 154) rfl)) rfl
theorem qi_yX12_price : Cond.instanceMethod yX12_price ∈ gw := tbt (tb8 (List.mem_of_getElem? (i := 152) rfl)) rfl
theorem qs_X12_price : Cond.selects (yX12_price).cls yX12_price yX12_price ∈ gw := tbt (tb8 (List.mem_of_getElem? (i := 153) rfl)) rfl
theorem ci_X12_price : CIv yX12_price cX12_price 3 (some .int) 2 := ⟨qc_X12_price, qi_yX12_price, qs_X12_price, qz_X12, by decide +kernel⟩
theorem qm_L_249 : Cond.methodLink RL 249 yX12_price ∈ gw := tbt (tb8 (List.mem_of_getElem? (i := 151) rfl)) rfl
theorem qc_X11_priceSeen : Cond.code yX11_priceSeen cX11_priceSeen 5 (some .int) ∈ gw := tbt (tb5 (List.mem_of_getElem? (i := 126) rfl)) rfl
theorem qi_yX11_priceSeen : Cond.instanceMethod yX11_priceSeen ∈ gw := tbt (tb5 (List.mem_of_getElem? (i := 124) rfl)) rfl
theorem qs_X11_priceSeen : Cond.selects (yX11_priceSeen).cls yX11_priceSeen yX11_priceSeen ∈ gw := tbt (tb5 (List.mem_of_getElem? (i := 125) rfl)) rfl
theorem ci_X11_priceSeen : CIv yX11_priceSeen cX11_priceSeen 5 (some .int) 3 := ⟨qc_X11_priceSeen, qi_yX11_priceSeen, qs_X11_priceSeen, qz_X11, by decide +kernel⟩
theorem qm_L_250 : Cond.methodLink RL 250 yX11_priceSeen ∈ gw := tbt (tb5 (List.mem_of_getElem? (i := 123) rfl)) rfl
theorem qc_X12_priceSeen : Cond.code yX12_priceSeen cX12_priceSeen 5 (some .int) ∈ gw := tbt (tb8 (List.mem_of_getElem? (i := 162) rfl)) rfl
theorem qi_yX12_priceSeen : Cond.instanceMethod yX12_priceSeen ∈ gw := tbt (tb8 (List.mem_of_getElem? (i := 160) rfl)) rfl
theorem qs_X12_priceSeen : Cond.selects (yX12_priceSeen).cls yX12_priceSeen yX12_priceSeen ∈ gw := tbt (tb8 (List.mem_of_getElem? (i := 161) rfl)) rfl
theorem ci_X12_priceSeen : CIv yX12_priceSeen cX12_priceSeen 5 (some .int) 3 := ⟨qc_X12_priceSeen, qi_yX12_priceSeen, qs_X12_priceSeen, qz_X12, by decide +kernel⟩
theorem qm_L_253 : Cond.methodLink RL 253 yX12_priceSeen ∈ gw := tbt (tb8 (List.mem_of_getElem? (i := 159) rfl)) rfl
theorem qc_X11_gain : Cond.code yX11_gain cX11_gain 4 (some .int) ∈ gw := tbt (tb5 (List.mem_of_getElem? (i := 130) rfl)) rfl
theorem qi_yX11_gain : Cond.instanceMethod yX11_gain ∈ gw := tbt (tb5 (List.mem_of_getElem? (i := 128) rfl)) rfl
theorem qs_X11_gain : Cond.selects (yX11_gain).cls yX11_gain yX11_gain ∈ gw := tbt (tb5 (List.mem_of_getElem? (i := 129) rfl)) rfl
theorem ci_X11_gain : CIv yX11_gain cX11_gain 4 (some .int) 3 := ⟨qc_X11_gain, qi_yX11_gain, qs_X11_gain, qz_X11, by decide +kernel⟩
theorem qm_L_254 : Cond.methodLink RL 254 yX11_gain ∈ gw := tbt (tb5 (List.mem_of_getElem? (i := 127) rfl)) rfl
theorem qc_X12_gain : Cond.code yX12_gain cX12_gain 4 (some .int) ∈ gw := tbt (tb8 (List.mem_of_getElem? (i := 166) rfl)) rfl
theorem qi_yX12_gain : Cond.instanceMethod yX12_gain ∈ gw := tbt (tb8 (List.mem_of_getElem? (i := 164) rfl)) rfl
theorem qs_X12_gain : Cond.selects (yX12_gain).cls yX12_gain yX12_gain ∈ gw := tbt (tb8 (List.mem_of_getElem? (i := 165) rfl)) rfl
theorem ci_X12_gain : CIv yX12_gain cX12_gain 4 (some .int) 3 := ⟨qc_X12_gain, qi_yX12_gain, qs_X12_gain, qz_X12, by decide +kernel⟩
theorem qm_L_257 : Cond.methodLink RL 257 yX12_gain ∈ gw := tbt (tb8 (List.mem_of_getElem? (i := 163) rfl)) rfl
theorem qc_X11_hoped : Cond.code yX11_hoped cX11_hoped 5 (some .int) ∈ gw := tbt (tb5 (List.mem_of_getElem? (i := 140) rfl)) rfl
theorem qi_yX11_hoped : Cond.instanceMethod yX11_hoped ∈ gw := tbt (tb5 (List.mem_of_getElem? (i := 138) rfl)) rfl
theorem qs_X11_hoped : Cond.selects (yX11_hoped).cls yX11_hoped yX11_hoped ∈ gw := tbt (tb5 (List.mem_of_getElem? (i := 139) rfl)) rfl
theorem ci_X11_hoped : CIv yX11_hoped cX11_hoped 5 (some .int) 3 := ⟨qc_X11_hoped, qi_yX11_hoped, qs_X11_hoped, qz_X11, by decide +kernel⟩
theorem qm_L_258 : Cond.methodLink RL 258 yX11_hoped ∈ gw := tbt (tb5 (List.mem_of_getElem? (i := 137) rfl)) rfl
theorem qc_X12_hoped : Cond.code yX12_hoped cX12_hoped 5 (some .int) ∈ gw := tbt (tb8 (List.mem_of_getElem? (i := 174) rfl)) rfl
theorem qi_yX12_hoped : Cond.instanceMethod yX12_hoped ∈ gw := tbt (tb8 (List.mem_of_getElem? (i := 172) rfl)) rfl
theorem qs_X12_hoped : Cond.selects (yX12_hoped).cls yX12_hoped yX12_hoped ∈ gw := tbt (tb8 (List.mem_of_getElem? (i := 173) rfl)) rfl
theorem ci_X12_hoped : CIv yX12_hoped cX12_hoped 5 (some .int) 3 := ⟨qc_X12_hoped, qi_yX12_hoped, qs_X12_hoped, qz_X12, by decide +kernel⟩
theorem qm_L_261 : Cond.methodLink RL 261 yX12_hoped ∈ gw := tbt (tb8 (List.mem_of_getElem? (i := 171) rfl)) rfl
theorem qc_X11_market : Cond.code yX11_market cX11_market 7 (some .int) ∈ gw := tbt (tb5 (List.mem_of_getElem? (i := 144) rfl)) rfl
theorem qi_yX11_market : Cond.instanceMethod yX11_market ∈ gw := tbt (tb5 (List.mem_of_getElem? (i := 142) rfl)) rfl
theorem qs_X11_market : Cond.selects (yX11_market).cls yX11_market yX11_market ∈ gw := tbt (tb5 (List.mem_of_getElem? (i := 143) rfl)) rfl
theorem ci_X11_market : CIv yX11_market cX11_market 7 (some .int) 2 := ⟨qc_X11_market, qi_yX11_market, qs_X11_market, qz_X11, by decide +kernel⟩
theorem qm_L_262 : Cond.methodLink RL 262 yX11_market ∈ gw := tbt (tb5 (List.mem_of_getElem? (i := 141) rfl)) rfl
theorem qc_X12_market : Cond.code yX12_market cX12_market 5 (some .int) ∈ gw := tbt (tb8 (List.mem_of_getElem? (i := 178) rfl)) rfl
theorem qi_yX12_market : Cond.instanceMethod yX12_market ∈ gw := tbt (tb8 (List.mem_of_getElem? (i := 176) rfl)) rfl
theorem qs_X12_market : Cond.selects (yX12_market).cls yX12_market yX12_market ∈ gw := tbt (tb8 (List.mem_of_getElem? (i := 177) rfl)) rfl
theorem ci_X12_market : CIv yX12_market cX12_market 5 (some .int) 2 := ⟨qc_X12_market, qi_yX12_market, qs_X12_market, qz_X12, by decide +kernel⟩
theorem qm_L_265 : Cond.methodLink RL 265 yX12_market ∈ gw := tbt (tb8 (List.mem_of_getElem? (i := 175) rfl)) rfl
theorem qc_X11_meanPrice : Cond.code yX11_meanPrice cX11_meanPrice 8 (some .boolean) ∈ gw := tbt (tb5 (List.mem_of_getElem? (i := 148) rfl)) rfl
theorem qi_yX11_meanPrice : Cond.instanceMethod yX11_meanPrice ∈ gw := tbt (tb5 (List.mem_of_getElem? (i := 146) rfl)) rfl
theorem qs_X11_meanPrice : Cond.selects (yX11_meanPrice).cls yX11_meanPrice yX11_meanPrice ∈ gw := tbt (tb5 (List.mem_of_getElem? (i := 147) rfl)) rfl
theorem ci_X11_meanPrice : CIv yX11_meanPrice cX11_meanPrice 8 (some .boolean) 3 := ⟨qc_X11_meanPrice, qi_yX11_meanPrice, qs_X11_meanPrice, qz_X11, by decide +kernel⟩
theorem qm_L_266 : Cond.methodLink RL 266 yX11_meanPrice ∈ gw := tbt (tb5 (List.mem_of_getElem? (i := 145) rfl)) rfl
theorem qc_X12_meanPrice : Cond.code yX12_meanPrice cX12_meanPrice 7 (some .boolean) ∈ gw := tbt (tb8 (List.mem_of_getElem? (i := 182) rfl)) rfl
theorem qi_yX12_meanPrice : Cond.instanceMethod yX12_meanPrice ∈ gw := tbt (tb8 (List.mem_of_getElem? (i := 180) rfl)) rfl
theorem qs_X12_meanPrice : Cond.selects (yX12_meanPrice).cls yX12_meanPrice yX12_meanPrice ∈ gw := tbt (tb8 (List.mem_of_getElem? (i := 181) rfl)) rfl
theorem ci_X12_meanPrice : CIv yX12_meanPrice cX12_meanPrice 7 (some .boolean) 3 := ⟨qc_X12_meanPrice, qi_yX12_meanPrice, qs_X12_meanPrice, qz_X12, by decide +kernel⟩
theorem qm_L_269 : Cond.methodLink RL 269 yX12_meanPrice ∈ gw := tbt (tb8 (List.mem_of_getElem? (i := 179) rfl)) rfl
theorem qc_X11_pass : Cond.code yX11_pass cX11_pass 2 (some .int) ∈ gw := tbt (tb5 (List.mem_of_getElem? (i := 162) rfl)) rfl
theorem qi_yX11_pass : Cond.instanceMethod yX11_pass ∈ gw := tbt (tb5 (List.mem_of_getElem? (i := 160) rfl)) rfl
theorem qs_X11_pass : Cond.selects (yX11_pass).cls yX11_pass yX11_pass ∈ gw := tbt (tb5 (List.mem_of_getElem? (i := 161) rfl)) rfl
theorem ci_X11_pass : CIv yX11_pass cX11_pass 2 (some .int) 1 := ⟨qc_X11_pass, qi_yX11_pass, qs_X11_pass, qz_X11, by decide +kernel⟩
theorem qm_L_270 : Cond.methodLink RL 270 yX11_pass ∈ gw := tbt (tb5 (List.mem_of_getElem? (i := 159) rfl)) rfl
theorem qc_X12_pass : Cond.code yX12_pass cX12_pass 4 (some .int) ∈ gw := tbt (tb8 (List.mem_of_getElem? (i := 190) rfl)) rfl
theorem qi_yX12_pass : Cond.instanceMethod yX12_pass ∈ gw := tbt (tb8 (List.mem_of_getElem? (i := 188) rfl)) rfl
theorem qs_X12_pass : Cond.selects (yX12_pass).cls yX12_pass yX12_pass ∈ gw := tbt (tb8 (List.mem_of_getElem? (i := 189) rfl)) rfl
theorem ci_X12_pass : CIv yX12_pass cX12_pass 4 (some .int) 1 := ⟨qc_X12_pass, qi_yX12_pass, qs_X12_pass, qz_X12, by decide +kernel⟩
theorem qm_L_273 : Cond.methodLink RL 273 yX12_pass ∈ gw := tbt (tb8 (List.mem_of_getElem? (i := 187) rfl)) rfl
theorem qc_X11_wore : Cond.code yX11_wore cX11_wore 3 (some .int) ∈ gw := tbt (tb5 (List.mem_of_getElem? (i := 179) rfl)) rfl
theorem qi_yX11_wore : Cond.instanceMethod yX11_wore ∈ gw := tbt (tb5 (List.mem_of_getElem? (i := 177) rfl)) rfl
theorem qs_X11_wore : Cond.selects (yX11_wore).cls yX11_wore yX11_wore ∈ gw := tbt (tb5 (List.mem_of_getElem? (i := 178) rfl)) rfl
theorem ci_X11_wore : CIv yX11_wore cX11_wore 3 (some .int) 2 := ⟨qc_X11_wore, qi_yX11_wore, qs_X11_wore, qz_X11, by decide +kernel⟩
theorem qm_L_274 : Cond.methodLink RL 274 yX11_wore ∈ gw := tbt (tb5 (List.mem_of_getElem? (i := 176) rfl)) rfl
theorem qc_X12_wore : Cond.code yX12_wore cX12_wore 3 (some .int) ∈ gw := tbt (tb8 (List.mem_of_getElem? (i := 207) rfl)) rfl
theorem qi_yX12_wore : Cond.instanceMethod yX12_wore ∈ gw := tbt (tb8 (List.mem_of_getElem? (i := 205) rfl)) rfl
theorem qs_X12_wore : Cond.selects (yX12_wore).cls yX12_wore yX12_wore ∈ gw := tbt (tb8 (List.mem_of_getElem? (i := 206) rfl)) rfl
theorem ci_X12_wore : CIv yX12_wore cX12_wore 3 (some .int) 2 := ⟨qc_X12_wore, qi_yX12_wore, qs_X12_wore, qz_X12, by decide +kernel⟩
theorem qm_L_277 : Cond.methodLink RL 277 yX12_wore ∈ gw := tbt (tb8 (List.mem_of_getElem? (i := 204) rfl)) rfl
theorem qc_X11_wear : Cond.code yX11_wear cX11_wear 3 (some .boolean) ∈ gw := tbt (tb5 (List.mem_of_getElem? (i := 184) rfl)) rfl
theorem qi_yX11_wear : Cond.instanceMethod yX11_wear ∈ gw := tbt (tb5 (List.mem_of_getElem? (i := 182) rfl)) rfl
theorem qs_X11_wear : Cond.selects (yX11_wear).cls yX11_wear yX11_wear ∈ gw := tbt (tb5 (List.mem_of_getElem? (i := 183) rfl)) rfl
theorem ci_X11_wear : CIv yX11_wear cX11_wear 3 (some .boolean) 2 := ⟨qc_X11_wear, qi_yX11_wear, qs_X11_wear, qz_X11, by decide +kernel⟩
theorem qm_L_278 : Cond.methodLink RL 278 yX11_wear ∈ gw := tbt (tb5 (List.mem_of_getElem? (i := 181) rfl)) rfl
theorem qc_X12_wear : Cond.code yX12_wear cX12_wear 3 (some .boolean) ∈ gw := tbt (tb8 (List.mem_of_getElem? (i := 211) rfl)) rfl
theorem qi_yX12_wear : Cond.instanceMethod yX12_wear ∈ gw := tbt (tb8 (List.mem_of_getElem? (i := 209) rfl)) rfl
theorem qs_X12_wear : Cond.selects (yX12_wear).cls yX12_wear yX12_wear ∈ gw := tbt (tb8 (List.mem_of_getElem? (i := 210) rfl)) rfl
theorem ci_X12_wear : CIv yX12_wear cX12_wear 3 (some .boolean) 2 := ⟨qc_X12_wear, qi_yX12_wear, qs_X12_wear, qz_X12, by decide +kernel⟩
theorem qm_L_282 : Cond.methodLink RL 282 yX12_wear ∈ gw := tbt (tb8 (List.mem_of_getElem? (i := 208) rfl)) rfl
theorem qc_X11_fashion : Cond.code yX11_fashion cX11_fashion 4 (some .int) ∈ gw := tbt (tb5 (List.mem_of_getElem? (i := 192) rfl)) rfl
theorem qi_yX11_fashion : Cond.instanceMethod yX11_fashion ∈ gw := tbt (tb5 (List.mem_of_getElem? (i := 190) rfl)) rfl
theorem qs_X11_fashion : Cond.selects (yX11_fashion).cls yX11_fashion yX11_fashion ∈ gw := tbt (tb5 (List.mem_of_getElem? (i := 191) rfl)) rfl
theorem ci_X11_fashion : CIv yX11_fashion cX11_fashion 4 (some .int) 2 := ⟨qc_X11_fashion, qi_yX11_fashion, qs_X11_fashion, qz_X11, by decide +kernel⟩
theorem qm_L_283 : Cond.methodLink RL 283 yX11_fashion ∈ gw := tbt (tb5 (List.mem_of_getElem? (i := 189) rfl)) rfl
theorem qc_X12_fashion : Cond.code yX12_fashion cX12_fashion 3 (some .int) ∈ gw := tbt (tb8 (List.mem_of_getElem? (i := 219) rfl)) rfl
theorem qi_yX12_fashion : Cond.instanceMethod yX12_fashion ∈ gw := tbt (tb8 (List.mem_of_getElem? (i := 217) rfl)) rfl
theorem qs_X12_fashion : Cond.selects (yX12_fashion).cls yX12_fashion yX12_fashion ∈ gw := tbt (tb8 (List.mem_of_getElem? (i := 218) rfl)) rfl
theorem ci_X12_fashion : CIv yX12_fashion cX12_fashion 3 (some .int) 2 := ⟨qc_X12_fashion, qi_yX12_fashion, qs_X12_fashion, qz_X12, by decide +kernel⟩
theorem qm_L_286 : Cond.methodLink RL 286 yX12_fashion ∈ gw := tbt (tb8 (List.mem_of_getElem? (i := 216) rfl)) rfl
theorem qc_X11_follows : Cond.code yX11_follows cX11_follows 3 (some .int) ∈ gw := tbt (tb5 (List.mem_of_getElem? (i := 196) rfl)) rfl
theorem qi_yX11_follows : Cond.instanceMethod yX11_follows ∈ gw := tbt (tb5 (List.mem_of_getElem? (i := 194) rfl)) rfl
theorem qs_X11_follows : Cond.selects (yX11_follows).cls yX11_follows yX11_follows ∈ gw := tbt (tb5 (List.mem_of_getElem? (i := 195) rfl)) rfl
theorem ci_X11_follows : CIv yX11_follows cX11_follows 3 (some .int) 2 := ⟨qc_X11_follows, qi_yX11_follows, qs_X11_follows, qz_X11, by decide +kernel⟩
theorem qm_L_287 : Cond.methodLink RL 287 yX11_follows ∈ gw := tbt (tb5 (List.mem_of_getElem? (i := 193) rfl)) rfl
theorem qc_X12_follows : Cond.code yX12_follows cX12_follows 3 (some .int) ∈ gw := tbt (tb8 (List.mem_of_getElem? (i := 223) rfl)) rfl
theorem qi_yX12_follows : Cond.instanceMethod yX12_follows ∈ gw := tbt (tb8 (List.mem_of_getElem? (i := 221) rfl)) rfl
theorem qs_X12_follows : Cond.selects (yX12_follows).cls yX12_follows yX12_follows ∈ gw := tbt (tb8 (List.mem_of_getElem? (i := 222) rfl)) rfl
theorem ci_X12_follows : CIv yX12_follows cX12_follows 3 (some .int) 2 := ⟨qc_X12_follows, qi_yX12_follows, qs_X12_follows, qz_X12, by decide +kernel⟩
theorem qm_L_290 : Cond.methodLink RL 290 yX12_follows ∈ gw := tbt (tb8 (List.mem_of_getElem? (i := 220) rfl)) rfl
theorem qc_X11_model : Cond.code yX11_model cX11_model 6 (some .int) ∈ gw := tbt (tb5 (List.mem_of_getElem? (i := 204) rfl)) rfl
theorem qi_yX11_model : Cond.instanceMethod yX11_model ∈ gw := tbt (tb5 (List.mem_of_getElem? (i := 202) rfl)) rfl
theorem qs_X11_model : Cond.selects (yX11_model).cls yX11_model yX11_model ∈ gw := tbt (tb5 (List.mem_of_getElem? (i := 203) rfl)) rfl
theorem ci_X11_model : CIv yX11_model cX11_model 6 (some .int) 1 := ⟨qc_X11_model, qi_yX11_model, qs_X11_model, qz_X11, by decide +kernel⟩
theorem qm_L_291 : Cond.methodLink RL 291 yX11_model ∈ gw := tbt (tb5 (List.mem_of_getElem? (i := 201) rfl)) rfl
theorem qc_X12_model : Cond.code yX12_model cX12_model 6 (some .int) ∈ gw := tbt (tb8 (List.mem_of_getElem? (i := 231) rfl)) rfl
theorem qi_yX12_model : Cond.instanceMethod yX12_model ∈ gw := tbt (tb8 (List.mem_of_getElem? (i := 229) rfl)) rfl
theorem qs_X12_model : Cond.selects (yX12_model).cls yX12_model yX12_model ∈ gw := tbt (tb8 (List.mem_of_getElem? (i := 230) rfl)) rfl
theorem ci_X12_model : CIv yX12_model cX12_model 6 (some .int) 1 := ⟨qc_X12_model, qi_yX12_model, qs_X12_model, qz_X12, by decide +kernel⟩
theorem qm_L_294 : Cond.methodLink RL 294 yX12_model ∈ gw := tbt (tb8 (List.mem_of_getElem? (i := 228) rfl)) rfl
theorem qc_X11_changes : Cond.code yX11_changes cX11_changes 5 (some .int) ∈ gw := tbt (tb5 (List.mem_of_getElem? (i := 208) rfl)) rfl
theorem qi_yX11_changes : Cond.instanceMethod yX11_changes ∈ gw := tbt (tb5 (List.mem_of_getElem? (i := 206) rfl)) rfl
theorem qs_X11_changes : Cond.selects (yX11_changes).cls yX11_changes yX11_changes ∈ gw := tbt (tb5 (List.mem_of_getElem? (i := 207) rfl)) rfl
theorem ci_X11_changes : CIv yX11_changes cX11_changes 5 (some .int) 1 := ⟨qc_X11_changes, qi_yX11_changes, qs_X11_changes, qz_X11, by decide +kernel⟩
theorem qm_L_295 : Cond.methodLink RL 295 yX11_changes ∈ gw := tbt (tb5 (List.mem_of_getElem? (i := 205) rfl)) rfl
theorem qc_X12_changes : Cond.code yX12_changes cX12_changes 4 (some .int) ∈ gw := tbt (tb8 (List.mem_of_getElem? (i := 239) rfl)) rfl
theorem qi_yX12_changes : Cond.instanceMethod yX12_changes ∈ gw := tbt (tb8 (List.mem_of_getElem? (i := 237) rfl)) rfl
theorem qs_X12_changes : Cond.selects (yX12_changes).cls yX12_changes yX12_changes ∈ gw := tbt (tb8 (List.mem_of_getElem? (i := 238) rfl)) rfl
theorem ci_X12_changes : CIv yX12_changes cX12_changes 4 (some .int) 1 := ⟨qc_X12_changes, qi_yX12_changes, qs_X12_changes, qz_X12, by decide +kernel⟩
theorem qm_L_298 : Cond.methodLink RL 298 yX12_changes ∈ gw := tbt (tb8 (List.mem_of_getElem? (i := 236) rfl)) rfl
theorem qc_X11_uniform : Cond.code yX11_uniform cX11_uniform 5 (some .int) ∈ gw := tbt (tb5 (List.mem_of_getElem? (i := 212) rfl)) rfl
theorem qi_yX11_uniform : Cond.instanceMethod yX11_uniform ∈ gw := tbt (tb5 (List.mem_of_getElem? (i := 210) rfl)) rfl
theorem qs_X11_uniform : Cond.selects (yX11_uniform).cls yX11_uniform yX11_uniform ∈ gw := tbt (tb5 (List.mem_of_getElem? (i := 211) rfl)) rfl
theorem ci_X11_uniform : CIv yX11_uniform cX11_uniform 5 (some .int) 0 := ⟨qc_X11_uniform, qi_yX11_uniform, qs_X11_uniform, qz_X11, by decide +kernel⟩
theorem qm_L_299 : Cond.methodLink RL 299 yX11_uniform ∈ gw := tbt (tb5 (List.mem_of_getElem? (i := 209) rfl)) rfl
theorem qc_X12_uniform : Cond.code yX12_uniform cX12_uniform 3 (some .int) ∈ gw := tbt (tb8 (List.mem_of_getElem? (i := 235) rfl)) rfl
theorem qi_yX12_uniform : Cond.instanceMethod yX12_uniform ∈ gw := tbt (tb8 (List.mem_of_getElem? (i := 233) rfl)) rfl
theorem qs_X12_uniform : Cond.selects (yX12_uniform).cls yX12_uniform yX12_uniform ∈ gw := tbt (tb8 (List.mem_of_getElem? (i := 234) rfl)) rfl
theorem ci_X12_uniform : CIv yX12_uniform cX12_uniform 3 (some .int) 0 := ⟨qc_X12_uniform, qi_yX12_uniform, qs_X12_uniform, qz_X12, by decide +kernel⟩
theorem qm_L_302 : Cond.methodLink RL 302 yX12_uniform ∈ gw := tbt (tb8 (List.mem_of_getElem? (i := 232) rfl)) rfl
theorem qc_X11_live : Cond.code yX11_live cX11_live 2 (some .int) ∈ gw := tbt (tb5 (List.mem_of_getElem? (i := 216) rfl)) rfl
theorem qi_yX11_live : Cond.instanceMethod yX11_live ∈ gw := tbt (tb5 (List.mem_of_getElem? (i := 214) rfl)) rfl
theorem qs_X11_live : Cond.selects (yX11_live).cls yX11_live yX11_live ∈ gw := tbt (tb5 (List.mem_of_getElem? (i := 215) rfl)) rfl
theorem ci_X11_live : CIv yX11_live cX11_live 2 (some .int) 1 := ⟨qc_X11_live, qi_yX11_live, qs_X11_live, qz_X11, by decide +kernel⟩
theorem qm_L_303 : Cond.methodLink RL 303 yX11_live ∈ gw := tbt (tb5 (List.mem_of_getElem? (i := 213) rfl)) rfl
theorem qc_X12_live : Cond.code yX12_live cX12_live 3 (some .int) ∈ gw := tbt (tb9 (List.mem_of_getElem? (i := 3) rfl)) rfl
theorem qi_yX12_live : Cond.instanceMethod yX12_live ∈ gw := tbt (tb9 (List.mem_of_getElem? (i := 1) rfl)) rfl
theorem qs_X12_live : Cond.selects (yX12_live).cls yX12_live yX12_live ∈ gw := tbt (tb9 (List.mem_of_getElem? (i := 2) rfl)) rfl
theorem ci_X12_live : CIv yX12_live cX12_live 3 (some .int) 1 := ⟨qc_X12_live, qi_yX12_live, qs_X12_live, qz_X12, by decide +kernel⟩
theorem qm_L_306 : Cond.methodLink RL 306 yX12_live ∈ gw := tbt (tb9 (List.mem_of_getElem? (i := 0) rfl)) rfl
theorem qc_X11_lived : Cond.code yX11_lived cX11_lived 2 (some .int) ∈ gw := tbt (tb6 (List.mem_of_getElem? (i := 10) rfl)) rfl
theorem qi_yX11_lived : Cond.instanceMethod yX11_lived ∈ gw := tbt (tb6 (List.mem_of_getElem? (i := 8) rfl)) rfl
theorem qs_X11_lived : Cond.selects (yX11_lived).cls yX11_lived yX11_lived ∈ gw := tbt (tb6 (List.mem_of_getElem? (i := 9) rfl)) rfl
theorem ci_X11_lived : CIv yX11_lived cX11_lived 2 (some .int) 1 := ⟨qc_X11_lived, qi_yX11_lived, qs_X11_lived, qz_X11, by decide +kernel⟩
theorem qm_L_307 : Cond.methodLink RL 307 yX11_lived ∈ gw := tbt (tb6 (List.mem_of_getElem? (i := 7) rfl)) rfl
theorem qc_X12_lived : Cond.code yX12_lived cX12_lived 2 (some .int) ∈ gw := tbt (tb9 (List.mem_of_getElem? (i := 29) rfl)) rfl
theorem qi_yX12_lived : Cond.instanceMethod yX12_lived ∈ gw := tbt (tb9 (List.mem_of_getElem? (i := 27) rfl)) rfl
theorem qs_X12_lived : Cond.selects (yX12_lived).cls yX12_lived yX12_lived ∈ gw := tbt (tb9 (List.mem_of_getElem? (i := 28) rfl)) rfl
theorem ci_X12_lived : CIv yX12_lived cX12_lived 2 (some .int) 1 := ⟨qc_X12_lived, qi_yX12_lived, qs_X12_lived, qz_X12, by decide +kernel⟩
theorem qm_L_310 : Cond.methodLink RL 310 yX12_lived ∈ gw := tbt (tb9 (List.mem_of_getElem? (i := 26) rfl)) rfl
theorem qc_X11_mean : Cond.code yX11_mean cX11_mean 5 (some .boolean) ∈ gw := tbt (tb6 (List.mem_of_getElem? (i := 14) rfl)) rfl
theorem qi_yX11_mean : Cond.instanceMethod yX11_mean ∈ gw := tbt (tb6 (List.mem_of_getElem? (i := 12) rfl)) rfl
theorem qs_X11_mean : Cond.selects (yX11_mean).cls yX11_mean yX11_mean ∈ gw := tbt (tb6 (List.mem_of_getElem? (i := 13) rfl)) rfl
theorem ci_X11_mean : CIv yX11_mean cX11_mean 5 (some .boolean) 2 := ⟨qc_X11_mean, qi_yX11_mean, qs_X11_mean, qz_X11, by decide +kernel⟩
theorem qm_L_311 : Cond.methodLink RL 311 yX11_mean ∈ gw := tbt (tb6 (List.mem_of_getElem? (i := 11) rfl)) rfl
theorem qc_X12_mean : Cond.code yX12_mean cX12_mean 7 (some .boolean) ∈ gw := tbt (tb9 (List.mem_of_getElem? (i := 33) rfl)) rfl
theorem qi_yX12_mean : Cond.instanceMethod yX12_mean ∈ gw := tbt (tb9 (List.mem_of_getElem? (i := 31) rfl)) rfl
theorem qs_X12_mean : Cond.selects (yX12_mean).cls yX12_mean yX12_mean ∈ gw := tbt (tb9 (List.mem_of_getElem? (i := 32) rfl)) rfl
theorem ci_X12_mean : CIv yX12_mean cX12_mean 7 (some .boolean) 2 := ⟨qc_X12_mean, qi_yX12_mean, qs_X12_mean, qz_X12, by decide +kernel⟩
theorem qm_L_314 : Cond.methodLink RL 314 yX12_mean ∈ gw := tbt (tb9 (List.mem_of_getElem? (i := 30) rfl)) rfl
theorem qc_X11_mark : Cond.code yX11_mark cX11_mark 1 (some .int) ∈ gw := tbt (tb6 (List.mem_of_getElem? (i := 23) rfl)) rfl
theorem qi_yX11_mark : Cond.instanceMethod yX11_mark ∈ gw := tbt (tb6 (List.mem_of_getElem? (i := 21) rfl)) rfl
theorem qs_X11_mark : Cond.selects (yX11_mark).cls yX11_mark yX11_mark ∈ gw := tbt (tb6 (List.mem_of_getElem? (i := 22) rfl)) rfl
theorem ci_X11_mark : CIv yX11_mark cX11_mark 1 (some .int) 0 := ⟨qc_X11_mark, qi_yX11_mark, qs_X11_mark, qz_X11, by decide +kernel⟩
theorem qm_L_315 : Cond.methodLink RL 315 yX11_mark ∈ gw := tbt (tb6 (List.mem_of_getElem? (i := 20) rfl)) rfl
theorem qc_X12_mark : Cond.code yX12_mark cX12_mark 1 (some .int) ∈ gw := tbt (tb9 (List.mem_of_getElem? (i := 41) rfl)) rfl
theorem qi_yX12_mark : Cond.instanceMethod yX12_mark ∈ gw := tbt (tb9 (List.mem_of_getElem? (i := 39) rfl)) rfl
theorem qs_X12_mark : Cond.selects (yX12_mark).cls yX12_mark yX12_mark ∈ gw := tbt (tb9 (List.mem_of_getElem? (i := 40) rfl)) rfl
theorem ci_X12_mark : CIv yX12_mark cX12_mark 1 (some .int) 0 := ⟨qc_X12_mark, qi_yX12_mark, qs_X12_mark, qz_X12, by decide +kernel⟩
theorem qm_L_318 : Cond.methodLink RL 318 yX12_mark ∈ gw := tbt (tb9 (List.mem_of_getElem? (i := 38) rfl)) rfl
theorem qc_X11_back : Cond.code yX11_back cX11_back 1 (some .int) ∈ gw := tbt (tb6 (List.mem_of_getElem? (i := 33) rfl)) rfl
theorem qi_yX11_back : Cond.instanceMethod yX11_back ∈ gw := tbt (tb6 (List.mem_of_getElem? (i := 31) rfl)) rfl
theorem qs_X11_back : Cond.selects (yX11_back).cls yX11_back yX11_back ∈ gw := tbt (tb6 (List.mem_of_getElem? (i := 32) rfl)) rfl
theorem ci_X11_back : CIv yX11_back cX11_back 1 (some .int) 0 := ⟨qc_X11_back, qi_yX11_back, qs_X11_back, qz_X11, by decide +kernel⟩
theorem qm_L_319 : Cond.methodLink RL 319 yX11_back ∈ gw := tbt (tb6 (List.mem_of_getElem? (i := 30) rfl)) rfl
theorem qc_X12_back : Cond.code yX12_back cX12_back 1 (some .int) ∈ gw := tbt (tb9 (List.mem_of_getElem? (i := 49) rfl)) rfl
theorem qi_yX12_back : Cond.instanceMethod yX12_back ∈ gw := tbt (tb9 (List.mem_of_getElem? (i := 47) rfl)) rfl
theorem qs_X12_back : Cond.selects (yX12_back).cls yX12_back yX12_back ∈ gw := tbt (tb9 (List.mem_of_getElem? (i := 48) rfl)) rfl
theorem ci_X12_back : CIv yX12_back cX12_back 1 (some .int) 0 := ⟨qc_X12_back, qi_yX12_back, qs_X12_back, qz_X12, by decide +kernel⟩
theorem qm_L_322 : Cond.methodLink RL 322 yX12_back ∈ gw := tbt (tb9 (List.mem_of_getElem? (i := 46) rfl)) rfl
theorem dL_law_0 : decode cL_law 0 = .ok (.new 7, 3) := by decide +kernel
theorem dL_law_3 : decode cL_law 3 = .ok (.dup, 1) := by decide +kernel
theorem dL_law_4 : decode cL_law 4 = .ok (.invokespecial 9, 3) := by decide +kernel
theorem dL_law_7 : decode cL_law 7 = .ok (.astore_n 1, 1) := by decide +kernel
theorem dL_law_8 : decode cL_law 8 = .ok (.new 10, 3) := by decide +kernel
theorem dL_law_11 : decode cL_law 11 = .ok (.dup, 1) := by decide +kernel
theorem dL_law_12 : decode cL_law 12 = .ok (.invokespecial 12, 3) := by decide +kernel
theorem dL_law_15 : decode cL_law 15 = .ok (.astore_n 2, 1) := by decide +kernel
theorem dL_law_16 : decode cL_law 16 = .ok (.iconst 0, 1) := by decide +kernel
theorem dL_law_17 : decode cL_law 17 = .ok (.istore_n 3, 1) := by decide +kernel
theorem dL_law_18 : decode cL_law 18 = .ok (.iload_n 3, 1) := by decide +kernel
theorem dL_law_19 : decode cL_law 19 = .ok (.aload_n 0, 1) := by decide +kernel
theorem dL_law_20 : decode cL_law 20 = .ok (.arraylength, 1) := by decide +kernel
theorem dL_law_21 : decode cL_law 21 = .ok (.bipush 6, 2) := by decide +kernel
theorem dL_law_23 : decode cL_law 23 = .ok (.isub, 1) := by decide +kernel
theorem dL_law_24 : decode cL_law 24 = .ok (.if_icmp .gt 2831, 3) := by decide +kernel
theorem dL_law_27 : decode cL_law 27 = .ok (.aload_n 0, 1) := by decide +kernel
theorem dL_law_28 : decode cL_law 28 = .ok (.iload_n 3, 1) := by decide +kernel
theorem dL_law_29 : decode cL_law 29 = .ok (.iaload, 1) := by decide +kernel
theorem dL_law_30 : decode cL_law 30 = .ok (.bipush 127, 2) := by decide +kernel
theorem dL_law_32 : decode cL_law 32 = .ok (.iand, 1) := by decide +kernel
theorem dL_law_33 : decode cL_law 33 = .ok (.tableswitch 2816 0 73 #[311, 324, 338, 352, 395, 468, 502, 565, 628, 651, 674, 697, 720, 753, 786, 819, 872, 915, 958, 1001, 1044, 1077, 1130, 1153, 1196, 1219, 1272, 1315, 1358, 1401, 1444, 1477, 1520, 1553, 1576, 1609, 1642, 1665, 1688, 1721, 1754, 1787, 1820, 1863, 1896, 1909, 1932, 1965, 1998, 2011, 2054, 2097, 2130, 2163, 2206, 2259, 2292, 2335, 2378, 2421, 2454, 2497, 2520, 2553, 2586, 2619, 2652, 2675, 2698, 2711, 2734, 2757, 2790, 2803], 311) := by decide +kernel
theorem dL_law_344 : decode cL_law 344 = .ok (.aload_n 1, 1) := by decide +kernel
theorem dL_law_345 : decode cL_law 345 = .ok (.invokevirtual 13, 3) := by decide +kernel
theorem dL_law_348 : decode cL_law 348 = .ok (.aload_n 2, 1) := by decide +kernel
theorem dL_law_349 : decode cL_law 349 = .ok (.invokevirtual 17, 3) := by decide +kernel
theorem dL_law_352 : decode cL_law 352 = .ok (.if_icmp .eq 2497, 3) := by decide +kernel
theorem dL_law_357 : decode cL_law 357 = .ok (.aload_n 1, 1) := by decide +kernel
theorem dL_law_358 : decode cL_law 358 = .ok (.invokevirtual 18, 3) := by decide +kernel
theorem dL_law_361 : decode cL_law 361 = .ok (.aload_n 2, 1) := by decide +kernel
theorem dL_law_362 : decode cL_law 362 = .ok (.invokevirtual 22, 3) := by decide +kernel
theorem dL_law_365 : decode cL_law 365 = .ok (.lcmp, 1) := by decide +kernel
theorem dL_law_366 : decode cL_law 366 = .ok (.ifCond .eq 2483, 3) := by decide +kernel
theorem dL_law_371 : decode cL_law 371 = .ok (.aload_n 1, 1) := by decide +kernel
theorem dL_law_372 : decode cL_law 372 = .ok (.invokevirtual 23, 3) := by decide +kernel
theorem dL_law_375 : decode cL_law 375 = .ok (.aload_n 2, 1) := by decide +kernel
theorem dL_law_376 : decode cL_law 376 = .ok (.invokevirtual 26, 3) := by decide +kernel
theorem dL_law_379 : decode cL_law 379 = .ok (.lcmp, 1) := by decide +kernel
theorem dL_law_380 : decode cL_law 380 = .ok (.ifCond .eq 2469, 3) := by decide +kernel
theorem dL_law_385 : decode cL_law 385 = .ok (.aload_n 1, 1) := by decide +kernel
theorem dL_law_386 : decode cL_law 386 = .ok (.aload_n 0, 1) := by decide +kernel
theorem dL_law_387 : decode cL_law 387 = .ok (.iload_n 3, 1) := by decide +kernel
theorem dL_law_388 : decode cL_law 388 = .ok (.iconst 1, 1) := by decide +kernel
theorem dL_law_389 : decode cL_law 389 = .ok (.iadd, 1) := by decide +kernel
theorem dL_law_390 : decode cL_law 390 = .ok (.iaload, 1) := by decide +kernel
theorem dL_law_391 : decode cL_law 391 = .ok (.aload_n 0, 1) := by decide +kernel
theorem dL_law_392 : decode cL_law 392 = .ok (.iload_n 3, 1) := by decide +kernel
theorem dL_law_393 : decode cL_law 393 = .ok (.iconst 2, 1) := by decide +kernel
theorem dL_law_394 : decode cL_law 394 = .ok (.iadd, 1) := by decide +kernel
theorem dL_law_395 : decode cL_law 395 = .ok (.iaload, 1) := by decide +kernel
theorem dL_law_396 : decode cL_law 396 = .ok (.aload_n 0, 1) := by decide +kernel
theorem dL_law_397 : decode cL_law 397 = .ok (.iload_n 3, 1) := by decide +kernel
theorem dL_law_398 : decode cL_law 398 = .ok (.iconst 3, 1) := by decide +kernel
theorem dL_law_399 : decode cL_law 399 = .ok (.iadd, 1) := by decide +kernel
theorem dL_law_400 : decode cL_law 400 = .ok (.iaload, 1) := by decide +kernel
theorem dL_law_401 : decode cL_law 401 = .ok (.invokevirtual 27, 3) := by decide +kernel
theorem dL_law_404 : decode cL_law 404 = .ok (.aload_n 2, 1) := by decide +kernel
theorem dL_law_405 : decode cL_law 405 = .ok (.aload_n 0, 1) := by decide +kernel
theorem dL_law_406 : decode cL_law 406 = .ok (.iload_n 3, 1) := by decide +kernel
theorem dL_law_407 : decode cL_law 407 = .ok (.iconst 1, 1) := by decide +kernel
theorem dL_law_408 : decode cL_law 408 = .ok (.iadd, 1) := by decide +kernel
theorem dL_law_409 : decode cL_law 409 = .ok (.iaload, 1) := by decide +kernel
theorem dL_law_410 : decode cL_law 410 = .ok (.aload_n 0, 1) := by decide +kernel
theorem dL_law_411 : decode cL_law 411 = .ok (.iload_n 3, 1) := by decide +kernel
theorem dL_law_412 : decode cL_law 412 = .ok (.iconst 2, 1) := by decide +kernel
theorem dL_law_413 : decode cL_law 413 = .ok (.iadd, 1) := by decide +kernel
theorem dL_law_414 : decode cL_law 414 = .ok (.iaload, 1) := by decide +kernel
theorem dL_law_415 : decode cL_law 415 = .ok (.aload_n 0, 1) := by decide +kernel
theorem dL_law_416 : decode cL_law 416 = .ok (.iload_n 3, 1) := by decide +kernel
theorem dL_law_417 : decode cL_law 417 = .ok (.iconst 3, 1) := by decide +kernel
theorem dL_law_418 : decode cL_law 418 = .ok (.iadd, 1) := by decide +kernel
theorem dL_law_419 : decode cL_law 419 = .ok (.iaload, 1) := by decide +kernel
theorem dL_law_420 : decode cL_law 420 = .ok (.invokevirtual 31, 3) := by decide +kernel
theorem dL_law_423 : decode cL_law 423 = .ok (.if_icmp .eq 2426, 3) := by decide +kernel
theorem dL_law_428 : decode cL_law 428 = .ok (.aload_n 1, 1) := by decide +kernel
theorem dL_law_429 : decode cL_law 429 = .ok (.aload_n 0, 1) := by decide +kernel
theorem dL_law_430 : decode cL_law 430 = .ok (.iload_n 3, 1) := by decide +kernel
theorem dL_law_431 : decode cL_law 431 = .ok (.iconst 1, 1) := by decide +kernel
theorem dL_law_432 : decode cL_law 432 = .ok (.iadd, 1) := by decide +kernel
theorem dL_law_433 : decode cL_law 433 = .ok (.iaload, 1) := by decide +kernel
theorem dL_law_434 : decode cL_law 434 = .ok (.aload_n 0, 1) := by decide +kernel
theorem dL_law_435 : decode cL_law 435 = .ok (.iload_n 3, 1) := by decide +kernel
theorem dL_law_436 : decode cL_law 436 = .ok (.iconst 2, 1) := by decide +kernel
theorem dL_law_437 : decode cL_law 437 = .ok (.iadd, 1) := by decide +kernel
theorem dL_law_438 : decode cL_law 438 = .ok (.iaload, 1) := by decide +kernel
theorem dL_law_439 : decode cL_law 439 = .ok (.aload_n 0, 1) := by decide +kernel
theorem dL_law_440 : decode cL_law 440 = .ok (.iload_n 3, 1) := by decide +kernel
theorem dL_law_441 : decode cL_law 441 = .ok (.iconst 3, 1) := by decide +kernel
theorem dL_law_442 : decode cL_law 442 = .ok (.iadd, 1) := by decide +kernel
theorem dL_law_443 : decode cL_law 443 = .ok (.iaload, 1) := by decide +kernel
theorem dL_law_444 : decode cL_law 444 = .ok (.i2l, 1) := by decide +kernel
theorem dL_law_445 : decode cL_law 445 = .ok (.bipush 32, 2) := by decide +kernel
theorem dL_law_447 : decode cL_law 447 = .ok (.lshl, 1) := by decide +kernel
theorem dL_law_448 : decode cL_law 448 = .ok (.aload_n 0, 1) := by decide +kernel
theorem dL_law_449 : decode cL_law 449 = .ok (.iload_n 3, 1) := by decide +kernel
theorem dL_law_450 : decode cL_law 450 = .ok (.iconst 4, 1) := by decide +kernel
theorem dL_law_451 : decode cL_law 451 = .ok (.iadd, 1) := by decide +kernel
theorem dL_law_452 : decode cL_law 452 = .ok (.iaload, 1) := by decide +kernel
theorem dL_law_453 : decode cL_law 453 = .ok (.i2l, 1) := by decide +kernel
theorem dL_law_454 : decode cL_law 454 = .ok (.ldc2_w 32, 3) := by decide +kernel
theorem dL_law_457 : decode cL_law 457 = .ok (.land, 1) := by decide +kernel
theorem dL_law_458 : decode cL_law 458 = .ok (.lor, 1) := by decide +kernel
theorem dL_law_459 : decode cL_law 459 = .ok (.invokevirtual 34, 3) := by decide +kernel
theorem dL_law_462 : decode cL_law 462 = .ok (.aload_n 2, 1) := by decide +kernel
theorem dL_law_463 : decode cL_law 463 = .ok (.aload_n 0, 1) := by decide +kernel
theorem dL_law_464 : decode cL_law 464 = .ok (.iload_n 3, 1) := by decide +kernel
theorem dL_law_465 : decode cL_law 465 = .ok (.iconst 1, 1) := by decide +kernel
theorem dL_law_466 : decode cL_law 466 = .ok (.iadd, 1) := by decide +kernel
theorem dL_law_467 : decode cL_law 467 = .ok (.iaload, 1) := by decide +kernel
theorem dL_law_468 : decode cL_law 468 = .ok (.aload_n 0, 1) := by decide +kernel
theorem dL_law_469 : decode cL_law 469 = .ok (.iload_n 3, 1) := by decide +kernel
theorem dL_law_470 : decode cL_law 470 = .ok (.iconst 2, 1) := by decide +kernel
theorem dL_law_471 : decode cL_law 471 = .ok (.iadd, 1) := by decide +kernel
theorem dL_law_472 : decode cL_law 472 = .ok (.iaload, 1) := by decide +kernel
theorem dL_law_473 : decode cL_law 473 = .ok (.aload_n 0, 1) := by decide +kernel
theorem dL_law_474 : decode cL_law 474 = .ok (.iload_n 3, 1) := by decide +kernel
theorem dL_law_475 : decode cL_law 475 = .ok (.iconst 3, 1) := by decide +kernel
theorem dL_law_476 : decode cL_law 476 = .ok (.iadd, 1) := by decide +kernel
theorem dL_law_477 : decode cL_law 477 = .ok (.iaload, 1) := by decide +kernel
theorem dL_law_478 : decode cL_law 478 = .ok (.i2l, 1) := by decide +kernel
theorem dL_law_479 : decode cL_law 479 = .ok (.bipush 32, 2) := by decide +kernel
theorem dL_law_481 : decode cL_law 481 = .ok (.lshl, 1) := by decide +kernel
theorem dL_law_482 : decode cL_law 482 = .ok (.aload_n 0, 1) := by decide +kernel
theorem dL_law_483 : decode cL_law 483 = .ok (.iload_n 3, 1) := by decide +kernel
theorem dL_law_484 : decode cL_law 484 = .ok (.iconst 4, 1) := by decide +kernel
theorem dL_law_485 : decode cL_law 485 = .ok (.iadd, 1) := by decide +kernel
theorem dL_law_486 : decode cL_law 486 = .ok (.iaload, 1) := by decide +kernel
theorem dL_law_487 : decode cL_law 487 = .ok (.i2l, 1) := by decide +kernel
theorem dL_law_488 : decode cL_law 488 = .ok (.ldc2_w 32, 3) := by decide +kernel
theorem dL_law_491 : decode cL_law 491 = .ok (.land, 1) := by decide +kernel
theorem dL_law_492 : decode cL_law 492 = .ok (.lor, 1) := by decide +kernel
theorem dL_law_493 : decode cL_law 493 = .ok (.invokevirtual 38, 3) := by decide +kernel
theorem dL_law_496 : decode cL_law 496 = .ok (.if_icmp .eq 2353, 3) := by decide +kernel
theorem dL_law_501 : decode cL_law 501 = .ok (.aload_n 1, 1) := by decide +kernel
theorem dL_law_502 : decode cL_law 502 = .ok (.aload_n 0, 1) := by decide +kernel
theorem dL_law_503 : decode cL_law 503 = .ok (.iload_n 3, 1) := by decide +kernel
theorem dL_law_504 : decode cL_law 504 = .ok (.iconst 1, 1) := by decide +kernel
theorem dL_law_505 : decode cL_law 505 = .ok (.iadd, 1) := by decide +kernel
theorem dL_law_506 : decode cL_law 506 = .ok (.iaload, 1) := by decide +kernel
theorem dL_law_507 : decode cL_law 507 = .ok (.aload_n 0, 1) := by decide +kernel
theorem dL_law_508 : decode cL_law 508 = .ok (.iload_n 3, 1) := by decide +kernel
theorem dL_law_509 : decode cL_law 509 = .ok (.iconst 2, 1) := by decide +kernel
theorem dL_law_510 : decode cL_law 510 = .ok (.iadd, 1) := by decide +kernel
theorem dL_law_511 : decode cL_law 511 = .ok (.iaload, 1) := by decide +kernel
theorem dL_law_512 : decode cL_law 512 = .ok (.invokevirtual 39, 3) := by decide +kernel
theorem dL_law_515 : decode cL_law 515 = .ok (.aload_n 2, 1) := by decide +kernel
theorem dL_law_516 : decode cL_law 516 = .ok (.aload_n 0, 1) := by decide +kernel
theorem dL_law_517 : decode cL_law 517 = .ok (.iload_n 3, 1) := by decide +kernel
theorem dL_law_518 : decode cL_law 518 = .ok (.iconst 1, 1) := by decide +kernel
theorem dL_law_519 : decode cL_law 519 = .ok (.iadd, 1) := by decide +kernel
theorem dL_law_520 : decode cL_law 520 = .ok (.iaload, 1) := by decide +kernel
theorem dL_law_521 : decode cL_law 521 = .ok (.aload_n 0, 1) := by decide +kernel
theorem dL_law_522 : decode cL_law 522 = .ok (.iload_n 3, 1) := by decide +kernel
theorem dL_law_523 : decode cL_law 523 = .ok (.iconst 2, 1) := by decide +kernel
theorem dL_law_524 : decode cL_law 524 = .ok (.iadd, 1) := by decide +kernel
theorem dL_law_525 : decode cL_law 525 = .ok (.iaload, 1) := by decide +kernel
theorem dL_law_526 : decode cL_law 526 = .ok (.invokevirtual 43, 3) := by decide +kernel
theorem dL_law_529 : decode cL_law 529 = .ok (.lcmp, 1) := by decide +kernel
theorem dL_law_530 : decode cL_law 530 = .ok (.ifCond .eq 2319, 3) := by decide +kernel
theorem dL_law_535 : decode cL_law 535 = .ok (.aload_n 1, 1) := by decide +kernel
theorem dL_law_536 : decode cL_law 536 = .ok (.aload_n 0, 1) := by decide +kernel
theorem dL_law_537 : decode cL_law 537 = .ok (.iload_n 3, 1) := by decide +kernel
theorem dL_law_538 : decode cL_law 538 = .ok (.iconst 1, 1) := by decide +kernel
theorem dL_law_539 : decode cL_law 539 = .ok (.iadd, 1) := by decide +kernel
theorem dL_law_540 : decode cL_law 540 = .ok (.iaload, 1) := by decide +kernel
theorem dL_law_541 : decode cL_law 541 = .ok (.aload_n 0, 1) := by decide +kernel
theorem dL_law_542 : decode cL_law 542 = .ok (.iload_n 3, 1) := by decide +kernel
theorem dL_law_543 : decode cL_law 543 = .ok (.iconst 2, 1) := by decide +kernel
theorem dL_law_544 : decode cL_law 544 = .ok (.iadd, 1) := by decide +kernel
theorem dL_law_545 : decode cL_law 545 = .ok (.iaload, 1) := by decide +kernel
theorem dL_law_546 : decode cL_law 546 = .ok (.aload_n 0, 1) := by decide +kernel
theorem dL_law_547 : decode cL_law 547 = .ok (.iload_n 3, 1) := by decide +kernel
theorem dL_law_548 : decode cL_law 548 = .ok (.iconst 3, 1) := by decide +kernel
theorem dL_law_549 : decode cL_law 549 = .ok (.iadd, 1) := by decide +kernel
theorem dL_law_550 : decode cL_law 550 = .ok (.iaload, 1) := by decide +kernel
theorem dL_law_551 : decode cL_law 551 = .ok (.aload_n 0, 1) := by decide +kernel
theorem dL_law_552 : decode cL_law 552 = .ok (.iload_n 3, 1) := by decide +kernel
theorem dL_law_553 : decode cL_law 553 = .ok (.iconst 4, 1) := by decide +kernel
theorem dL_law_554 : decode cL_law 554 = .ok (.iadd, 1) := by decide +kernel
theorem dL_law_555 : decode cL_law 555 = .ok (.iaload, 1) := by decide +kernel
theorem dL_law_556 : decode cL_law 556 = .ok (.aload_n 0, 1) := by decide +kernel
theorem dL_law_557 : decode cL_law 557 = .ok (.iload_n 3, 1) := by decide +kernel
theorem dL_law_558 : decode cL_law 558 = .ok (.iconst 5, 1) := by decide +kernel
theorem dL_law_559 : decode cL_law 559 = .ok (.iadd, 1) := by decide +kernel
theorem dL_law_560 : decode cL_law 560 = .ok (.iaload, 1) := by decide +kernel
theorem dL_law_561 : decode cL_law 561 = .ok (.invokevirtual 44, 3) := by decide +kernel
theorem dL_law_564 : decode cL_law 564 = .ok (.aload_n 2, 1) := by decide +kernel
theorem dL_law_565 : decode cL_law 565 = .ok (.aload_n 0, 1) := by decide +kernel
theorem dL_law_566 : decode cL_law 566 = .ok (.iload_n 3, 1) := by decide +kernel
theorem dL_law_567 : decode cL_law 567 = .ok (.iconst 1, 1) := by decide +kernel
theorem dL_law_568 : decode cL_law 568 = .ok (.iadd, 1) := by decide +kernel
theorem dL_law_569 : decode cL_law 569 = .ok (.iaload, 1) := by decide +kernel
theorem dL_law_570 : decode cL_law 570 = .ok (.aload_n 0, 1) := by decide +kernel
theorem dL_law_571 : decode cL_law 571 = .ok (.iload_n 3, 1) := by decide +kernel
theorem dL_law_572 : decode cL_law 572 = .ok (.iconst 2, 1) := by decide +kernel
theorem dL_law_573 : decode cL_law 573 = .ok (.iadd, 1) := by decide +kernel
theorem dL_law_574 : decode cL_law 574 = .ok (.iaload, 1) := by decide +kernel
theorem dL_law_575 : decode cL_law 575 = .ok (.aload_n 0, 1) := by decide +kernel
theorem dL_law_576 : decode cL_law 576 = .ok (.iload_n 3, 1) := by decide +kernel
theorem dL_law_577 : decode cL_law 577 = .ok (.iconst 3, 1) := by decide +kernel
theorem dL_law_578 : decode cL_law 578 = .ok (.iadd, 1) := by decide +kernel
theorem dL_law_579 : decode cL_law 579 = .ok (.iaload, 1) := by decide +kernel
theorem dL_law_580 : decode cL_law 580 = .ok (.aload_n 0, 1) := by decide +kernel
theorem dL_law_581 : decode cL_law 581 = .ok (.iload_n 3, 1) := by decide +kernel
theorem dL_law_582 : decode cL_law 582 = .ok (.iconst 4, 1) := by decide +kernel
theorem dL_law_583 : decode cL_law 583 = .ok (.iadd, 1) := by decide +kernel
theorem dL_law_584 : decode cL_law 584 = .ok (.iaload, 1) := by decide +kernel
theorem dL_law_585 : decode cL_law 585 = .ok (.aload_n 0, 1) := by decide +kernel
theorem dL_law_586 : decode cL_law 586 = .ok (.iload_n 3, 1) := by decide +kernel
theorem dL_law_587 : decode cL_law 587 = .ok (.iconst 5, 1) := by decide +kernel
theorem dL_law_588 : decode cL_law 588 = .ok (.iadd, 1) := by decide +kernel
theorem dL_law_589 : decode cL_law 589 = .ok (.iaload, 1) := by decide +kernel
theorem dL_law_590 : decode cL_law 590 = .ok (.invokevirtual 48, 3) := by decide +kernel
theorem dL_law_593 : decode cL_law 593 = .ok (.if_icmp .eq 2256, 3) := by decide +kernel
theorem dL_law_598 : decode cL_law 598 = .ok (.aload_n 1, 1) := by decide +kernel
theorem dL_law_599 : decode cL_law 599 = .ok (.aload_n 0, 1) := by decide +kernel
theorem dL_law_600 : decode cL_law 600 = .ok (.iload_n 3, 1) := by decide +kernel
theorem dL_law_601 : decode cL_law 601 = .ok (.iconst 1, 1) := by decide +kernel
theorem dL_law_602 : decode cL_law 602 = .ok (.iadd, 1) := by decide +kernel
theorem dL_law_603 : decode cL_law 603 = .ok (.iaload, 1) := by decide +kernel
theorem dL_law_604 : decode cL_law 604 = .ok (.aload_n 0, 1) := by decide +kernel
theorem dL_law_605 : decode cL_law 605 = .ok (.iload_n 3, 1) := by decide +kernel
theorem dL_law_606 : decode cL_law 606 = .ok (.iconst 2, 1) := by decide +kernel
theorem dL_law_607 : decode cL_law 607 = .ok (.iadd, 1) := by decide +kernel
theorem dL_law_608 : decode cL_law 608 = .ok (.iaload, 1) := by decide +kernel
theorem dL_law_609 : decode cL_law 609 = .ok (.aload_n 0, 1) := by decide +kernel
theorem dL_law_610 : decode cL_law 610 = .ok (.iload_n 3, 1) := by decide +kernel
theorem dL_law_611 : decode cL_law 611 = .ok (.iconst 3, 1) := by decide +kernel
theorem dL_law_612 : decode cL_law 612 = .ok (.iadd, 1) := by decide +kernel
theorem dL_law_613 : decode cL_law 613 = .ok (.iaload, 1) := by decide +kernel
theorem dL_law_614 : decode cL_law 614 = .ok (.aload_n 0, 1) := by decide +kernel
theorem dL_law_615 : decode cL_law 615 = .ok (.iload_n 3, 1) := by decide +kernel
theorem dL_law_616 : decode cL_law 616 = .ok (.iconst 4, 1) := by decide +kernel
theorem dL_law_617 : decode cL_law 617 = .ok (.iadd, 1) := by decide +kernel
theorem dL_law_618 : decode cL_law 618 = .ok (.iaload, 1) := by decide +kernel
theorem dL_law_619 : decode cL_law 619 = .ok (.aload_n 0, 1) := by decide +kernel
theorem dL_law_620 : decode cL_law 620 = .ok (.iload_n 3, 1) := by decide +kernel
theorem dL_law_621 : decode cL_law 621 = .ok (.iconst 5, 1) := by decide +kernel
theorem dL_law_622 : decode cL_law 622 = .ok (.iadd, 1) := by decide +kernel
theorem dL_law_623 : decode cL_law 623 = .ok (.iaload, 1) := by decide +kernel
theorem dL_law_624 : decode cL_law 624 = .ok (.invokevirtual 49, 3) := by decide +kernel
theorem dL_law_627 : decode cL_law 627 = .ok (.aload_n 2, 1) := by decide +kernel
theorem dL_law_628 : decode cL_law 628 = .ok (.aload_n 0, 1) := by decide +kernel
theorem dL_law_629 : decode cL_law 629 = .ok (.iload_n 3, 1) := by decide +kernel
theorem dL_law_630 : decode cL_law 630 = .ok (.iconst 1, 1) := by decide +kernel
theorem dL_law_631 : decode cL_law 631 = .ok (.iadd, 1) := by decide +kernel
theorem dL_law_632 : decode cL_law 632 = .ok (.iaload, 1) := by decide +kernel
theorem dL_law_633 : decode cL_law 633 = .ok (.aload_n 0, 1) := by decide +kernel
theorem dL_law_634 : decode cL_law 634 = .ok (.iload_n 3, 1) := by decide +kernel
theorem dL_law_635 : decode cL_law 635 = .ok (.iconst 2, 1) := by decide +kernel
theorem dL_law_636 : decode cL_law 636 = .ok (.iadd, 1) := by decide +kernel
theorem dL_law_637 : decode cL_law 637 = .ok (.iaload, 1) := by decide +kernel
theorem dL_law_638 : decode cL_law 638 = .ok (.aload_n 0, 1) := by decide +kernel
theorem dL_law_639 : decode cL_law 639 = .ok (.iload_n 3, 1) := by decide +kernel
theorem dL_law_640 : decode cL_law 640 = .ok (.iconst 3, 1) := by decide +kernel
theorem dL_law_641 : decode cL_law 641 = .ok (.iadd, 1) := by decide +kernel
theorem dL_law_642 : decode cL_law 642 = .ok (.iaload, 1) := by decide +kernel
theorem dL_law_643 : decode cL_law 643 = .ok (.aload_n 0, 1) := by decide +kernel
theorem dL_law_644 : decode cL_law 644 = .ok (.iload_n 3, 1) := by decide +kernel
theorem dL_law_645 : decode cL_law 645 = .ok (.iconst 4, 1) := by decide +kernel
theorem dL_law_646 : decode cL_law 646 = .ok (.iadd, 1) := by decide +kernel
theorem dL_law_647 : decode cL_law 647 = .ok (.iaload, 1) := by decide +kernel
theorem dL_law_648 : decode cL_law 648 = .ok (.aload_n 0, 1) := by decide +kernel
theorem dL_law_649 : decode cL_law 649 = .ok (.iload_n 3, 1) := by decide +kernel
theorem dL_law_650 : decode cL_law 650 = .ok (.iconst 5, 1) := by decide +kernel
theorem dL_law_651 : decode cL_law 651 = .ok (.iadd, 1) := by decide +kernel
theorem dL_law_652 : decode cL_law 652 = .ok (.iaload, 1) := by decide +kernel
theorem dL_law_653 : decode cL_law 653 = .ok (.invokevirtual 53, 3) := by decide +kernel
theorem dL_law_656 : decode cL_law 656 = .ok (.if_icmp .eq 2193, 3) := by decide +kernel
theorem dL_law_661 : decode cL_law 661 = .ok (.aload_n 1, 1) := by decide +kernel
theorem dL_law_662 : decode cL_law 662 = .ok (.aload_n 0, 1) := by decide +kernel
theorem dL_law_663 : decode cL_law 663 = .ok (.iload_n 3, 1) := by decide +kernel
theorem dL_law_664 : decode cL_law 664 = .ok (.iconst 1, 1) := by decide +kernel
theorem dL_law_665 : decode cL_law 665 = .ok (.iadd, 1) := by decide +kernel
theorem dL_law_666 : decode cL_law 666 = .ok (.iaload, 1) := by decide +kernel
theorem dL_law_667 : decode cL_law 667 = .ok (.invokevirtual 54, 3) := by decide +kernel
theorem dL_law_670 : decode cL_law 670 = .ok (.aload_n 2, 1) := by decide +kernel
theorem dL_law_671 : decode cL_law 671 = .ok (.aload_n 0, 1) := by decide +kernel
theorem dL_law_672 : decode cL_law 672 = .ok (.iload_n 3, 1) := by decide +kernel
theorem dL_law_673 : decode cL_law 673 = .ok (.iconst 1, 1) := by decide +kernel
theorem dL_law_674 : decode cL_law 674 = .ok (.iadd, 1) := by decide +kernel
theorem dL_law_675 : decode cL_law 675 = .ok (.iaload, 1) := by decide +kernel
theorem dL_law_676 : decode cL_law 676 = .ok (.invokevirtual 58, 3) := by decide +kernel
theorem dL_law_679 : decode cL_law 679 = .ok (.if_icmp .eq 2170, 3) := by decide +kernel
theorem dL_law_684 : decode cL_law 684 = .ok (.aload_n 1, 1) := by decide +kernel
theorem dL_law_685 : decode cL_law 685 = .ok (.aload_n 0, 1) := by decide +kernel
theorem dL_law_686 : decode cL_law 686 = .ok (.iload_n 3, 1) := by decide +kernel
theorem dL_law_687 : decode cL_law 687 = .ok (.iconst 1, 1) := by decide +kernel
theorem dL_law_688 : decode cL_law 688 = .ok (.iadd, 1) := by decide +kernel
theorem dL_law_689 : decode cL_law 689 = .ok (.iaload, 1) := by decide +kernel
theorem dL_law_690 : decode cL_law 690 = .ok (.invokevirtual 59, 3) := by decide +kernel
theorem dL_law_693 : decode cL_law 693 = .ok (.aload_n 2, 1) := by decide +kernel
theorem dL_law_694 : decode cL_law 694 = .ok (.aload_n 0, 1) := by decide +kernel
theorem dL_law_695 : decode cL_law 695 = .ok (.iload_n 3, 1) := by decide +kernel
theorem dL_law_696 : decode cL_law 696 = .ok (.iconst 1, 1) := by decide +kernel
theorem dL_law_697 : decode cL_law 697 = .ok (.iadd, 1) := by decide +kernel
theorem dL_law_698 : decode cL_law 698 = .ok (.iaload, 1) := by decide +kernel
theorem dL_law_699 : decode cL_law 699 = .ok (.invokevirtual 62, 3) := by decide +kernel
theorem dL_law_702 : decode cL_law 702 = .ok (.if_icmp .eq 2147, 3) := by decide +kernel
theorem dL_law_707 : decode cL_law 707 = .ok (.aload_n 1, 1) := by decide +kernel
theorem dL_law_708 : decode cL_law 708 = .ok (.aload_n 0, 1) := by decide +kernel
theorem dL_law_709 : decode cL_law 709 = .ok (.iload_n 3, 1) := by decide +kernel
theorem dL_law_710 : decode cL_law 710 = .ok (.iconst 1, 1) := by decide +kernel
theorem dL_law_711 : decode cL_law 711 = .ok (.iadd, 1) := by decide +kernel
theorem dL_law_712 : decode cL_law 712 = .ok (.iaload, 1) := by decide +kernel
theorem dL_law_713 : decode cL_law 713 = .ok (.invokevirtual 63, 3) := by decide +kernel
theorem dL_law_716 : decode cL_law 716 = .ok (.aload_n 2, 1) := by decide +kernel
theorem dL_law_717 : decode cL_law 717 = .ok (.aload_n 0, 1) := by decide +kernel
theorem dL_law_718 : decode cL_law 718 = .ok (.iload_n 3, 1) := by decide +kernel
theorem dL_law_719 : decode cL_law 719 = .ok (.iconst 1, 1) := by decide +kernel
theorem dL_law_720 : decode cL_law 720 = .ok (.iadd, 1) := by decide +kernel
theorem dL_law_721 : decode cL_law 721 = .ok (.iaload, 1) := by decide +kernel
theorem dL_law_722 : decode cL_law 722 = .ok (.invokevirtual 66, 3) := by decide +kernel
theorem dL_law_725 : decode cL_law 725 = .ok (.if_icmp .eq 2124, 3) := by decide +kernel
theorem dL_law_730 : decode cL_law 730 = .ok (.aload_n 1, 1) := by decide +kernel
theorem dL_law_731 : decode cL_law 731 = .ok (.aload_n 0, 1) := by decide +kernel
theorem dL_law_732 : decode cL_law 732 = .ok (.iload_n 3, 1) := by decide +kernel
theorem dL_law_733 : decode cL_law 733 = .ok (.iconst 1, 1) := by decide +kernel
theorem dL_law_734 : decode cL_law 734 = .ok (.iadd, 1) := by decide +kernel
theorem dL_law_735 : decode cL_law 735 = .ok (.iaload, 1) := by decide +kernel
theorem dL_law_736 : decode cL_law 736 = .ok (.invokevirtual 67, 3) := by decide +kernel
theorem dL_law_739 : decode cL_law 739 = .ok (.aload_n 2, 1) := by decide +kernel
theorem dL_law_740 : decode cL_law 740 = .ok (.aload_n 0, 1) := by decide +kernel
theorem dL_law_741 : decode cL_law 741 = .ok (.iload_n 3, 1) := by decide +kernel
theorem dL_law_742 : decode cL_law 742 = .ok (.iconst 1, 1) := by decide +kernel
theorem dL_law_743 : decode cL_law 743 = .ok (.iadd, 1) := by decide +kernel
theorem dL_law_744 : decode cL_law 744 = .ok (.iaload, 1) := by decide +kernel
theorem dL_law_745 : decode cL_law 745 = .ok (.invokevirtual 70, 3) := by decide +kernel
theorem dL_law_748 : decode cL_law 748 = .ok (.if_icmp .eq 2101, 3) := by decide +kernel
theorem dL_law_753 : decode cL_law 753 = .ok (.aload_n 1, 1) := by decide +kernel
theorem dL_law_754 : decode cL_law 754 = .ok (.aload_n 0, 1) := by decide +kernel
theorem dL_law_755 : decode cL_law 755 = .ok (.iload_n 3, 1) := by decide +kernel
theorem dL_law_756 : decode cL_law 756 = .ok (.iconst 1, 1) := by decide +kernel
theorem dL_law_757 : decode cL_law 757 = .ok (.iadd, 1) := by decide +kernel
theorem dL_law_758 : decode cL_law 758 = .ok (.iaload, 1) := by decide +kernel
theorem dL_law_759 : decode cL_law 759 = .ok (.aload_n 0, 1) := by decide +kernel
theorem dL_law_760 : decode cL_law 760 = .ok (.iload_n 3, 1) := by decide +kernel
theorem dL_law_761 : decode cL_law 761 = .ok (.iconst 2, 1) := by decide +kernel
theorem dL_law_762 : decode cL_law 762 = .ok (.iadd, 1) := by decide +kernel
theorem dL_law_763 : decode cL_law 763 = .ok (.iaload, 1) := by decide +kernel
theorem dL_law_764 : decode cL_law 764 = .ok (.invokevirtual 71, 3) := by decide +kernel
theorem dL_law_767 : decode cL_law 767 = .ok (.aload_n 2, 1) := by decide +kernel
theorem dL_law_768 : decode cL_law 768 = .ok (.aload_n 0, 1) := by decide +kernel
theorem dL_law_769 : decode cL_law 769 = .ok (.iload_n 3, 1) := by decide +kernel
theorem dL_law_770 : decode cL_law 770 = .ok (.iconst 1, 1) := by decide +kernel
theorem dL_law_771 : decode cL_law 771 = .ok (.iadd, 1) := by decide +kernel
theorem dL_law_772 : decode cL_law 772 = .ok (.iaload, 1) := by decide +kernel
theorem dL_law_773 : decode cL_law 773 = .ok (.aload_n 0, 1) := by decide +kernel
theorem dL_law_774 : decode cL_law 774 = .ok (.iload_n 3, 1) := by decide +kernel
theorem dL_law_775 : decode cL_law 775 = .ok (.iconst 2, 1) := by decide +kernel
theorem dL_law_776 : decode cL_law 776 = .ok (.iadd, 1) := by decide +kernel
theorem dL_law_777 : decode cL_law 777 = .ok (.iaload, 1) := by decide +kernel
theorem dL_law_778 : decode cL_law 778 = .ok (.invokevirtual 75, 3) := by decide +kernel
theorem dL_law_781 : decode cL_law 781 = .ok (.if_icmp .eq 2068, 3) := by decide +kernel
theorem dL_law_786 : decode cL_law 786 = .ok (.aload_n 1, 1) := by decide +kernel
theorem dL_law_787 : decode cL_law 787 = .ok (.aload_n 0, 1) := by decide +kernel
theorem dL_law_788 : decode cL_law 788 = .ok (.iload_n 3, 1) := by decide +kernel
theorem dL_law_789 : decode cL_law 789 = .ok (.iconst 1, 1) := by decide +kernel
theorem dL_law_790 : decode cL_law 790 = .ok (.iadd, 1) := by decide +kernel
theorem dL_law_791 : decode cL_law 791 = .ok (.iaload, 1) := by decide +kernel
theorem dL_law_792 : decode cL_law 792 = .ok (.aload_n 0, 1) := by decide +kernel
theorem dL_law_793 : decode cL_law 793 = .ok (.iload_n 3, 1) := by decide +kernel
theorem dL_law_794 : decode cL_law 794 = .ok (.iconst 2, 1) := by decide +kernel
theorem dL_law_795 : decode cL_law 795 = .ok (.iadd, 1) := by decide +kernel
theorem dL_law_796 : decode cL_law 796 = .ok (.iaload, 1) := by decide +kernel
theorem dL_law_797 : decode cL_law 797 = .ok (.invokevirtual 76, 3) := by decide +kernel
theorem dL_law_800 : decode cL_law 800 = .ok (.aload_n 2, 1) := by decide +kernel
theorem dL_law_801 : decode cL_law 801 = .ok (.aload_n 0, 1) := by decide +kernel
theorem dL_law_802 : decode cL_law 802 = .ok (.iload_n 3, 1) := by decide +kernel
theorem dL_law_803 : decode cL_law 803 = .ok (.iconst 1, 1) := by decide +kernel
theorem dL_law_804 : decode cL_law 804 = .ok (.iadd, 1) := by decide +kernel
theorem dL_law_805 : decode cL_law 805 = .ok (.iaload, 1) := by decide +kernel
theorem dL_law_806 : decode cL_law 806 = .ok (.aload_n 0, 1) := by decide +kernel
theorem dL_law_807 : decode cL_law 807 = .ok (.iload_n 3, 1) := by decide +kernel
theorem dL_law_808 : decode cL_law 808 = .ok (.iconst 2, 1) := by decide +kernel
theorem dL_law_809 : decode cL_law 809 = .ok (.iadd, 1) := by decide +kernel
theorem dL_law_810 : decode cL_law 810 = .ok (.iaload, 1) := by decide +kernel
theorem dL_law_811 : decode cL_law 811 = .ok (.invokevirtual 79, 3) := by decide +kernel
theorem dL_law_814 : decode cL_law 814 = .ok (.if_icmp .eq 2035, 3) := by decide +kernel
theorem dL_law_819 : decode cL_law 819 = .ok (.aload_n 1, 1) := by decide +kernel
theorem dL_law_820 : decode cL_law 820 = .ok (.aload_n 0, 1) := by decide +kernel
theorem dL_law_821 : decode cL_law 821 = .ok (.iload_n 3, 1) := by decide +kernel
theorem dL_law_822 : decode cL_law 822 = .ok (.iconst 1, 1) := by decide +kernel
theorem dL_law_823 : decode cL_law 823 = .ok (.iadd, 1) := by decide +kernel
theorem dL_law_824 : decode cL_law 824 = .ok (.iaload, 1) := by decide +kernel
theorem dL_law_825 : decode cL_law 825 = .ok (.aload_n 0, 1) := by decide +kernel
theorem dL_law_826 : decode cL_law 826 = .ok (.iload_n 3, 1) := by decide +kernel
theorem dL_law_827 : decode cL_law 827 = .ok (.iconst 2, 1) := by decide +kernel
theorem dL_law_828 : decode cL_law 828 = .ok (.iadd, 1) := by decide +kernel
theorem dL_law_829 : decode cL_law 829 = .ok (.iaload, 1) := by decide +kernel
theorem dL_law_830 : decode cL_law 830 = .ok (.invokevirtual 80, 3) := by decide +kernel
theorem dL_law_833 : decode cL_law 833 = .ok (.aload_n 2, 1) := by decide +kernel
theorem dL_law_834 : decode cL_law 834 = .ok (.aload_n 0, 1) := by decide +kernel
theorem dL_law_835 : decode cL_law 835 = .ok (.iload_n 3, 1) := by decide +kernel
theorem dL_law_836 : decode cL_law 836 = .ok (.iconst 1, 1) := by decide +kernel
theorem dL_law_837 : decode cL_law 837 = .ok (.iadd, 1) := by decide +kernel
theorem dL_law_838 : decode cL_law 838 = .ok (.iaload, 1) := by decide +kernel
theorem dL_law_839 : decode cL_law 839 = .ok (.aload_n 0, 1) := by decide +kernel
theorem dL_law_840 : decode cL_law 840 = .ok (.iload_n 3, 1) := by decide +kernel
theorem dL_law_841 : decode cL_law 841 = .ok (.iconst 2, 1) := by decide +kernel
theorem dL_law_842 : decode cL_law 842 = .ok (.iadd, 1) := by decide +kernel
theorem dL_law_843 : decode cL_law 843 = .ok (.iaload, 1) := by decide +kernel
theorem dL_law_844 : decode cL_law 844 = .ok (.invokevirtual 83, 3) := by decide +kernel
theorem dL_law_847 : decode cL_law 847 = .ok (.if_icmp .eq 2002, 3) := by decide +kernel
theorem dL_law_852 : decode cL_law 852 = .ok (.aload_n 1, 1) := by decide +kernel
theorem dL_law_853 : decode cL_law 853 = .ok (.aload_n 0, 1) := by decide +kernel
theorem dL_law_854 : decode cL_law 854 = .ok (.iload_n 3, 1) := by decide +kernel
theorem dL_law_855 : decode cL_law 855 = .ok (.iconst 1, 1) := by decide +kernel
theorem dL_law_856 : decode cL_law 856 = .ok (.iadd, 1) := by decide +kernel
theorem dL_law_857 : decode cL_law 857 = .ok (.iaload, 1) := by decide +kernel
theorem dL_law_858 : decode cL_law 858 = .ok (.aload_n 0, 1) := by decide +kernel
theorem dL_law_859 : decode cL_law 859 = .ok (.iload_n 3, 1) := by decide +kernel
theorem dL_law_860 : decode cL_law 860 = .ok (.iconst 2, 1) := by decide +kernel
theorem dL_law_861 : decode cL_law 861 = .ok (.iadd, 1) := by decide +kernel
theorem dL_law_862 : decode cL_law 862 = .ok (.iaload, 1) := by decide +kernel
theorem dL_law_863 : decode cL_law 863 = .ok (.aload_n 0, 1) := by decide +kernel
theorem dL_law_864 : decode cL_law 864 = .ok (.iload_n 3, 1) := by decide +kernel
theorem dL_law_865 : decode cL_law 865 = .ok (.iconst 3, 1) := by decide +kernel
theorem dL_law_866 : decode cL_law 866 = .ok (.iadd, 1) := by decide +kernel
theorem dL_law_867 : decode cL_law 867 = .ok (.iaload, 1) := by decide +kernel
theorem dL_law_868 : decode cL_law 868 = .ok (.aload_n 0, 1) := by decide +kernel
theorem dL_law_869 : decode cL_law 869 = .ok (.iload_n 3, 1) := by decide +kernel
theorem dL_law_870 : decode cL_law 870 = .ok (.iconst 4, 1) := by decide +kernel
theorem dL_law_871 : decode cL_law 871 = .ok (.iadd, 1) := by decide +kernel
theorem dL_law_872 : decode cL_law 872 = .ok (.iaload, 1) := by decide +kernel
theorem dL_law_873 : decode cL_law 873 = .ok (.invokevirtual 84, 3) := by decide +kernel
theorem dL_law_876 : decode cL_law 876 = .ok (.aload_n 2, 1) := by decide +kernel
theorem dL_law_877 : decode cL_law 877 = .ok (.aload_n 0, 1) := by decide +kernel
theorem dL_law_878 : decode cL_law 878 = .ok (.iload_n 3, 1) := by decide +kernel
theorem dL_law_879 : decode cL_law 879 = .ok (.iconst 1, 1) := by decide +kernel
theorem dL_law_880 : decode cL_law 880 = .ok (.iadd, 1) := by decide +kernel
theorem dL_law_881 : decode cL_law 881 = .ok (.iaload, 1) := by decide +kernel
theorem dL_law_882 : decode cL_law 882 = .ok (.aload_n 0, 1) := by decide +kernel
theorem dL_law_883 : decode cL_law 883 = .ok (.iload_n 3, 1) := by decide +kernel
theorem dL_law_884 : decode cL_law 884 = .ok (.iconst 2, 1) := by decide +kernel
theorem dL_law_885 : decode cL_law 885 = .ok (.iadd, 1) := by decide +kernel
theorem dL_law_886 : decode cL_law 886 = .ok (.iaload, 1) := by decide +kernel
theorem dL_law_887 : decode cL_law 887 = .ok (.aload_n 0, 1) := by decide +kernel
theorem dL_law_888 : decode cL_law 888 = .ok (.iload_n 3, 1) := by decide +kernel
theorem dL_law_889 : decode cL_law 889 = .ok (.iconst 3, 1) := by decide +kernel
theorem dL_law_890 : decode cL_law 890 = .ok (.iadd, 1) := by decide +kernel
theorem dL_law_891 : decode cL_law 891 = .ok (.iaload, 1) := by decide +kernel
theorem dL_law_892 : decode cL_law 892 = .ok (.aload_n 0, 1) := by decide +kernel
theorem dL_law_893 : decode cL_law 893 = .ok (.iload_n 3, 1) := by decide +kernel
theorem dL_law_894 : decode cL_law 894 = .ok (.iconst 4, 1) := by decide +kernel
theorem dL_law_895 : decode cL_law 895 = .ok (.iadd, 1) := by decide +kernel
theorem dL_law_896 : decode cL_law 896 = .ok (.iaload, 1) := by decide +kernel
theorem dL_law_897 : decode cL_law 897 = .ok (.invokevirtual 88, 3) := by decide +kernel
theorem dL_law_900 : decode cL_law 900 = .ok (.if_icmp .eq 1949, 3) := by decide +kernel
theorem dL_law_905 : decode cL_law 905 = .ok (.aload_n 1, 1) := by decide +kernel
theorem dL_law_906 : decode cL_law 906 = .ok (.aload_n 0, 1) := by decide +kernel
theorem dL_law_907 : decode cL_law 907 = .ok (.iload_n 3, 1) := by decide +kernel
theorem dL_law_908 : decode cL_law 908 = .ok (.iconst 1, 1) := by decide +kernel
theorem dL_law_909 : decode cL_law 909 = .ok (.iadd, 1) := by decide +kernel
theorem dL_law_910 : decode cL_law 910 = .ok (.iaload, 1) := by decide +kernel
theorem dL_law_911 : decode cL_law 911 = .ok (.aload_n 0, 1) := by decide +kernel
theorem dL_law_912 : decode cL_law 912 = .ok (.iload_n 3, 1) := by decide +kernel
theorem dL_law_913 : decode cL_law 913 = .ok (.iconst 2, 1) := by decide +kernel
theorem dL_law_914 : decode cL_law 914 = .ok (.iadd, 1) := by decide +kernel
theorem dL_law_915 : decode cL_law 915 = .ok (.iaload, 1) := by decide +kernel
theorem dL_law_916 : decode cL_law 916 = .ok (.aload_n 0, 1) := by decide +kernel
theorem dL_law_917 : decode cL_law 917 = .ok (.iload_n 3, 1) := by decide +kernel
theorem dL_law_918 : decode cL_law 918 = .ok (.iconst 3, 1) := by decide +kernel
theorem dL_law_919 : decode cL_law 919 = .ok (.iadd, 1) := by decide +kernel
theorem dL_law_920 : decode cL_law 920 = .ok (.iaload, 1) := by decide +kernel
theorem dL_law_921 : decode cL_law 921 = .ok (.invokevirtual 89, 3) := by decide +kernel
theorem dL_law_924 : decode cL_law 924 = .ok (.aload_n 2, 1) := by decide +kernel
theorem dL_law_925 : decode cL_law 925 = .ok (.aload_n 0, 1) := by decide +kernel
theorem dL_law_926 : decode cL_law 926 = .ok (.iload_n 3, 1) := by decide +kernel
theorem dL_law_927 : decode cL_law 927 = .ok (.iconst 1, 1) := by decide +kernel
theorem dL_law_928 : decode cL_law 928 = .ok (.iadd, 1) := by decide +kernel
theorem dL_law_929 : decode cL_law 929 = .ok (.iaload, 1) := by decide +kernel
theorem dL_law_930 : decode cL_law 930 = .ok (.aload_n 0, 1) := by decide +kernel
theorem dL_law_931 : decode cL_law 931 = .ok (.iload_n 3, 1) := by decide +kernel
theorem dL_law_932 : decode cL_law 932 = .ok (.iconst 2, 1) := by decide +kernel
theorem dL_law_933 : decode cL_law 933 = .ok (.iadd, 1) := by decide +kernel
theorem dL_law_934 : decode cL_law 934 = .ok (.iaload, 1) := by decide +kernel
theorem dL_law_935 : decode cL_law 935 = .ok (.aload_n 0, 1) := by decide +kernel
theorem dL_law_936 : decode cL_law 936 = .ok (.iload_n 3, 1) := by decide +kernel
theorem dL_law_937 : decode cL_law 937 = .ok (.iconst 3, 1) := by decide +kernel
theorem dL_law_938 : decode cL_law 938 = .ok (.iadd, 1) := by decide +kernel
theorem dL_law_939 : decode cL_law 939 = .ok (.iaload, 1) := by decide +kernel
theorem dL_law_940 : decode cL_law 940 = .ok (.invokevirtual 93, 3) := by decide +kernel
theorem dL_law_943 : decode cL_law 943 = .ok (.if_icmp .eq 1906, 3) := by decide +kernel
theorem dL_law_948 : decode cL_law 948 = .ok (.aload_n 1, 1) := by decide +kernel
theorem dL_law_949 : decode cL_law 949 = .ok (.aload_n 0, 1) := by decide +kernel
theorem dL_law_950 : decode cL_law 950 = .ok (.iload_n 3, 1) := by decide +kernel
theorem dL_law_951 : decode cL_law 951 = .ok (.iconst 1, 1) := by decide +kernel
theorem dL_law_952 : decode cL_law 952 = .ok (.iadd, 1) := by decide +kernel
theorem dL_law_953 : decode cL_law 953 = .ok (.iaload, 1) := by decide +kernel
theorem dL_law_954 : decode cL_law 954 = .ok (.aload_n 0, 1) := by decide +kernel
theorem dL_law_955 : decode cL_law 955 = .ok (.iload_n 3, 1) := by decide +kernel
theorem dL_law_956 : decode cL_law 956 = .ok (.iconst 2, 1) := by decide +kernel
theorem dL_law_957 : decode cL_law 957 = .ok (.iadd, 1) := by decide +kernel
theorem dL_law_958 : decode cL_law 958 = .ok (.iaload, 1) := by decide +kernel
theorem dL_law_959 : decode cL_law 959 = .ok (.aload_n 0, 1) := by decide +kernel
theorem dL_law_960 : decode cL_law 960 = .ok (.iload_n 3, 1) := by decide +kernel
theorem dL_law_961 : decode cL_law 961 = .ok (.iconst 3, 1) := by decide +kernel
theorem dL_law_962 : decode cL_law 962 = .ok (.iadd, 1) := by decide +kernel
theorem dL_law_963 : decode cL_law 963 = .ok (.iaload, 1) := by decide +kernel
theorem dL_law_964 : decode cL_law 964 = .ok (.invokevirtual 94, 3) := by decide +kernel
theorem dL_law_967 : decode cL_law 967 = .ok (.aload_n 2, 1) := by decide +kernel
theorem dL_law_968 : decode cL_law 968 = .ok (.aload_n 0, 1) := by decide +kernel
theorem dL_law_969 : decode cL_law 969 = .ok (.iload_n 3, 1) := by decide +kernel
theorem dL_law_970 : decode cL_law 970 = .ok (.iconst 1, 1) := by decide +kernel
theorem dL_law_971 : decode cL_law 971 = .ok (.iadd, 1) := by decide +kernel
theorem dL_law_972 : decode cL_law 972 = .ok (.iaload, 1) := by decide +kernel
theorem dL_law_973 : decode cL_law 973 = .ok (.aload_n 0, 1) := by decide +kernel
theorem dL_law_974 : decode cL_law 974 = .ok (.iload_n 3, 1) := by decide +kernel
theorem dL_law_975 : decode cL_law 975 = .ok (.iconst 2, 1) := by decide +kernel
theorem dL_law_976 : decode cL_law 976 = .ok (.iadd, 1) := by decide +kernel
theorem dL_law_977 : decode cL_law 977 = .ok (.iaload, 1) := by decide +kernel
theorem dL_law_978 : decode cL_law 978 = .ok (.aload_n 0, 1) := by decide +kernel
theorem dL_law_979 : decode cL_law 979 = .ok (.iload_n 3, 1) := by decide +kernel
theorem dL_law_980 : decode cL_law 980 = .ok (.iconst 3, 1) := by decide +kernel
theorem dL_law_981 : decode cL_law 981 = .ok (.iadd, 1) := by decide +kernel
theorem dL_law_982 : decode cL_law 982 = .ok (.iaload, 1) := by decide +kernel
theorem dL_law_983 : decode cL_law 983 = .ok (.invokevirtual 97, 3) := by decide +kernel
theorem dL_law_986 : decode cL_law 986 = .ok (.if_icmp .eq 1863, 3) := by decide +kernel
theorem dL_law_991 : decode cL_law 991 = .ok (.aload_n 1, 1) := by decide +kernel
theorem dL_law_992 : decode cL_law 992 = .ok (.aload_n 0, 1) := by decide +kernel
theorem dL_law_993 : decode cL_law 993 = .ok (.iload_n 3, 1) := by decide +kernel
theorem dL_law_994 : decode cL_law 994 = .ok (.iconst 1, 1) := by decide +kernel
theorem dL_law_995 : decode cL_law 995 = .ok (.iadd, 1) := by decide +kernel
theorem dL_law_996 : decode cL_law 996 = .ok (.iaload, 1) := by decide +kernel
theorem dL_law_997 : decode cL_law 997 = .ok (.aload_n 0, 1) := by decide +kernel
theorem dL_law_998 : decode cL_law 998 = .ok (.iload_n 3, 1) := by decide +kernel
theorem dL_law_999 : decode cL_law 999 = .ok (.iconst 2, 1) := by decide +kernel
theorem dL_law_1000 : decode cL_law 1000 = .ok (.iadd, 1) := by decide +kernel
theorem dL_law_1001 : decode cL_law 1001 = .ok (.iaload, 1) := by decide +kernel
theorem dL_law_1002 : decode cL_law 1002 = .ok (.aload_n 0, 1) := by decide +kernel
theorem dL_law_1003 : decode cL_law 1003 = .ok (.iload_n 3, 1) := by decide +kernel
theorem dL_law_1004 : decode cL_law 1004 = .ok (.iconst 3, 1) := by decide +kernel
theorem dL_law_1005 : decode cL_law 1005 = .ok (.iadd, 1) := by decide +kernel
theorem dL_law_1006 : decode cL_law 1006 = .ok (.iaload, 1) := by decide +kernel
theorem dL_law_1007 : decode cL_law 1007 = .ok (.invokevirtual 98, 3) := by decide +kernel
theorem dL_law_1010 : decode cL_law 1010 = .ok (.aload_n 2, 1) := by decide +kernel
theorem dL_law_1011 : decode cL_law 1011 = .ok (.aload_n 0, 1) := by decide +kernel
theorem dL_law_1012 : decode cL_law 1012 = .ok (.iload_n 3, 1) := by decide +kernel
theorem dL_law_1013 : decode cL_law 1013 = .ok (.iconst 1, 1) := by decide +kernel
theorem dL_law_1014 : decode cL_law 1014 = .ok (.iadd, 1) := by decide +kernel
theorem dL_law_1015 : decode cL_law 1015 = .ok (.iaload, 1) := by decide +kernel
theorem dL_law_1016 : decode cL_law 1016 = .ok (.aload_n 0, 1) := by decide +kernel
theorem dL_law_1017 : decode cL_law 1017 = .ok (.iload_n 3, 1) := by decide +kernel
theorem dL_law_1018 : decode cL_law 1018 = .ok (.iconst 2, 1) := by decide +kernel
theorem dL_law_1019 : decode cL_law 1019 = .ok (.iadd, 1) := by decide +kernel
theorem dL_law_1020 : decode cL_law 1020 = .ok (.iaload, 1) := by decide +kernel
theorem dL_law_1021 : decode cL_law 1021 = .ok (.aload_n 0, 1) := by decide +kernel
theorem dL_law_1022 : decode cL_law 1022 = .ok (.iload_n 3, 1) := by decide +kernel
theorem dL_law_1023 : decode cL_law 1023 = .ok (.iconst 3, 1) := by decide +kernel
theorem dL_law_1024 : decode cL_law 1024 = .ok (.iadd, 1) := by decide +kernel
theorem dL_law_1025 : decode cL_law 1025 = .ok (.iaload, 1) := by decide +kernel
theorem dL_law_1026 : decode cL_law 1026 = .ok (.invokevirtual 101, 3) := by decide +kernel
theorem dL_law_1029 : decode cL_law 1029 = .ok (.if_icmp .eq 1820, 3) := by decide +kernel
theorem dL_law_1034 : decode cL_law 1034 = .ok (.aload_n 1, 1) := by decide +kernel
theorem dL_law_1035 : decode cL_law 1035 = .ok (.aload_n 0, 1) := by decide +kernel
theorem dL_law_1036 : decode cL_law 1036 = .ok (.iload_n 3, 1) := by decide +kernel
theorem dL_law_1037 : decode cL_law 1037 = .ok (.iconst 1, 1) := by decide +kernel
theorem dL_law_1038 : decode cL_law 1038 = .ok (.iadd, 1) := by decide +kernel
theorem dL_law_1039 : decode cL_law 1039 = .ok (.iaload, 1) := by decide +kernel
theorem dL_law_1040 : decode cL_law 1040 = .ok (.aload_n 0, 1) := by decide +kernel
theorem dL_law_1041 : decode cL_law 1041 = .ok (.iload_n 3, 1) := by decide +kernel
theorem dL_law_1042 : decode cL_law 1042 = .ok (.iconst 2, 1) := by decide +kernel
theorem dL_law_1043 : decode cL_law 1043 = .ok (.iadd, 1) := by decide +kernel
theorem dL_law_1044 : decode cL_law 1044 = .ok (.iaload, 1) := by decide +kernel
theorem dL_law_1045 : decode cL_law 1045 = .ok (.aload_n 0, 1) := by decide +kernel
theorem dL_law_1046 : decode cL_law 1046 = .ok (.iload_n 3, 1) := by decide +kernel
theorem dL_law_1047 : decode cL_law 1047 = .ok (.iconst 3, 1) := by decide +kernel
theorem dL_law_1048 : decode cL_law 1048 = .ok (.iadd, 1) := by decide +kernel
theorem dL_law_1049 : decode cL_law 1049 = .ok (.iaload, 1) := by decide +kernel
theorem dL_law_1050 : decode cL_law 1050 = .ok (.invokevirtual 102, 3) := by decide +kernel
theorem dL_law_1053 : decode cL_law 1053 = .ok (.aload_n 2, 1) := by decide +kernel
theorem dL_law_1054 : decode cL_law 1054 = .ok (.aload_n 0, 1) := by decide +kernel
theorem dL_law_1055 : decode cL_law 1055 = .ok (.iload_n 3, 1) := by decide +kernel
theorem dL_law_1056 : decode cL_law 1056 = .ok (.iconst 1, 1) := by decide +kernel
theorem dL_law_1057 : decode cL_law 1057 = .ok (.iadd, 1) := by decide +kernel
theorem dL_law_1058 : decode cL_law 1058 = .ok (.iaload, 1) := by decide +kernel
theorem dL_law_1059 : decode cL_law 1059 = .ok (.aload_n 0, 1) := by decide +kernel
theorem dL_law_1060 : decode cL_law 1060 = .ok (.iload_n 3, 1) := by decide +kernel
theorem dL_law_1061 : decode cL_law 1061 = .ok (.iconst 2, 1) := by decide +kernel
theorem dL_law_1062 : decode cL_law 1062 = .ok (.iadd, 1) := by decide +kernel
theorem dL_law_1063 : decode cL_law 1063 = .ok (.iaload, 1) := by decide +kernel
theorem dL_law_1064 : decode cL_law 1064 = .ok (.aload_n 0, 1) := by decide +kernel
theorem dL_law_1065 : decode cL_law 1065 = .ok (.iload_n 3, 1) := by decide +kernel
theorem dL_law_1066 : decode cL_law 1066 = .ok (.iconst 3, 1) := by decide +kernel
theorem dL_law_1067 : decode cL_law 1067 = .ok (.iadd, 1) := by decide +kernel
theorem dL_law_1068 : decode cL_law 1068 = .ok (.iaload, 1) := by decide +kernel
theorem dL_law_1069 : decode cL_law 1069 = .ok (.invokevirtual 105, 3) := by decide +kernel
theorem dL_law_1072 : decode cL_law 1072 = .ok (.if_icmp .eq 1777, 3) := by decide +kernel
theorem dL_law_1077 : decode cL_law 1077 = .ok (.aload_n 1, 1) := by decide +kernel
theorem dL_law_1078 : decode cL_law 1078 = .ok (.aload_n 0, 1) := by decide +kernel
theorem dL_law_1079 : decode cL_law 1079 = .ok (.iload_n 3, 1) := by decide +kernel
theorem dL_law_1080 : decode cL_law 1080 = .ok (.iconst 1, 1) := by decide +kernel
theorem dL_law_1081 : decode cL_law 1081 = .ok (.iadd, 1) := by decide +kernel
theorem dL_law_1082 : decode cL_law 1082 = .ok (.iaload, 1) := by decide +kernel
theorem dL_law_1083 : decode cL_law 1083 = .ok (.aload_n 0, 1) := by decide +kernel
theorem dL_law_1084 : decode cL_law 1084 = .ok (.iload_n 3, 1) := by decide +kernel
theorem dL_law_1085 : decode cL_law 1085 = .ok (.iconst 2, 1) := by decide +kernel
theorem dL_law_1086 : decode cL_law 1086 = .ok (.iadd, 1) := by decide +kernel
theorem dL_law_1087 : decode cL_law 1087 = .ok (.iaload, 1) := by decide +kernel
theorem dL_law_1088 : decode cL_law 1088 = .ok (.invokevirtual 106, 3) := by decide +kernel
theorem dL_law_1091 : decode cL_law 1091 = .ok (.aload_n 2, 1) := by decide +kernel
theorem dL_law_1092 : decode cL_law 1092 = .ok (.aload_n 0, 1) := by decide +kernel
theorem dL_law_1093 : decode cL_law 1093 = .ok (.iload_n 3, 1) := by decide +kernel
theorem dL_law_1094 : decode cL_law 1094 = .ok (.iconst 1, 1) := by decide +kernel
theorem dL_law_1095 : decode cL_law 1095 = .ok (.iadd, 1) := by decide +kernel
theorem dL_law_1096 : decode cL_law 1096 = .ok (.iaload, 1) := by decide +kernel
theorem dL_law_1097 : decode cL_law 1097 = .ok (.aload_n 0, 1) := by decide +kernel
theorem dL_law_1098 : decode cL_law 1098 = .ok (.iload_n 3, 1) := by decide +kernel
theorem dL_law_1099 : decode cL_law 1099 = .ok (.iconst 2, 1) := by decide +kernel
theorem dL_law_1100 : decode cL_law 1100 = .ok (.iadd, 1) := by decide +kernel
theorem dL_law_1101 : decode cL_law 1101 = .ok (.iaload, 1) := by decide +kernel
theorem dL_law_1102 : decode cL_law 1102 = .ok (.invokevirtual 109, 3) := by decide +kernel
theorem dL_law_1105 : decode cL_law 1105 = .ok (.if_icmp .eq 1744, 3) := by decide +kernel
theorem dL_law_1110 : decode cL_law 1110 = .ok (.aload_n 1, 1) := by decide +kernel
theorem dL_law_1111 : decode cL_law 1111 = .ok (.aload_n 0, 1) := by decide +kernel
theorem dL_law_1112 : decode cL_law 1112 = .ok (.iload_n 3, 1) := by decide +kernel
theorem dL_law_1113 : decode cL_law 1113 = .ok (.iconst 1, 1) := by decide +kernel
theorem dL_law_1114 : decode cL_law 1114 = .ok (.iadd, 1) := by decide +kernel
theorem dL_law_1115 : decode cL_law 1115 = .ok (.iaload, 1) := by decide +kernel
theorem dL_law_1116 : decode cL_law 1116 = .ok (.aload_n 0, 1) := by decide +kernel
theorem dL_law_1117 : decode cL_law 1117 = .ok (.iload_n 3, 1) := by decide +kernel
theorem dL_law_1118 : decode cL_law 1118 = .ok (.iconst 2, 1) := by decide +kernel
theorem dL_law_1119 : decode cL_law 1119 = .ok (.iadd, 1) := by decide +kernel
theorem dL_law_1120 : decode cL_law 1120 = .ok (.iaload, 1) := by decide +kernel
theorem dL_law_1121 : decode cL_law 1121 = .ok (.aload_n 0, 1) := by decide +kernel
theorem dL_law_1122 : decode cL_law 1122 = .ok (.iload_n 3, 1) := by decide +kernel
theorem dL_law_1123 : decode cL_law 1123 = .ok (.iconst 3, 1) := by decide +kernel
theorem dL_law_1124 : decode cL_law 1124 = .ok (.iadd, 1) := by decide +kernel
theorem dL_law_1125 : decode cL_law 1125 = .ok (.iaload, 1) := by decide +kernel
theorem dL_law_1126 : decode cL_law 1126 = .ok (.aload_n 0, 1) := by decide +kernel
theorem dL_law_1127 : decode cL_law 1127 = .ok (.iload_n 3, 1) := by decide +kernel
theorem dL_law_1128 : decode cL_law 1128 = .ok (.iconst 4, 1) := by decide +kernel
theorem dL_law_1129 : decode cL_law 1129 = .ok (.iadd, 1) := by decide +kernel
theorem dL_law_1130 : decode cL_law 1130 = .ok (.iaload, 1) := by decide +kernel
theorem dL_law_1131 : decode cL_law 1131 = .ok (.invokevirtual 110, 3) := by decide +kernel
theorem dL_law_1134 : decode cL_law 1134 = .ok (.aload_n 2, 1) := by decide +kernel
theorem dL_law_1135 : decode cL_law 1135 = .ok (.aload_n 0, 1) := by decide +kernel
theorem dL_law_1136 : decode cL_law 1136 = .ok (.iload_n 3, 1) := by decide +kernel
theorem dL_law_1137 : decode cL_law 1137 = .ok (.iconst 1, 1) := by decide +kernel
theorem dL_law_1138 : decode cL_law 1138 = .ok (.iadd, 1) := by decide +kernel
theorem dL_law_1139 : decode cL_law 1139 = .ok (.iaload, 1) := by decide +kernel
theorem dL_law_1140 : decode cL_law 1140 = .ok (.aload_n 0, 1) := by decide +kernel
theorem dL_law_1141 : decode cL_law 1141 = .ok (.iload_n 3, 1) := by decide +kernel
theorem dL_law_1142 : decode cL_law 1142 = .ok (.iconst 2, 1) := by decide +kernel
theorem dL_law_1143 : decode cL_law 1143 = .ok (.iadd, 1) := by decide +kernel
theorem dL_law_1144 : decode cL_law 1144 = .ok (.iaload, 1) := by decide +kernel
theorem dL_law_1145 : decode cL_law 1145 = .ok (.aload_n 0, 1) := by decide +kernel
theorem dL_law_1146 : decode cL_law 1146 = .ok (.iload_n 3, 1) := by decide +kernel
theorem dL_law_1147 : decode cL_law 1147 = .ok (.iconst 3, 1) := by decide +kernel
theorem dL_law_1148 : decode cL_law 1148 = .ok (.iadd, 1) := by decide +kernel
theorem dL_law_1149 : decode cL_law 1149 = .ok (.iaload, 1) := by decide +kernel
theorem dL_law_1150 : decode cL_law 1150 = .ok (.aload_n 0, 1) := by decide +kernel
theorem dL_law_1151 : decode cL_law 1151 = .ok (.iload_n 3, 1) := by decide +kernel
theorem dL_law_1152 : decode cL_law 1152 = .ok (.iconst 4, 1) := by decide +kernel
theorem dL_law_1153 : decode cL_law 1153 = .ok (.iadd, 1) := by decide +kernel
theorem dL_law_1154 : decode cL_law 1154 = .ok (.iaload, 1) := by decide +kernel
theorem dL_law_1155 : decode cL_law 1155 = .ok (.invokevirtual 113, 3) := by decide +kernel
theorem dL_law_1158 : decode cL_law 1158 = .ok (.if_icmp .eq 1691, 3) := by decide +kernel
theorem dL_law_1163 : decode cL_law 1163 = .ok (.aload_n 1, 1) := by decide +kernel
theorem dL_law_1164 : decode cL_law 1164 = .ok (.aload_n 0, 1) := by decide +kernel
theorem dL_law_1165 : decode cL_law 1165 = .ok (.iload_n 3, 1) := by decide +kernel
theorem dL_law_1166 : decode cL_law 1166 = .ok (.iconst 1, 1) := by decide +kernel
theorem dL_law_1167 : decode cL_law 1167 = .ok (.iadd, 1) := by decide +kernel
theorem dL_law_1168 : decode cL_law 1168 = .ok (.iaload, 1) := by decide +kernel
theorem dL_law_1169 : decode cL_law 1169 = .ok (.invokevirtual 114, 3) := by decide +kernel
theorem dL_law_1172 : decode cL_law 1172 = .ok (.aload_n 2, 1) := by decide +kernel
theorem dL_law_1173 : decode cL_law 1173 = .ok (.aload_n 0, 1) := by decide +kernel
theorem dL_law_1174 : decode cL_law 1174 = .ok (.iload_n 3, 1) := by decide +kernel
theorem dL_law_1175 : decode cL_law 1175 = .ok (.iconst 1, 1) := by decide +kernel
theorem dL_law_1176 : decode cL_law 1176 = .ok (.iadd, 1) := by decide +kernel
theorem dL_law_1177 : decode cL_law 1177 = .ok (.iaload, 1) := by decide +kernel
theorem dL_law_1178 : decode cL_law 1178 = .ok (.invokevirtual 117, 3) := by decide +kernel
theorem dL_law_1181 : decode cL_law 1181 = .ok (.if_icmp .eq 1668, 3) := by decide +kernel
theorem dL_law_1186 : decode cL_law 1186 = .ok (.aload_n 1, 1) := by decide +kernel
theorem dL_law_1187 : decode cL_law 1187 = .ok (.aload_n 0, 1) := by decide +kernel
theorem dL_law_1188 : decode cL_law 1188 = .ok (.iload_n 3, 1) := by decide +kernel
theorem dL_law_1189 : decode cL_law 1189 = .ok (.iconst 1, 1) := by decide +kernel
theorem dL_law_1190 : decode cL_law 1190 = .ok (.iadd, 1) := by decide +kernel
theorem dL_law_1191 : decode cL_law 1191 = .ok (.iaload, 1) := by decide +kernel
theorem dL_law_1192 : decode cL_law 1192 = .ok (.aload_n 0, 1) := by decide +kernel
theorem dL_law_1193 : decode cL_law 1193 = .ok (.iload_n 3, 1) := by decide +kernel
theorem dL_law_1194 : decode cL_law 1194 = .ok (.iconst 2, 1) := by decide +kernel
theorem dL_law_1195 : decode cL_law 1195 = .ok (.iadd, 1) := by decide +kernel
theorem dL_law_1196 : decode cL_law 1196 = .ok (.iaload, 1) := by decide +kernel
theorem dL_law_1197 : decode cL_law 1197 = .ok (.aload_n 0, 1) := by decide +kernel
theorem dL_law_1198 : decode cL_law 1198 = .ok (.iload_n 3, 1) := by decide +kernel
theorem dL_law_1199 : decode cL_law 1199 = .ok (.iconst 3, 1) := by decide +kernel
theorem dL_law_1200 : decode cL_law 1200 = .ok (.iadd, 1) := by decide +kernel
theorem dL_law_1201 : decode cL_law 1201 = .ok (.iaload, 1) := by decide +kernel
theorem dL_law_1202 : decode cL_law 1202 = .ok (.invokevirtual 118, 3) := by decide +kernel
theorem dL_law_1205 : decode cL_law 1205 = .ok (.aload_n 2, 1) := by decide +kernel
theorem dL_law_1206 : decode cL_law 1206 = .ok (.aload_n 0, 1) := by decide +kernel
theorem dL_law_1207 : decode cL_law 1207 = .ok (.iload_n 3, 1) := by decide +kernel
theorem dL_law_1208 : decode cL_law 1208 = .ok (.iconst 1, 1) := by decide +kernel
theorem dL_law_1209 : decode cL_law 1209 = .ok (.iadd, 1) := by decide +kernel
theorem dL_law_1210 : decode cL_law 1210 = .ok (.iaload, 1) := by decide +kernel
theorem dL_law_1211 : decode cL_law 1211 = .ok (.aload_n 0, 1) := by decide +kernel
theorem dL_law_1212 : decode cL_law 1212 = .ok (.iload_n 3, 1) := by decide +kernel
theorem dL_law_1213 : decode cL_law 1213 = .ok (.iconst 2, 1) := by decide +kernel
theorem dL_law_1214 : decode cL_law 1214 = .ok (.iadd, 1) := by decide +kernel
theorem dL_law_1215 : decode cL_law 1215 = .ok (.iaload, 1) := by decide +kernel
theorem dL_law_1216 : decode cL_law 1216 = .ok (.aload_n 0, 1) := by decide +kernel
theorem dL_law_1217 : decode cL_law 1217 = .ok (.iload_n 3, 1) := by decide +kernel
theorem dL_law_1218 : decode cL_law 1218 = .ok (.iconst 3, 1) := by decide +kernel
theorem dL_law_1219 : decode cL_law 1219 = .ok (.iadd, 1) := by decide +kernel
theorem dL_law_1220 : decode cL_law 1220 = .ok (.iaload, 1) := by decide +kernel
theorem dL_law_1221 : decode cL_law 1221 = .ok (.invokevirtual 121, 3) := by decide +kernel
theorem dL_law_1224 : decode cL_law 1224 = .ok (.if_icmp .eq 1625, 3) := by decide +kernel
theorem dL_law_1229 : decode cL_law 1229 = .ok (.aload_n 1, 1) := by decide +kernel
theorem dL_law_1230 : decode cL_law 1230 = .ok (.aload_n 0, 1) := by decide +kernel
theorem dL_law_1231 : decode cL_law 1231 = .ok (.iload_n 3, 1) := by decide +kernel
theorem dL_law_1232 : decode cL_law 1232 = .ok (.iconst 1, 1) := by decide +kernel
theorem dL_law_1233 : decode cL_law 1233 = .ok (.iadd, 1) := by decide +kernel
theorem dL_law_1234 : decode cL_law 1234 = .ok (.iaload, 1) := by decide +kernel
theorem dL_law_1235 : decode cL_law 1235 = .ok (.invokevirtual 122, 3) := by decide +kernel
theorem dL_law_1238 : decode cL_law 1238 = .ok (.aload_n 2, 1) := by decide +kernel
theorem dL_law_1239 : decode cL_law 1239 = .ok (.aload_n 0, 1) := by decide +kernel
theorem dL_law_1240 : decode cL_law 1240 = .ok (.iload_n 3, 1) := by decide +kernel
theorem dL_law_1241 : decode cL_law 1241 = .ok (.iconst 1, 1) := by decide +kernel
theorem dL_law_1242 : decode cL_law 1242 = .ok (.iadd, 1) := by decide +kernel
theorem dL_law_1243 : decode cL_law 1243 = .ok (.iaload, 1) := by decide +kernel
theorem dL_law_1244 : decode cL_law 1244 = .ok (.invokevirtual 125, 3) := by decide +kernel
theorem dL_law_1247 : decode cL_law 1247 = .ok (.if_icmp .eq 1602, 3) := by decide +kernel
theorem dL_law_1252 : decode cL_law 1252 = .ok (.aload_n 1, 1) := by decide +kernel
theorem dL_law_1253 : decode cL_law 1253 = .ok (.aload_n 0, 1) := by decide +kernel
theorem dL_law_1254 : decode cL_law 1254 = .ok (.iload_n 3, 1) := by decide +kernel
theorem dL_law_1255 : decode cL_law 1255 = .ok (.iconst 1, 1) := by decide +kernel
theorem dL_law_1256 : decode cL_law 1256 = .ok (.iadd, 1) := by decide +kernel
theorem dL_law_1257 : decode cL_law 1257 = .ok (.iaload, 1) := by decide +kernel
theorem dL_law_1258 : decode cL_law 1258 = .ok (.aload_n 0, 1) := by decide +kernel
theorem dL_law_1259 : decode cL_law 1259 = .ok (.iload_n 3, 1) := by decide +kernel
theorem dL_law_1260 : decode cL_law 1260 = .ok (.iconst 2, 1) := by decide +kernel
theorem dL_law_1261 : decode cL_law 1261 = .ok (.iadd, 1) := by decide +kernel
theorem dL_law_1262 : decode cL_law 1262 = .ok (.iaload, 1) := by decide +kernel
theorem dL_law_1263 : decode cL_law 1263 = .ok (.aload_n 0, 1) := by decide +kernel
theorem dL_law_1264 : decode cL_law 1264 = .ok (.iload_n 3, 1) := by decide +kernel
theorem dL_law_1265 : decode cL_law 1265 = .ok (.iconst 3, 1) := by decide +kernel
theorem dL_law_1266 : decode cL_law 1266 = .ok (.iadd, 1) := by decide +kernel
theorem dL_law_1267 : decode cL_law 1267 = .ok (.iaload, 1) := by decide +kernel
theorem dL_law_1268 : decode cL_law 1268 = .ok (.aload_n 0, 1) := by decide +kernel
theorem dL_law_1269 : decode cL_law 1269 = .ok (.iload_n 3, 1) := by decide +kernel
theorem dL_law_1270 : decode cL_law 1270 = .ok (.iconst 4, 1) := by decide +kernel
theorem dL_law_1271 : decode cL_law 1271 = .ok (.iadd, 1) := by decide +kernel
theorem dL_law_1272 : decode cL_law 1272 = .ok (.iaload, 1) := by decide +kernel
theorem dL_law_1273 : decode cL_law 1273 = .ok (.invokevirtual 126, 3) := by decide +kernel
theorem dL_law_1276 : decode cL_law 1276 = .ok (.aload_n 2, 1) := by decide +kernel
theorem dL_law_1277 : decode cL_law 1277 = .ok (.aload_n 0, 1) := by decide +kernel
theorem dL_law_1278 : decode cL_law 1278 = .ok (.iload_n 3, 1) := by decide +kernel
theorem dL_law_1279 : decode cL_law 1279 = .ok (.iconst 1, 1) := by decide +kernel
theorem dL_law_1280 : decode cL_law 1280 = .ok (.iadd, 1) := by decide +kernel
theorem dL_law_1281 : decode cL_law 1281 = .ok (.iaload, 1) := by decide +kernel
theorem dL_law_1282 : decode cL_law 1282 = .ok (.aload_n 0, 1) := by decide +kernel
theorem dL_law_1283 : decode cL_law 1283 = .ok (.iload_n 3, 1) := by decide +kernel
theorem dL_law_1284 : decode cL_law 1284 = .ok (.iconst 2, 1) := by decide +kernel
theorem dL_law_1285 : decode cL_law 1285 = .ok (.iadd, 1) := by decide +kernel
theorem dL_law_1286 : decode cL_law 1286 = .ok (.iaload, 1) := by decide +kernel
theorem dL_law_1287 : decode cL_law 1287 = .ok (.aload_n 0, 1) := by decide +kernel
theorem dL_law_1288 : decode cL_law 1288 = .ok (.iload_n 3, 1) := by decide +kernel
theorem dL_law_1289 : decode cL_law 1289 = .ok (.iconst 3, 1) := by decide +kernel
theorem dL_law_1290 : decode cL_law 1290 = .ok (.iadd, 1) := by decide +kernel
theorem dL_law_1291 : decode cL_law 1291 = .ok (.iaload, 1) := by decide +kernel
theorem dL_law_1292 : decode cL_law 1292 = .ok (.aload_n 0, 1) := by decide +kernel
theorem dL_law_1293 : decode cL_law 1293 = .ok (.iload_n 3, 1) := by decide +kernel
theorem dL_law_1294 : decode cL_law 1294 = .ok (.iconst 4, 1) := by decide +kernel
theorem dL_law_1295 : decode cL_law 1295 = .ok (.iadd, 1) := by decide +kernel
theorem dL_law_1296 : decode cL_law 1296 = .ok (.iaload, 1) := by decide +kernel
theorem dL_law_1297 : decode cL_law 1297 = .ok (.invokevirtual 129, 3) := by decide +kernel
theorem dL_law_1300 : decode cL_law 1300 = .ok (.if_icmp .eq 1549, 3) := by decide +kernel
theorem dL_law_1305 : decode cL_law 1305 = .ok (.aload_n 1, 1) := by decide +kernel
theorem dL_law_1306 : decode cL_law 1306 = .ok (.aload_n 0, 1) := by decide +kernel
theorem dL_law_1307 : decode cL_law 1307 = .ok (.iload_n 3, 1) := by decide +kernel
theorem dL_law_1308 : decode cL_law 1308 = .ok (.iconst 1, 1) := by decide +kernel
theorem dL_law_1309 : decode cL_law 1309 = .ok (.iadd, 1) := by decide +kernel
theorem dL_law_1310 : decode cL_law 1310 = .ok (.iaload, 1) := by decide +kernel
theorem dL_law_1311 : decode cL_law 1311 = .ok (.aload_n 0, 1) := by decide +kernel
theorem dL_law_1312 : decode cL_law 1312 = .ok (.iload_n 3, 1) := by decide +kernel
theorem dL_law_1313 : decode cL_law 1313 = .ok (.iconst 2, 1) := by decide +kernel
theorem dL_law_1314 : decode cL_law 1314 = .ok (.iadd, 1) := by decide +kernel
theorem dL_law_1315 : decode cL_law 1315 = .ok (.iaload, 1) := by decide +kernel
theorem dL_law_1316 : decode cL_law 1316 = .ok (.aload_n 0, 1) := by decide +kernel
theorem dL_law_1317 : decode cL_law 1317 = .ok (.iload_n 3, 1) := by decide +kernel
theorem dL_law_1318 : decode cL_law 1318 = .ok (.iconst 3, 1) := by decide +kernel
theorem dL_law_1319 : decode cL_law 1319 = .ok (.iadd, 1) := by decide +kernel
theorem dL_law_1320 : decode cL_law 1320 = .ok (.iaload, 1) := by decide +kernel
theorem dL_law_1321 : decode cL_law 1321 = .ok (.invokevirtual 130, 3) := by decide +kernel
theorem dL_law_1324 : decode cL_law 1324 = .ok (.aload_n 2, 1) := by decide +kernel
theorem dL_law_1325 : decode cL_law 1325 = .ok (.aload_n 0, 1) := by decide +kernel
theorem dL_law_1326 : decode cL_law 1326 = .ok (.iload_n 3, 1) := by decide +kernel
theorem dL_law_1327 : decode cL_law 1327 = .ok (.iconst 1, 1) := by decide +kernel
theorem dL_law_1328 : decode cL_law 1328 = .ok (.iadd, 1) := by decide +kernel
theorem dL_law_1329 : decode cL_law 1329 = .ok (.iaload, 1) := by decide +kernel
theorem dL_law_1330 : decode cL_law 1330 = .ok (.aload_n 0, 1) := by decide +kernel
theorem dL_law_1331 : decode cL_law 1331 = .ok (.iload_n 3, 1) := by decide +kernel
theorem dL_law_1332 : decode cL_law 1332 = .ok (.iconst 2, 1) := by decide +kernel
theorem dL_law_1333 : decode cL_law 1333 = .ok (.iadd, 1) := by decide +kernel
theorem dL_law_1334 : decode cL_law 1334 = .ok (.iaload, 1) := by decide +kernel
theorem dL_law_1335 : decode cL_law 1335 = .ok (.aload_n 0, 1) := by decide +kernel
theorem dL_law_1336 : decode cL_law 1336 = .ok (.iload_n 3, 1) := by decide +kernel
theorem dL_law_1337 : decode cL_law 1337 = .ok (.iconst 3, 1) := by decide +kernel
theorem dL_law_1338 : decode cL_law 1338 = .ok (.iadd, 1) := by decide +kernel
theorem dL_law_1339 : decode cL_law 1339 = .ok (.iaload, 1) := by decide +kernel
theorem dL_law_1340 : decode cL_law 1340 = .ok (.invokevirtual 133, 3) := by decide +kernel
theorem dL_law_1343 : decode cL_law 1343 = .ok (.if_icmp .eq 1506, 3) := by decide +kernel
theorem dL_law_1348 : decode cL_law 1348 = .ok (.aload_n 1, 1) := by decide +kernel
theorem dL_law_1349 : decode cL_law 1349 = .ok (.aload_n 0, 1) := by decide +kernel
theorem dL_law_1350 : decode cL_law 1350 = .ok (.iload_n 3, 1) := by decide +kernel
theorem dL_law_1351 : decode cL_law 1351 = .ok (.iconst 1, 1) := by decide +kernel
theorem dL_law_1352 : decode cL_law 1352 = .ok (.iadd, 1) := by decide +kernel
theorem dL_law_1353 : decode cL_law 1353 = .ok (.iaload, 1) := by decide +kernel
theorem dL_law_1354 : decode cL_law 1354 = .ok (.aload_n 0, 1) := by decide +kernel
theorem dL_law_1355 : decode cL_law 1355 = .ok (.iload_n 3, 1) := by decide +kernel
theorem dL_law_1356 : decode cL_law 1356 = .ok (.iconst 2, 1) := by decide +kernel
theorem dL_law_1357 : decode cL_law 1357 = .ok (.iadd, 1) := by decide +kernel
theorem dL_law_1358 : decode cL_law 1358 = .ok (.iaload, 1) := by decide +kernel
theorem dL_law_1359 : decode cL_law 1359 = .ok (.aload_n 0, 1) := by decide +kernel
theorem dL_law_1360 : decode cL_law 1360 = .ok (.iload_n 3, 1) := by decide +kernel
theorem dL_law_1361 : decode cL_law 1361 = .ok (.iconst 3, 1) := by decide +kernel
theorem dL_law_1362 : decode cL_law 1362 = .ok (.iadd, 1) := by decide +kernel
theorem dL_law_1363 : decode cL_law 1363 = .ok (.iaload, 1) := by decide +kernel
theorem dL_law_1364 : decode cL_law 1364 = .ok (.invokevirtual 134, 3) := by decide +kernel
theorem dL_law_1367 : decode cL_law 1367 = .ok (.aload_n 2, 1) := by decide +kernel
theorem dL_law_1368 : decode cL_law 1368 = .ok (.aload_n 0, 1) := by decide +kernel
theorem dL_law_1369 : decode cL_law 1369 = .ok (.iload_n 3, 1) := by decide +kernel
theorem dL_law_1370 : decode cL_law 1370 = .ok (.iconst 1, 1) := by decide +kernel
theorem dL_law_1371 : decode cL_law 1371 = .ok (.iadd, 1) := by decide +kernel
theorem dL_law_1372 : decode cL_law 1372 = .ok (.iaload, 1) := by decide +kernel
theorem dL_law_1373 : decode cL_law 1373 = .ok (.aload_n 0, 1) := by decide +kernel
theorem dL_law_1374 : decode cL_law 1374 = .ok (.iload_n 3, 1) := by decide +kernel
theorem dL_law_1375 : decode cL_law 1375 = .ok (.iconst 2, 1) := by decide +kernel
theorem dL_law_1376 : decode cL_law 1376 = .ok (.iadd, 1) := by decide +kernel
theorem dL_law_1377 : decode cL_law 1377 = .ok (.iaload, 1) := by decide +kernel
theorem dL_law_1378 : decode cL_law 1378 = .ok (.aload_n 0, 1) := by decide +kernel
theorem dL_law_1379 : decode cL_law 1379 = .ok (.iload_n 3, 1) := by decide +kernel
theorem dL_law_1380 : decode cL_law 1380 = .ok (.iconst 3, 1) := by decide +kernel
theorem dL_law_1381 : decode cL_law 1381 = .ok (.iadd, 1) := by decide +kernel
theorem dL_law_1382 : decode cL_law 1382 = .ok (.iaload, 1) := by decide +kernel
theorem dL_law_1383 : decode cL_law 1383 = .ok (.invokevirtual 137, 3) := by decide +kernel
theorem dL_law_1386 : decode cL_law 1386 = .ok (.if_icmp .eq 1463, 3) := by decide +kernel
theorem dL_law_1391 : decode cL_law 1391 = .ok (.aload_n 1, 1) := by decide +kernel
theorem dL_law_1392 : decode cL_law 1392 = .ok (.aload_n 0, 1) := by decide +kernel
theorem dL_law_1393 : decode cL_law 1393 = .ok (.iload_n 3, 1) := by decide +kernel
theorem dL_law_1394 : decode cL_law 1394 = .ok (.iconst 1, 1) := by decide +kernel
theorem dL_law_1395 : decode cL_law 1395 = .ok (.iadd, 1) := by decide +kernel
theorem dL_law_1396 : decode cL_law 1396 = .ok (.iaload, 1) := by decide +kernel
theorem dL_law_1397 : decode cL_law 1397 = .ok (.aload_n 0, 1) := by decide +kernel
theorem dL_law_1398 : decode cL_law 1398 = .ok (.iload_n 3, 1) := by decide +kernel
theorem dL_law_1399 : decode cL_law 1399 = .ok (.iconst 2, 1) := by decide +kernel
theorem dL_law_1400 : decode cL_law 1400 = .ok (.iadd, 1) := by decide +kernel
theorem dL_law_1401 : decode cL_law 1401 = .ok (.iaload, 1) := by decide +kernel
theorem dL_law_1402 : decode cL_law 1402 = .ok (.aload_n 0, 1) := by decide +kernel
theorem dL_law_1403 : decode cL_law 1403 = .ok (.iload_n 3, 1) := by decide +kernel
theorem dL_law_1404 : decode cL_law 1404 = .ok (.iconst 3, 1) := by decide +kernel
theorem dL_law_1405 : decode cL_law 1405 = .ok (.iadd, 1) := by decide +kernel
theorem dL_law_1406 : decode cL_law 1406 = .ok (.iaload, 1) := by decide +kernel
theorem dL_law_1407 : decode cL_law 1407 = .ok (.invokevirtual 138, 3) := by decide +kernel
theorem dL_law_1410 : decode cL_law 1410 = .ok (.aload_n 2, 1) := by decide +kernel
theorem dL_law_1411 : decode cL_law 1411 = .ok (.aload_n 0, 1) := by decide +kernel
theorem dL_law_1412 : decode cL_law 1412 = .ok (.iload_n 3, 1) := by decide +kernel
theorem dL_law_1413 : decode cL_law 1413 = .ok (.iconst 1, 1) := by decide +kernel
theorem dL_law_1414 : decode cL_law 1414 = .ok (.iadd, 1) := by decide +kernel
theorem dL_law_1415 : decode cL_law 1415 = .ok (.iaload, 1) := by decide +kernel
theorem dL_law_1416 : decode cL_law 1416 = .ok (.aload_n 0, 1) := by decide +kernel
theorem dL_law_1417 : decode cL_law 1417 = .ok (.iload_n 3, 1) := by decide +kernel
theorem dL_law_1418 : decode cL_law 1418 = .ok (.iconst 2, 1) := by decide +kernel
theorem dL_law_1419 : decode cL_law 1419 = .ok (.iadd, 1) := by decide +kernel
theorem dL_law_1420 : decode cL_law 1420 = .ok (.iaload, 1) := by decide +kernel
theorem dL_law_1421 : decode cL_law 1421 = .ok (.aload_n 0, 1) := by decide +kernel
theorem dL_law_1422 : decode cL_law 1422 = .ok (.iload_n 3, 1) := by decide +kernel
theorem dL_law_1423 : decode cL_law 1423 = .ok (.iconst 3, 1) := by decide +kernel
theorem dL_law_1424 : decode cL_law 1424 = .ok (.iadd, 1) := by decide +kernel
theorem dL_law_1425 : decode cL_law 1425 = .ok (.iaload, 1) := by decide +kernel
theorem dL_law_1426 : decode cL_law 1426 = .ok (.invokevirtual 141, 3) := by decide +kernel
theorem dL_law_1429 : decode cL_law 1429 = .ok (.if_icmp .eq 1420, 3) := by decide +kernel
theorem dL_law_1434 : decode cL_law 1434 = .ok (.aload_n 1, 1) := by decide +kernel
theorem dL_law_1435 : decode cL_law 1435 = .ok (.aload_n 0, 1) := by decide +kernel
theorem dL_law_1436 : decode cL_law 1436 = .ok (.iload_n 3, 1) := by decide +kernel
theorem dL_law_1437 : decode cL_law 1437 = .ok (.iconst 1, 1) := by decide +kernel
theorem dL_law_1438 : decode cL_law 1438 = .ok (.iadd, 1) := by decide +kernel
theorem dL_law_1439 : decode cL_law 1439 = .ok (.iaload, 1) := by decide +kernel
theorem dL_law_1440 : decode cL_law 1440 = .ok (.aload_n 0, 1) := by decide +kernel
theorem dL_law_1441 : decode cL_law 1441 = .ok (.iload_n 3, 1) := by decide +kernel
theorem dL_law_1442 : decode cL_law 1442 = .ok (.iconst 2, 1) := by decide +kernel
theorem dL_law_1443 : decode cL_law 1443 = .ok (.iadd, 1) := by decide +kernel
theorem dL_law_1444 : decode cL_law 1444 = .ok (.iaload, 1) := by decide +kernel
theorem dL_law_1445 : decode cL_law 1445 = .ok (.aload_n 0, 1) := by decide +kernel
theorem dL_law_1446 : decode cL_law 1446 = .ok (.iload_n 3, 1) := by decide +kernel
theorem dL_law_1447 : decode cL_law 1447 = .ok (.iconst 3, 1) := by decide +kernel
theorem dL_law_1448 : decode cL_law 1448 = .ok (.iadd, 1) := by decide +kernel
theorem dL_law_1449 : decode cL_law 1449 = .ok (.iaload, 1) := by decide +kernel
theorem dL_law_1450 : decode cL_law 1450 = .ok (.invokevirtual 142, 3) := by decide +kernel
theorem dL_law_1453 : decode cL_law 1453 = .ok (.aload_n 2, 1) := by decide +kernel
theorem dL_law_1454 : decode cL_law 1454 = .ok (.aload_n 0, 1) := by decide +kernel
theorem dL_law_1455 : decode cL_law 1455 = .ok (.iload_n 3, 1) := by decide +kernel
theorem dL_law_1456 : decode cL_law 1456 = .ok (.iconst 1, 1) := by decide +kernel
theorem dL_law_1457 : decode cL_law 1457 = .ok (.iadd, 1) := by decide +kernel
theorem dL_law_1458 : decode cL_law 1458 = .ok (.iaload, 1) := by decide +kernel
theorem dL_law_1459 : decode cL_law 1459 = .ok (.aload_n 0, 1) := by decide +kernel
theorem dL_law_1460 : decode cL_law 1460 = .ok (.iload_n 3, 1) := by decide +kernel
theorem dL_law_1461 : decode cL_law 1461 = .ok (.iconst 2, 1) := by decide +kernel
theorem dL_law_1462 : decode cL_law 1462 = .ok (.iadd, 1) := by decide +kernel
theorem dL_law_1463 : decode cL_law 1463 = .ok (.iaload, 1) := by decide +kernel
theorem dL_law_1464 : decode cL_law 1464 = .ok (.aload_n 0, 1) := by decide +kernel
theorem dL_law_1465 : decode cL_law 1465 = .ok (.iload_n 3, 1) := by decide +kernel
theorem dL_law_1466 : decode cL_law 1466 = .ok (.iconst 3, 1) := by decide +kernel
theorem dL_law_1467 : decode cL_law 1467 = .ok (.iadd, 1) := by decide +kernel
theorem dL_law_1468 : decode cL_law 1468 = .ok (.iaload, 1) := by decide +kernel
theorem dL_law_1469 : decode cL_law 1469 = .ok (.invokevirtual 145, 3) := by decide +kernel
theorem dL_law_1472 : decode cL_law 1472 = .ok (.if_icmp .eq 1377, 3) := by decide +kernel
theorem dL_law_1477 : decode cL_law 1477 = .ok (.aload_n 1, 1) := by decide +kernel
theorem dL_law_1478 : decode cL_law 1478 = .ok (.aload_n 0, 1) := by decide +kernel
theorem dL_law_1479 : decode cL_law 1479 = .ok (.iload_n 3, 1) := by decide +kernel
theorem dL_law_1480 : decode cL_law 1480 = .ok (.iconst 1, 1) := by decide +kernel
theorem dL_law_1481 : decode cL_law 1481 = .ok (.iadd, 1) := by decide +kernel
theorem dL_law_1482 : decode cL_law 1482 = .ok (.iaload, 1) := by decide +kernel
theorem dL_law_1483 : decode cL_law 1483 = .ok (.aload_n 0, 1) := by decide +kernel
theorem dL_law_1484 : decode cL_law 1484 = .ok (.iload_n 3, 1) := by decide +kernel
theorem dL_law_1485 : decode cL_law 1485 = .ok (.iconst 2, 1) := by decide +kernel
theorem dL_law_1486 : decode cL_law 1486 = .ok (.iadd, 1) := by decide +kernel
theorem dL_law_1487 : decode cL_law 1487 = .ok (.iaload, 1) := by decide +kernel
theorem dL_law_1488 : decode cL_law 1488 = .ok (.invokevirtual 146, 3) := by decide +kernel
theorem dL_law_1491 : decode cL_law 1491 = .ok (.aload_n 2, 1) := by decide +kernel
theorem dL_law_1492 : decode cL_law 1492 = .ok (.aload_n 0, 1) := by decide +kernel
theorem dL_law_1493 : decode cL_law 1493 = .ok (.iload_n 3, 1) := by decide +kernel
theorem dL_law_1494 : decode cL_law 1494 = .ok (.iconst 1, 1) := by decide +kernel
theorem dL_law_1495 : decode cL_law 1495 = .ok (.iadd, 1) := by decide +kernel
theorem dL_law_1496 : decode cL_law 1496 = .ok (.iaload, 1) := by decide +kernel
theorem dL_law_1497 : decode cL_law 1497 = .ok (.aload_n 0, 1) := by decide +kernel
theorem dL_law_1498 : decode cL_law 1498 = .ok (.iload_n 3, 1) := by decide +kernel
theorem dL_law_1499 : decode cL_law 1499 = .ok (.iconst 2, 1) := by decide +kernel
theorem dL_law_1500 : decode cL_law 1500 = .ok (.iadd, 1) := by decide +kernel
theorem dL_law_1501 : decode cL_law 1501 = .ok (.iaload, 1) := by decide +kernel
theorem dL_law_1502 : decode cL_law 1502 = .ok (.invokevirtual 149, 3) := by decide +kernel
theorem dL_law_1505 : decode cL_law 1505 = .ok (.if_icmp .eq 1344, 3) := by decide +kernel
theorem dL_law_1510 : decode cL_law 1510 = .ok (.aload_n 1, 1) := by decide +kernel
theorem dL_law_1511 : decode cL_law 1511 = .ok (.aload_n 0, 1) := by decide +kernel
theorem dL_law_1512 : decode cL_law 1512 = .ok (.iload_n 3, 1) := by decide +kernel
theorem dL_law_1513 : decode cL_law 1513 = .ok (.iconst 1, 1) := by decide +kernel
theorem dL_law_1514 : decode cL_law 1514 = .ok (.iadd, 1) := by decide +kernel
theorem dL_law_1515 : decode cL_law 1515 = .ok (.iaload, 1) := by decide +kernel
theorem dL_law_1516 : decode cL_law 1516 = .ok (.aload_n 0, 1) := by decide +kernel
theorem dL_law_1517 : decode cL_law 1517 = .ok (.iload_n 3, 1) := by decide +kernel
theorem dL_law_1518 : decode cL_law 1518 = .ok (.iconst 2, 1) := by decide +kernel
theorem dL_law_1519 : decode cL_law 1519 = .ok (.iadd, 1) := by decide +kernel
theorem dL_law_1520 : decode cL_law 1520 = .ok (.iaload, 1) := by decide +kernel
theorem dL_law_1521 : decode cL_law 1521 = .ok (.aload_n 0, 1) := by decide +kernel
theorem dL_law_1522 : decode cL_law 1522 = .ok (.iload_n 3, 1) := by decide +kernel
theorem dL_law_1523 : decode cL_law 1523 = .ok (.iconst 3, 1) := by decide +kernel
theorem dL_law_1524 : decode cL_law 1524 = .ok (.iadd, 1) := by decide +kernel
theorem dL_law_1525 : decode cL_law 1525 = .ok (.iaload, 1) := by decide +kernel
theorem dL_law_1526 : decode cL_law 1526 = .ok (.invokevirtual 150, 3) := by decide +kernel
theorem dL_law_1529 : decode cL_law 1529 = .ok (.aload_n 2, 1) := by decide +kernel
theorem dL_law_1530 : decode cL_law 1530 = .ok (.aload_n 0, 1) := by decide +kernel
theorem dL_law_1531 : decode cL_law 1531 = .ok (.iload_n 3, 1) := by decide +kernel
theorem dL_law_1532 : decode cL_law 1532 = .ok (.iconst 1, 1) := by decide +kernel
theorem dL_law_1533 : decode cL_law 1533 = .ok (.iadd, 1) := by decide +kernel
theorem dL_law_1534 : decode cL_law 1534 = .ok (.iaload, 1) := by decide +kernel
theorem dL_law_1535 : decode cL_law 1535 = .ok (.aload_n 0, 1) := by decide +kernel
theorem dL_law_1536 : decode cL_law 1536 = .ok (.iload_n 3, 1) := by decide +kernel
theorem dL_law_1537 : decode cL_law 1537 = .ok (.iconst 2, 1) := by decide +kernel
theorem dL_law_1538 : decode cL_law 1538 = .ok (.iadd, 1) := by decide +kernel
theorem dL_law_1539 : decode cL_law 1539 = .ok (.iaload, 1) := by decide +kernel
theorem dL_law_1540 : decode cL_law 1540 = .ok (.aload_n 0, 1) := by decide +kernel
theorem dL_law_1541 : decode cL_law 1541 = .ok (.iload_n 3, 1) := by decide +kernel
theorem dL_law_1542 : decode cL_law 1542 = .ok (.iconst 3, 1) := by decide +kernel
theorem dL_law_1543 : decode cL_law 1543 = .ok (.iadd, 1) := by decide +kernel
theorem dL_law_1544 : decode cL_law 1544 = .ok (.iaload, 1) := by decide +kernel
theorem dL_law_1545 : decode cL_law 1545 = .ok (.invokevirtual 153, 3) := by decide +kernel
theorem dL_law_1548 : decode cL_law 1548 = .ok (.if_icmp .eq 1301, 3) := by decide +kernel
theorem dL_law_1553 : decode cL_law 1553 = .ok (.aload_n 1, 1) := by decide +kernel
theorem dL_law_1554 : decode cL_law 1554 = .ok (.aload_n 0, 1) := by decide +kernel
theorem dL_law_1555 : decode cL_law 1555 = .ok (.iload_n 3, 1) := by decide +kernel
theorem dL_law_1556 : decode cL_law 1556 = .ok (.iconst 1, 1) := by decide +kernel
theorem dL_law_1557 : decode cL_law 1557 = .ok (.iadd, 1) := by decide +kernel
theorem dL_law_1558 : decode cL_law 1558 = .ok (.iaload, 1) := by decide +kernel
theorem dL_law_1559 : decode cL_law 1559 = .ok (.aload_n 0, 1) := by decide +kernel
theorem dL_law_1560 : decode cL_law 1560 = .ok (.iload_n 3, 1) := by decide +kernel
theorem dL_law_1561 : decode cL_law 1561 = .ok (.iconst 2, 1) := by decide +kernel
theorem dL_law_1562 : decode cL_law 1562 = .ok (.iadd, 1) := by decide +kernel
theorem dL_law_1563 : decode cL_law 1563 = .ok (.iaload, 1) := by decide +kernel
theorem dL_law_1564 : decode cL_law 1564 = .ok (.invokevirtual 154, 3) := by decide +kernel
theorem dL_law_1567 : decode cL_law 1567 = .ok (.aload_n 2, 1) := by decide +kernel
theorem dL_law_1568 : decode cL_law 1568 = .ok (.aload_n 0, 1) := by decide +kernel
theorem dL_law_1569 : decode cL_law 1569 = .ok (.iload_n 3, 1) := by decide +kernel
theorem dL_law_1570 : decode cL_law 1570 = .ok (.iconst 1, 1) := by decide +kernel
theorem dL_law_1571 : decode cL_law 1571 = .ok (.iadd, 1) := by decide +kernel
theorem dL_law_1572 : decode cL_law 1572 = .ok (.iaload, 1) := by decide +kernel
theorem dL_law_1573 : decode cL_law 1573 = .ok (.aload_n 0, 1) := by decide +kernel
theorem dL_law_1574 : decode cL_law 1574 = .ok (.iload_n 3, 1) := by decide +kernel
theorem dL_law_1575 : decode cL_law 1575 = .ok (.iconst 2, 1) := by decide +kernel
theorem dL_law_1576 : decode cL_law 1576 = .ok (.iadd, 1) := by decide +kernel
theorem dL_law_1577 : decode cL_law 1577 = .ok (.iaload, 1) := by decide +kernel
theorem dL_law_1578 : decode cL_law 1578 = .ok (.invokevirtual 157, 3) := by decide +kernel
theorem dL_law_1581 : decode cL_law 1581 = .ok (.if_icmp .eq 1268, 3) := by decide +kernel
theorem dL_law_1586 : decode cL_law 1586 = .ok (.aload_n 1, 1) := by decide +kernel
theorem dL_law_1587 : decode cL_law 1587 = .ok (.aload_n 0, 1) := by decide +kernel
theorem dL_law_1588 : decode cL_law 1588 = .ok (.iload_n 3, 1) := by decide +kernel
theorem dL_law_1589 : decode cL_law 1589 = .ok (.iconst 1, 1) := by decide +kernel
theorem dL_law_1590 : decode cL_law 1590 = .ok (.iadd, 1) := by decide +kernel
theorem dL_law_1591 : decode cL_law 1591 = .ok (.iaload, 1) := by decide +kernel
theorem dL_law_1592 : decode cL_law 1592 = .ok (.invokevirtual 158, 3) := by decide +kernel
theorem dL_law_1595 : decode cL_law 1595 = .ok (.aload_n 2, 1) := by decide +kernel
theorem dL_law_1596 : decode cL_law 1596 = .ok (.aload_n 0, 1) := by decide +kernel
theorem dL_law_1597 : decode cL_law 1597 = .ok (.iload_n 3, 1) := by decide +kernel
theorem dL_law_1598 : decode cL_law 1598 = .ok (.iconst 1, 1) := by decide +kernel
theorem dL_law_1599 : decode cL_law 1599 = .ok (.iadd, 1) := by decide +kernel
theorem dL_law_1600 : decode cL_law 1600 = .ok (.iaload, 1) := by decide +kernel
theorem dL_law_1601 : decode cL_law 1601 = .ok (.invokevirtual 161, 3) := by decide +kernel
theorem dL_law_1604 : decode cL_law 1604 = .ok (.if_icmp .eq 1245, 3) := by decide +kernel
theorem dL_law_1609 : decode cL_law 1609 = .ok (.aload_n 1, 1) := by decide +kernel
theorem dL_law_1610 : decode cL_law 1610 = .ok (.aload_n 0, 1) := by decide +kernel
theorem dL_law_1611 : decode cL_law 1611 = .ok (.iload_n 3, 1) := by decide +kernel
theorem dL_law_1612 : decode cL_law 1612 = .ok (.iconst 1, 1) := by decide +kernel
theorem dL_law_1613 : decode cL_law 1613 = .ok (.iadd, 1) := by decide +kernel
theorem dL_law_1614 : decode cL_law 1614 = .ok (.iaload, 1) := by decide +kernel
theorem dL_law_1615 : decode cL_law 1615 = .ok (.aload_n 0, 1) := by decide +kernel
theorem dL_law_1616 : decode cL_law 1616 = .ok (.iload_n 3, 1) := by decide +kernel
theorem dL_law_1617 : decode cL_law 1617 = .ok (.iconst 2, 1) := by decide +kernel
theorem dL_law_1618 : decode cL_law 1618 = .ok (.iadd, 1) := by decide +kernel
theorem dL_law_1619 : decode cL_law 1619 = .ok (.iaload, 1) := by decide +kernel
theorem dL_law_1620 : decode cL_law 1620 = .ok (.invokevirtual 162, 3) := by decide +kernel
theorem dL_law_1623 : decode cL_law 1623 = .ok (.aload_n 2, 1) := by decide +kernel
theorem dL_law_1624 : decode cL_law 1624 = .ok (.aload_n 0, 1) := by decide +kernel
theorem dL_law_1625 : decode cL_law 1625 = .ok (.iload_n 3, 1) := by decide +kernel
theorem dL_law_1626 : decode cL_law 1626 = .ok (.iconst 1, 1) := by decide +kernel
theorem dL_law_1627 : decode cL_law 1627 = .ok (.iadd, 1) := by decide +kernel
theorem dL_law_1628 : decode cL_law 1628 = .ok (.iaload, 1) := by decide +kernel
theorem dL_law_1629 : decode cL_law 1629 = .ok (.aload_n 0, 1) := by decide +kernel
theorem dL_law_1630 : decode cL_law 1630 = .ok (.iload_n 3, 1) := by decide +kernel
theorem dL_law_1631 : decode cL_law 1631 = .ok (.iconst 2, 1) := by decide +kernel
theorem dL_law_1632 : decode cL_law 1632 = .ok (.iadd, 1) := by decide +kernel
theorem dL_law_1633 : decode cL_law 1633 = .ok (.iaload, 1) := by decide +kernel
theorem dL_law_1634 : decode cL_law 1634 = .ok (.invokevirtual 165, 3) := by decide +kernel
theorem dL_law_1637 : decode cL_law 1637 = .ok (.if_icmp .eq 1212, 3) := by decide +kernel
theorem dL_law_1642 : decode cL_law 1642 = .ok (.aload_n 1, 1) := by decide +kernel
theorem dL_law_1643 : decode cL_law 1643 = .ok (.aload_n 0, 1) := by decide +kernel
theorem dL_law_1644 : decode cL_law 1644 = .ok (.iload_n 3, 1) := by decide +kernel
theorem dL_law_1645 : decode cL_law 1645 = .ok (.iconst 1, 1) := by decide +kernel
theorem dL_law_1646 : decode cL_law 1646 = .ok (.iadd, 1) := by decide +kernel
theorem dL_law_1647 : decode cL_law 1647 = .ok (.iaload, 1) := by decide +kernel
theorem dL_law_1648 : decode cL_law 1648 = .ok (.aload_n 0, 1) := by decide +kernel
theorem dL_law_1649 : decode cL_law 1649 = .ok (.iload_n 3, 1) := by decide +kernel
theorem dL_law_1650 : decode cL_law 1650 = .ok (.iconst 2, 1) := by decide +kernel
theorem dL_law_1651 : decode cL_law 1651 = .ok (.iadd, 1) := by decide +kernel
theorem dL_law_1652 : decode cL_law 1652 = .ok (.iaload, 1) := by decide +kernel
theorem dL_law_1653 : decode cL_law 1653 = .ok (.invokevirtual 166, 3) := by decide +kernel
theorem dL_law_1656 : decode cL_law 1656 = .ok (.aload_n 2, 1) := by decide +kernel
theorem dL_law_1657 : decode cL_law 1657 = .ok (.aload_n 0, 1) := by decide +kernel
theorem dL_law_1658 : decode cL_law 1658 = .ok (.iload_n 3, 1) := by decide +kernel
theorem dL_law_1659 : decode cL_law 1659 = .ok (.iconst 1, 1) := by decide +kernel
theorem dL_law_1660 : decode cL_law 1660 = .ok (.iadd, 1) := by decide +kernel
theorem dL_law_1661 : decode cL_law 1661 = .ok (.iaload, 1) := by decide +kernel
theorem dL_law_1662 : decode cL_law 1662 = .ok (.aload_n 0, 1) := by decide +kernel
theorem dL_law_1663 : decode cL_law 1663 = .ok (.iload_n 3, 1) := by decide +kernel
theorem dL_law_1664 : decode cL_law 1664 = .ok (.iconst 2, 1) := by decide +kernel
theorem dL_law_1665 : decode cL_law 1665 = .ok (.iadd, 1) := by decide +kernel
theorem dL_law_1666 : decode cL_law 1666 = .ok (.iaload, 1) := by decide +kernel
theorem dL_law_1667 : decode cL_law 1667 = .ok (.invokevirtual 169, 3) := by decide +kernel
theorem dL_law_1670 : decode cL_law 1670 = .ok (.if_icmp .eq 1179, 3) := by decide +kernel
theorem dL_law_1675 : decode cL_law 1675 = .ok (.aload_n 1, 1) := by decide +kernel
theorem dL_law_1676 : decode cL_law 1676 = .ok (.aload_n 0, 1) := by decide +kernel
theorem dL_law_1677 : decode cL_law 1677 = .ok (.iload_n 3, 1) := by decide +kernel
theorem dL_law_1678 : decode cL_law 1678 = .ok (.iconst 1, 1) := by decide +kernel
theorem dL_law_1679 : decode cL_law 1679 = .ok (.iadd, 1) := by decide +kernel
theorem dL_law_1680 : decode cL_law 1680 = .ok (.iaload, 1) := by decide +kernel
theorem dL_law_1681 : decode cL_law 1681 = .ok (.invokevirtual 170, 3) := by decide +kernel
theorem dL_law_1684 : decode cL_law 1684 = .ok (.aload_n 2, 1) := by decide +kernel
theorem dL_law_1685 : decode cL_law 1685 = .ok (.aload_n 0, 1) := by decide +kernel
theorem dL_law_1686 : decode cL_law 1686 = .ok (.iload_n 3, 1) := by decide +kernel
theorem dL_law_1687 : decode cL_law 1687 = .ok (.iconst 1, 1) := by decide +kernel
theorem dL_law_1688 : decode cL_law 1688 = .ok (.iadd, 1) := by decide +kernel
theorem dL_law_1689 : decode cL_law 1689 = .ok (.iaload, 1) := by decide +kernel
theorem dL_law_1690 : decode cL_law 1690 = .ok (.invokevirtual 173, 3) := by decide +kernel
theorem dL_law_1693 : decode cL_law 1693 = .ok (.if_icmp .eq 1156, 3) := by decide +kernel
theorem dL_law_1698 : decode cL_law 1698 = .ok (.aload_n 1, 1) := by decide +kernel
theorem dL_law_1699 : decode cL_law 1699 = .ok (.aload_n 0, 1) := by decide +kernel
theorem dL_law_1700 : decode cL_law 1700 = .ok (.iload_n 3, 1) := by decide +kernel
theorem dL_law_1701 : decode cL_law 1701 = .ok (.iconst 1, 1) := by decide +kernel
theorem dL_law_1702 : decode cL_law 1702 = .ok (.iadd, 1) := by decide +kernel
theorem dL_law_1703 : decode cL_law 1703 = .ok (.iaload, 1) := by decide +kernel
theorem dL_law_1704 : decode cL_law 1704 = .ok (.invokevirtual 174, 3) := by decide +kernel
theorem dL_law_1707 : decode cL_law 1707 = .ok (.aload_n 2, 1) := by decide +kernel
theorem dL_law_1708 : decode cL_law 1708 = .ok (.aload_n 0, 1) := by decide +kernel
theorem dL_law_1709 : decode cL_law 1709 = .ok (.iload_n 3, 1) := by decide +kernel
theorem dL_law_1710 : decode cL_law 1710 = .ok (.iconst 1, 1) := by decide +kernel
theorem dL_law_1711 : decode cL_law 1711 = .ok (.iadd, 1) := by decide +kernel
theorem dL_law_1712 : decode cL_law 1712 = .ok (.iaload, 1) := by decide +kernel
theorem dL_law_1713 : decode cL_law 1713 = .ok (.invokevirtual 177, 3) := by decide +kernel
theorem dL_law_1716 : decode cL_law 1716 = .ok (.if_icmp .eq 1133, 3) := by decide +kernel
theorem dL_law_1721 : decode cL_law 1721 = .ok (.aload_n 1, 1) := by decide +kernel
theorem dL_law_1722 : decode cL_law 1722 = .ok (.aload_n 0, 1) := by decide +kernel
theorem dL_law_1723 : decode cL_law 1723 = .ok (.iload_n 3, 1) := by decide +kernel
theorem dL_law_1724 : decode cL_law 1724 = .ok (.iconst 1, 1) := by decide +kernel
theorem dL_law_1725 : decode cL_law 1725 = .ok (.iadd, 1) := by decide +kernel
theorem dL_law_1726 : decode cL_law 1726 = .ok (.iaload, 1) := by decide +kernel
theorem dL_law_1727 : decode cL_law 1727 = .ok (.aload_n 0, 1) := by decide +kernel
theorem dL_law_1728 : decode cL_law 1728 = .ok (.iload_n 3, 1) := by decide +kernel
theorem dL_law_1729 : decode cL_law 1729 = .ok (.iconst 2, 1) := by decide +kernel
theorem dL_law_1730 : decode cL_law 1730 = .ok (.iadd, 1) := by decide +kernel
theorem dL_law_1731 : decode cL_law 1731 = .ok (.iaload, 1) := by decide +kernel
theorem dL_law_1732 : decode cL_law 1732 = .ok (.invokevirtual 178, 3) := by decide +kernel
theorem dL_law_1735 : decode cL_law 1735 = .ok (.aload_n 2, 1) := by decide +kernel
theorem dL_law_1736 : decode cL_law 1736 = .ok (.aload_n 0, 1) := by decide +kernel
theorem dL_law_1737 : decode cL_law 1737 = .ok (.iload_n 3, 1) := by decide +kernel
theorem dL_law_1738 : decode cL_law 1738 = .ok (.iconst 1, 1) := by decide +kernel
theorem dL_law_1739 : decode cL_law 1739 = .ok (.iadd, 1) := by decide +kernel
theorem dL_law_1740 : decode cL_law 1740 = .ok (.iaload, 1) := by decide +kernel
theorem dL_law_1741 : decode cL_law 1741 = .ok (.aload_n 0, 1) := by decide +kernel
theorem dL_law_1742 : decode cL_law 1742 = .ok (.iload_n 3, 1) := by decide +kernel
theorem dL_law_1743 : decode cL_law 1743 = .ok (.iconst 2, 1) := by decide +kernel
theorem dL_law_1744 : decode cL_law 1744 = .ok (.iadd, 1) := by decide +kernel
theorem dL_law_1745 : decode cL_law 1745 = .ok (.iaload, 1) := by decide +kernel
theorem dL_law_1746 : decode cL_law 1746 = .ok (.invokevirtual 181, 3) := by decide +kernel
theorem dL_law_1749 : decode cL_law 1749 = .ok (.if_icmp .eq 1100, 3) := by decide +kernel
theorem dL_law_1754 : decode cL_law 1754 = .ok (.aload_n 1, 1) := by decide +kernel
theorem dL_law_1755 : decode cL_law 1755 = .ok (.aload_n 0, 1) := by decide +kernel
theorem dL_law_1756 : decode cL_law 1756 = .ok (.iload_n 3, 1) := by decide +kernel
theorem dL_law_1757 : decode cL_law 1757 = .ok (.iconst 1, 1) := by decide +kernel
theorem dL_law_1758 : decode cL_law 1758 = .ok (.iadd, 1) := by decide +kernel
theorem dL_law_1759 : decode cL_law 1759 = .ok (.iaload, 1) := by decide +kernel
theorem dL_law_1760 : decode cL_law 1760 = .ok (.aload_n 0, 1) := by decide +kernel
theorem dL_law_1761 : decode cL_law 1761 = .ok (.iload_n 3, 1) := by decide +kernel
theorem dL_law_1762 : decode cL_law 1762 = .ok (.iconst 2, 1) := by decide +kernel
theorem dL_law_1763 : decode cL_law 1763 = .ok (.iadd, 1) := by decide +kernel
theorem dL_law_1764 : decode cL_law 1764 = .ok (.iaload, 1) := by decide +kernel
theorem dL_law_1765 : decode cL_law 1765 = .ok (.invokevirtual 182, 3) := by decide +kernel
theorem dL_law_1768 : decode cL_law 1768 = .ok (.aload_n 2, 1) := by decide +kernel
theorem dL_law_1769 : decode cL_law 1769 = .ok (.aload_n 0, 1) := by decide +kernel
theorem dL_law_1770 : decode cL_law 1770 = .ok (.iload_n 3, 1) := by decide +kernel
theorem dL_law_1771 : decode cL_law 1771 = .ok (.iconst 1, 1) := by decide +kernel
theorem dL_law_1772 : decode cL_law 1772 = .ok (.iadd, 1) := by decide +kernel
theorem dL_law_1773 : decode cL_law 1773 = .ok (.iaload, 1) := by decide +kernel
theorem dL_law_1774 : decode cL_law 1774 = .ok (.aload_n 0, 1) := by decide +kernel
theorem dL_law_1775 : decode cL_law 1775 = .ok (.iload_n 3, 1) := by decide +kernel
theorem dL_law_1776 : decode cL_law 1776 = .ok (.iconst 2, 1) := by decide +kernel
theorem dL_law_1777 : decode cL_law 1777 = .ok (.iadd, 1) := by decide +kernel
theorem dL_law_1778 : decode cL_law 1778 = .ok (.iaload, 1) := by decide +kernel
theorem dL_law_1779 : decode cL_law 1779 = .ok (.invokevirtual 185, 3) := by decide +kernel
theorem dL_law_1782 : decode cL_law 1782 = .ok (.if_icmp .eq 1067, 3) := by decide +kernel
theorem dL_law_1787 : decode cL_law 1787 = .ok (.aload_n 1, 1) := by decide +kernel
theorem dL_law_1788 : decode cL_law 1788 = .ok (.aload_n 0, 1) := by decide +kernel
theorem dL_law_1789 : decode cL_law 1789 = .ok (.iload_n 3, 1) := by decide +kernel
theorem dL_law_1790 : decode cL_law 1790 = .ok (.iconst 1, 1) := by decide +kernel
theorem dL_law_1791 : decode cL_law 1791 = .ok (.iadd, 1) := by decide +kernel
theorem dL_law_1792 : decode cL_law 1792 = .ok (.iaload, 1) := by decide +kernel
theorem dL_law_1793 : decode cL_law 1793 = .ok (.aload_n 0, 1) := by decide +kernel
theorem dL_law_1794 : decode cL_law 1794 = .ok (.iload_n 3, 1) := by decide +kernel
theorem dL_law_1795 : decode cL_law 1795 = .ok (.iconst 2, 1) := by decide +kernel
theorem dL_law_1796 : decode cL_law 1796 = .ok (.iadd, 1) := by decide +kernel
theorem dL_law_1797 : decode cL_law 1797 = .ok (.iaload, 1) := by decide +kernel
theorem dL_law_1798 : decode cL_law 1798 = .ok (.invokevirtual 186, 3) := by decide +kernel
theorem dL_law_1801 : decode cL_law 1801 = .ok (.aload_n 2, 1) := by decide +kernel
theorem dL_law_1802 : decode cL_law 1802 = .ok (.aload_n 0, 1) := by decide +kernel
theorem dL_law_1803 : decode cL_law 1803 = .ok (.iload_n 3, 1) := by decide +kernel
theorem dL_law_1804 : decode cL_law 1804 = .ok (.iconst 1, 1) := by decide +kernel
theorem dL_law_1805 : decode cL_law 1805 = .ok (.iadd, 1) := by decide +kernel
theorem dL_law_1806 : decode cL_law 1806 = .ok (.iaload, 1) := by decide +kernel
theorem dL_law_1807 : decode cL_law 1807 = .ok (.aload_n 0, 1) := by decide +kernel
theorem dL_law_1808 : decode cL_law 1808 = .ok (.iload_n 3, 1) := by decide +kernel
theorem dL_law_1809 : decode cL_law 1809 = .ok (.iconst 2, 1) := by decide +kernel
theorem dL_law_1810 : decode cL_law 1810 = .ok (.iadd, 1) := by decide +kernel
theorem dL_law_1811 : decode cL_law 1811 = .ok (.iaload, 1) := by decide +kernel
theorem dL_law_1812 : decode cL_law 1812 = .ok (.invokevirtual 189, 3) := by decide +kernel
theorem dL_law_1815 : decode cL_law 1815 = .ok (.if_icmp .eq 1034, 3) := by decide +kernel
theorem dL_law_1820 : decode cL_law 1820 = .ok (.aload_n 1, 1) := by decide +kernel
theorem dL_law_1821 : decode cL_law 1821 = .ok (.aload_n 0, 1) := by decide +kernel
theorem dL_law_1822 : decode cL_law 1822 = .ok (.iload_n 3, 1) := by decide +kernel
theorem dL_law_1823 : decode cL_law 1823 = .ok (.iconst 1, 1) := by decide +kernel
theorem dL_law_1824 : decode cL_law 1824 = .ok (.iadd, 1) := by decide +kernel
theorem dL_law_1825 : decode cL_law 1825 = .ok (.iaload, 1) := by decide +kernel
theorem dL_law_1826 : decode cL_law 1826 = .ok (.aload_n 0, 1) := by decide +kernel
theorem dL_law_1827 : decode cL_law 1827 = .ok (.iload_n 3, 1) := by decide +kernel
theorem dL_law_1828 : decode cL_law 1828 = .ok (.iconst 2, 1) := by decide +kernel
theorem dL_law_1829 : decode cL_law 1829 = .ok (.iadd, 1) := by decide +kernel
theorem dL_law_1830 : decode cL_law 1830 = .ok (.iaload, 1) := by decide +kernel
theorem dL_law_1831 : decode cL_law 1831 = .ok (.invokevirtual 190, 3) := by decide +kernel
theorem dL_law_1834 : decode cL_law 1834 = .ok (.aload_n 2, 1) := by decide +kernel
theorem dL_law_1835 : decode cL_law 1835 = .ok (.aload_n 0, 1) := by decide +kernel
theorem dL_law_1836 : decode cL_law 1836 = .ok (.iload_n 3, 1) := by decide +kernel
theorem dL_law_1837 : decode cL_law 1837 = .ok (.iconst 1, 1) := by decide +kernel
theorem dL_law_1838 : decode cL_law 1838 = .ok (.iadd, 1) := by decide +kernel
theorem dL_law_1839 : decode cL_law 1839 = .ok (.iaload, 1) := by decide +kernel
theorem dL_law_1840 : decode cL_law 1840 = .ok (.aload_n 0, 1) := by decide +kernel
theorem dL_law_1841 : decode cL_law 1841 = .ok (.iload_n 3, 1) := by decide +kernel
theorem dL_law_1842 : decode cL_law 1842 = .ok (.iconst 2, 1) := by decide +kernel
theorem dL_law_1843 : decode cL_law 1843 = .ok (.iadd, 1) := by decide +kernel
theorem dL_law_1844 : decode cL_law 1844 = .ok (.iaload, 1) := by decide +kernel
theorem dL_law_1845 : decode cL_law 1845 = .ok (.invokevirtual 193, 3) := by decide +kernel
theorem dL_law_1848 : decode cL_law 1848 = .ok (.if_icmp .eq 1001, 3) := by decide +kernel
theorem dL_law_1853 : decode cL_law 1853 = .ok (.aload_n 1, 1) := by decide +kernel
theorem dL_law_1854 : decode cL_law 1854 = .ok (.aload_n 0, 1) := by decide +kernel
theorem dL_law_1855 : decode cL_law 1855 = .ok (.iload_n 3, 1) := by decide +kernel
theorem dL_law_1856 : decode cL_law 1856 = .ok (.iconst 1, 1) := by decide +kernel
theorem dL_law_1857 : decode cL_law 1857 = .ok (.iadd, 1) := by decide +kernel
theorem dL_law_1858 : decode cL_law 1858 = .ok (.iaload, 1) := by decide +kernel
theorem dL_law_1859 : decode cL_law 1859 = .ok (.aload_n 0, 1) := by decide +kernel
theorem dL_law_1860 : decode cL_law 1860 = .ok (.iload_n 3, 1) := by decide +kernel
theorem dL_law_1861 : decode cL_law 1861 = .ok (.iconst 2, 1) := by decide +kernel
theorem dL_law_1862 : decode cL_law 1862 = .ok (.iadd, 1) := by decide +kernel
theorem dL_law_1863 : decode cL_law 1863 = .ok (.iaload, 1) := by decide +kernel
theorem dL_law_1864 : decode cL_law 1864 = .ok (.aload_n 0, 1) := by decide +kernel
theorem dL_law_1865 : decode cL_law 1865 = .ok (.iload_n 3, 1) := by decide +kernel
theorem dL_law_1866 : decode cL_law 1866 = .ok (.iconst 3, 1) := by decide +kernel
theorem dL_law_1867 : decode cL_law 1867 = .ok (.iadd, 1) := by decide +kernel
theorem dL_law_1868 : decode cL_law 1868 = .ok (.iaload, 1) := by decide +kernel
theorem dL_law_1869 : decode cL_law 1869 = .ok (.invokevirtual 194, 3) := by decide +kernel
theorem dL_law_1872 : decode cL_law 1872 = .ok (.aload_n 2, 1) := by decide +kernel
theorem dL_law_1873 : decode cL_law 1873 = .ok (.aload_n 0, 1) := by decide +kernel
theorem dL_law_1874 : decode cL_law 1874 = .ok (.iload_n 3, 1) := by decide +kernel
theorem dL_law_1875 : decode cL_law 1875 = .ok (.iconst 1, 1) := by decide +kernel
theorem dL_law_1876 : decode cL_law 1876 = .ok (.iadd, 1) := by decide +kernel
theorem dL_law_1877 : decode cL_law 1877 = .ok (.iaload, 1) := by decide +kernel
theorem dL_law_1878 : decode cL_law 1878 = .ok (.aload_n 0, 1) := by decide +kernel
theorem dL_law_1879 : decode cL_law 1879 = .ok (.iload_n 3, 1) := by decide +kernel
theorem dL_law_1880 : decode cL_law 1880 = .ok (.iconst 2, 1) := by decide +kernel
theorem dL_law_1881 : decode cL_law 1881 = .ok (.iadd, 1) := by decide +kernel
theorem dL_law_1882 : decode cL_law 1882 = .ok (.iaload, 1) := by decide +kernel
theorem dL_law_1883 : decode cL_law 1883 = .ok (.aload_n 0, 1) := by decide +kernel
theorem dL_law_1884 : decode cL_law 1884 = .ok (.iload_n 3, 1) := by decide +kernel
theorem dL_law_1885 : decode cL_law 1885 = .ok (.iconst 3, 1) := by decide +kernel
theorem dL_law_1886 : decode cL_law 1886 = .ok (.iadd, 1) := by decide +kernel
theorem dL_law_1887 : decode cL_law 1887 = .ok (.iaload, 1) := by decide +kernel
theorem dL_law_1888 : decode cL_law 1888 = .ok (.invokevirtual 197, 3) := by decide +kernel
theorem dL_law_1891 : decode cL_law 1891 = .ok (.if_icmp .eq 958, 3) := by decide +kernel
theorem dL_law_1896 : decode cL_law 1896 = .ok (.aload_n 1, 1) := by decide +kernel
theorem dL_law_1897 : decode cL_law 1897 = .ok (.aload_n 0, 1) := by decide +kernel
theorem dL_law_1898 : decode cL_law 1898 = .ok (.iload_n 3, 1) := by decide +kernel
theorem dL_law_1899 : decode cL_law 1899 = .ok (.iconst 1, 1) := by decide +kernel
theorem dL_law_1900 : decode cL_law 1900 = .ok (.iadd, 1) := by decide +kernel
theorem dL_law_1901 : decode cL_law 1901 = .ok (.iaload, 1) := by decide +kernel
theorem dL_law_1902 : decode cL_law 1902 = .ok (.aload_n 0, 1) := by decide +kernel
theorem dL_law_1903 : decode cL_law 1903 = .ok (.iload_n 3, 1) := by decide +kernel
theorem dL_law_1904 : decode cL_law 1904 = .ok (.iconst 2, 1) := by decide +kernel
theorem dL_law_1905 : decode cL_law 1905 = .ok (.iadd, 1) := by decide +kernel
theorem dL_law_1906 : decode cL_law 1906 = .ok (.iaload, 1) := by decide +kernel
theorem dL_law_1907 : decode cL_law 1907 = .ok (.invokevirtual 198, 3) := by decide +kernel
theorem dL_law_1910 : decode cL_law 1910 = .ok (.aload_n 2, 1) := by decide +kernel
theorem dL_law_1911 : decode cL_law 1911 = .ok (.aload_n 0, 1) := by decide +kernel
theorem dL_law_1912 : decode cL_law 1912 = .ok (.iload_n 3, 1) := by decide +kernel
theorem dL_law_1913 : decode cL_law 1913 = .ok (.iconst 1, 1) := by decide +kernel
theorem dL_law_1914 : decode cL_law 1914 = .ok (.iadd, 1) := by decide +kernel
theorem dL_law_1915 : decode cL_law 1915 = .ok (.iaload, 1) := by decide +kernel
theorem dL_law_1916 : decode cL_law 1916 = .ok (.aload_n 0, 1) := by decide +kernel
theorem dL_law_1917 : decode cL_law 1917 = .ok (.iload_n 3, 1) := by decide +kernel
theorem dL_law_1918 : decode cL_law 1918 = .ok (.iconst 2, 1) := by decide +kernel
theorem dL_law_1919 : decode cL_law 1919 = .ok (.iadd, 1) := by decide +kernel
theorem dL_law_1920 : decode cL_law 1920 = .ok (.iaload, 1) := by decide +kernel
theorem dL_law_1921 : decode cL_law 1921 = .ok (.invokevirtual 201, 3) := by decide +kernel
theorem dL_law_1924 : decode cL_law 1924 = .ok (.if_icmp .eq 925, 3) := by decide +kernel
theorem dL_law_1929 : decode cL_law 1929 = .ok (.aload_n 1, 1) := by decide +kernel
theorem dL_law_1930 : decode cL_law 1930 = .ok (.invokevirtual 202, 3) := by decide +kernel
theorem dL_law_1933 : decode cL_law 1933 = .ok (.aload_n 2, 1) := by decide +kernel
theorem dL_law_1934 : decode cL_law 1934 = .ok (.invokevirtual 205, 3) := by decide +kernel
theorem dL_law_1937 : decode cL_law 1937 = .ok (.if_icmp .eq 912, 3) := by decide +kernel
theorem dL_law_1942 : decode cL_law 1942 = .ok (.aload_n 1, 1) := by decide +kernel
theorem dL_law_1943 : decode cL_law 1943 = .ok (.aload_n 0, 1) := by decide +kernel
theorem dL_law_1944 : decode cL_law 1944 = .ok (.iload_n 3, 1) := by decide +kernel
theorem dL_law_1945 : decode cL_law 1945 = .ok (.iconst 1, 1) := by decide +kernel
theorem dL_law_1946 : decode cL_law 1946 = .ok (.iadd, 1) := by decide +kernel
theorem dL_law_1947 : decode cL_law 1947 = .ok (.iaload, 1) := by decide +kernel
theorem dL_law_1948 : decode cL_law 1948 = .ok (.invokevirtual 206, 3) := by decide +kernel
theorem dL_law_1951 : decode cL_law 1951 = .ok (.aload_n 2, 1) := by decide +kernel
theorem dL_law_1952 : decode cL_law 1952 = .ok (.aload_n 0, 1) := by decide +kernel
theorem dL_law_1953 : decode cL_law 1953 = .ok (.iload_n 3, 1) := by decide +kernel
theorem dL_law_1954 : decode cL_law 1954 = .ok (.iconst 1, 1) := by decide +kernel
theorem dL_law_1955 : decode cL_law 1955 = .ok (.iadd, 1) := by decide +kernel
theorem dL_law_1956 : decode cL_law 1956 = .ok (.iaload, 1) := by decide +kernel
theorem dL_law_1957 : decode cL_law 1957 = .ok (.invokevirtual 209, 3) := by decide +kernel
theorem dL_law_1960 : decode cL_law 1960 = .ok (.if_icmp .eq 889, 3) := by decide +kernel
theorem dL_law_1965 : decode cL_law 1965 = .ok (.aload_n 1, 1) := by decide +kernel
theorem dL_law_1966 : decode cL_law 1966 = .ok (.aload_n 0, 1) := by decide +kernel
theorem dL_law_1967 : decode cL_law 1967 = .ok (.iload_n 3, 1) := by decide +kernel
theorem dL_law_1968 : decode cL_law 1968 = .ok (.iconst 1, 1) := by decide +kernel
theorem dL_law_1969 : decode cL_law 1969 = .ok (.iadd, 1) := by decide +kernel
theorem dL_law_1970 : decode cL_law 1970 = .ok (.iaload, 1) := by decide +kernel
theorem dL_law_1971 : decode cL_law 1971 = .ok (.aload_n 0, 1) := by decide +kernel
theorem dL_law_1972 : decode cL_law 1972 = .ok (.iload_n 3, 1) := by decide +kernel
theorem dL_law_1973 : decode cL_law 1973 = .ok (.iconst 2, 1) := by decide +kernel
theorem dL_law_1974 : decode cL_law 1974 = .ok (.iadd, 1) := by decide +kernel
theorem dL_law_1975 : decode cL_law 1975 = .ok (.iaload, 1) := by decide +kernel
theorem dL_law_1976 : decode cL_law 1976 = .ok (.invokevirtual 210, 3) := by decide +kernel
theorem dL_law_1979 : decode cL_law 1979 = .ok (.aload_n 2, 1) := by decide +kernel
theorem dL_law_1980 : decode cL_law 1980 = .ok (.aload_n 0, 1) := by decide +kernel
theorem dL_law_1981 : decode cL_law 1981 = .ok (.iload_n 3, 1) := by decide +kernel
theorem dL_law_1982 : decode cL_law 1982 = .ok (.iconst 1, 1) := by decide +kernel
theorem dL_law_1983 : decode cL_law 1983 = .ok (.iadd, 1) := by decide +kernel
theorem dL_law_1984 : decode cL_law 1984 = .ok (.iaload, 1) := by decide +kernel
theorem dL_law_1985 : decode cL_law 1985 = .ok (.aload_n 0, 1) := by decide +kernel
theorem dL_law_1986 : decode cL_law 1986 = .ok (.iload_n 3, 1) := by decide +kernel
theorem dL_law_1987 : decode cL_law 1987 = .ok (.iconst 2, 1) := by decide +kernel
theorem dL_law_1988 : decode cL_law 1988 = .ok (.iadd, 1) := by decide +kernel
theorem dL_law_1989 : decode cL_law 1989 = .ok (.iaload, 1) := by decide +kernel
theorem dL_law_1990 : decode cL_law 1990 = .ok (.invokevirtual 213, 3) := by decide +kernel
theorem dL_law_1993 : decode cL_law 1993 = .ok (.if_icmp .eq 856, 3) := by decide +kernel
theorem dL_law_1998 : decode cL_law 1998 = .ok (.aload_n 1, 1) := by decide +kernel
theorem dL_law_1999 : decode cL_law 1999 = .ok (.aload_n 0, 1) := by decide +kernel
theorem dL_law_2000 : decode cL_law 2000 = .ok (.iload_n 3, 1) := by decide +kernel
theorem dL_law_2001 : decode cL_law 2001 = .ok (.iconst 1, 1) := by decide +kernel
theorem dL_law_2002 : decode cL_law 2002 = .ok (.iadd, 1) := by decide +kernel
theorem dL_law_2003 : decode cL_law 2003 = .ok (.iaload, 1) := by decide +kernel
theorem dL_law_2004 : decode cL_law 2004 = .ok (.aload_n 0, 1) := by decide +kernel
theorem dL_law_2005 : decode cL_law 2005 = .ok (.iload_n 3, 1) := by decide +kernel
theorem dL_law_2006 : decode cL_law 2006 = .ok (.iconst 2, 1) := by decide +kernel
theorem dL_law_2007 : decode cL_law 2007 = .ok (.iadd, 1) := by decide +kernel
theorem dL_law_2008 : decode cL_law 2008 = .ok (.iaload, 1) := by decide +kernel
theorem dL_law_2009 : decode cL_law 2009 = .ok (.invokevirtual 214, 3) := by decide +kernel
theorem dL_law_2012 : decode cL_law 2012 = .ok (.aload_n 2, 1) := by decide +kernel
theorem dL_law_2013 : decode cL_law 2013 = .ok (.aload_n 0, 1) := by decide +kernel
theorem dL_law_2014 : decode cL_law 2014 = .ok (.iload_n 3, 1) := by decide +kernel
theorem dL_law_2015 : decode cL_law 2015 = .ok (.iconst 1, 1) := by decide +kernel
theorem dL_law_2016 : decode cL_law 2016 = .ok (.iadd, 1) := by decide +kernel
theorem dL_law_2017 : decode cL_law 2017 = .ok (.iaload, 1) := by decide +kernel
theorem dL_law_2018 : decode cL_law 2018 = .ok (.aload_n 0, 1) := by decide +kernel
theorem dL_law_2019 : decode cL_law 2019 = .ok (.iload_n 3, 1) := by decide +kernel
theorem dL_law_2020 : decode cL_law 2020 = .ok (.iconst 2, 1) := by decide +kernel
theorem dL_law_2021 : decode cL_law 2021 = .ok (.iadd, 1) := by decide +kernel
theorem dL_law_2022 : decode cL_law 2022 = .ok (.iaload, 1) := by decide +kernel
theorem dL_law_2023 : decode cL_law 2023 = .ok (.invokevirtual 217, 3) := by decide +kernel
theorem dL_law_2026 : decode cL_law 2026 = .ok (.if_icmp .eq 823, 3) := by decide +kernel
theorem dL_law_2031 : decode cL_law 2031 = .ok (.aload_n 1, 1) := by decide +kernel
theorem dL_law_2032 : decode cL_law 2032 = .ok (.invokevirtual 218, 3) := by decide +kernel
theorem dL_law_2035 : decode cL_law 2035 = .ok (.aload_n 2, 1) := by decide +kernel
theorem dL_law_2036 : decode cL_law 2036 = .ok (.invokevirtual 221, 3) := by decide +kernel
theorem dL_law_2039 : decode cL_law 2039 = .ok (.if_icmp .eq 810, 3) := by decide +kernel
theorem dL_law_2044 : decode cL_law 2044 = .ok (.aload_n 1, 1) := by decide +kernel
theorem dL_law_2045 : decode cL_law 2045 = .ok (.aload_n 0, 1) := by decide +kernel
theorem dL_law_2046 : decode cL_law 2046 = .ok (.iload_n 3, 1) := by decide +kernel
theorem dL_law_2047 : decode cL_law 2047 = .ok (.iconst 1, 1) := by decide +kernel
theorem dL_law_2048 : decode cL_law 2048 = .ok (.iadd, 1) := by decide +kernel
theorem dL_law_2049 : decode cL_law 2049 = .ok (.iaload, 1) := by decide +kernel
theorem dL_law_2050 : decode cL_law 2050 = .ok (.aload_n 0, 1) := by decide +kernel
theorem dL_law_2051 : decode cL_law 2051 = .ok (.iload_n 3, 1) := by decide +kernel
theorem dL_law_2052 : decode cL_law 2052 = .ok (.iconst 2, 1) := by decide +kernel
theorem dL_law_2053 : decode cL_law 2053 = .ok (.iadd, 1) := by decide +kernel
theorem dL_law_2054 : decode cL_law 2054 = .ok (.iaload, 1) := by decide +kernel
theorem dL_law_2055 : decode cL_law 2055 = .ok (.aload_n 0, 1) := by decide +kernel
theorem dL_law_2056 : decode cL_law 2056 = .ok (.iload_n 3, 1) := by decide +kernel
theorem dL_law_2057 : decode cL_law 2057 = .ok (.iconst 3, 1) := by decide +kernel
theorem dL_law_2058 : decode cL_law 2058 = .ok (.iadd, 1) := by decide +kernel
theorem dL_law_2059 : decode cL_law 2059 = .ok (.iaload, 1) := by decide +kernel
theorem dL_law_2060 : decode cL_law 2060 = .ok (.invokevirtual 222, 3) := by decide +kernel
theorem dL_law_2063 : decode cL_law 2063 = .ok (.aload_n 2, 1) := by decide +kernel
theorem dL_law_2064 : decode cL_law 2064 = .ok (.aload_n 0, 1) := by decide +kernel
theorem dL_law_2065 : decode cL_law 2065 = .ok (.iload_n 3, 1) := by decide +kernel
theorem dL_law_2066 : decode cL_law 2066 = .ok (.iconst 1, 1) := by decide +kernel
theorem dL_law_2067 : decode cL_law 2067 = .ok (.iadd, 1) := by decide +kernel
theorem dL_law_2068 : decode cL_law 2068 = .ok (.iaload, 1) := by decide +kernel
theorem dL_law_2069 : decode cL_law 2069 = .ok (.aload_n 0, 1) := by decide +kernel
theorem dL_law_2070 : decode cL_law 2070 = .ok (.iload_n 3, 1) := by decide +kernel
theorem dL_law_2071 : decode cL_law 2071 = .ok (.iconst 2, 1) := by decide +kernel
theorem dL_law_2072 : decode cL_law 2072 = .ok (.iadd, 1) := by decide +kernel
theorem dL_law_2073 : decode cL_law 2073 = .ok (.iaload, 1) := by decide +kernel
theorem dL_law_2074 : decode cL_law 2074 = .ok (.aload_n 0, 1) := by decide +kernel
theorem dL_law_2075 : decode cL_law 2075 = .ok (.iload_n 3, 1) := by decide +kernel
theorem dL_law_2076 : decode cL_law 2076 = .ok (.iconst 3, 1) := by decide +kernel
theorem dL_law_2077 : decode cL_law 2077 = .ok (.iadd, 1) := by decide +kernel
theorem dL_law_2078 : decode cL_law 2078 = .ok (.iaload, 1) := by decide +kernel
theorem dL_law_2079 : decode cL_law 2079 = .ok (.invokevirtual 225, 3) := by decide +kernel
theorem dL_law_2082 : decode cL_law 2082 = .ok (.if_icmp .eq 767, 3) := by decide +kernel
theorem dL_law_2087 : decode cL_law 2087 = .ok (.aload_n 1, 1) := by decide +kernel
theorem dL_law_2088 : decode cL_law 2088 = .ok (.aload_n 0, 1) := by decide +kernel
theorem dL_law_2089 : decode cL_law 2089 = .ok (.iload_n 3, 1) := by decide +kernel
theorem dL_law_2090 : decode cL_law 2090 = .ok (.iconst 1, 1) := by decide +kernel
theorem dL_law_2091 : decode cL_law 2091 = .ok (.iadd, 1) := by decide +kernel
theorem dL_law_2092 : decode cL_law 2092 = .ok (.iaload, 1) := by decide +kernel
theorem dL_law_2093 : decode cL_law 2093 = .ok (.aload_n 0, 1) := by decide +kernel
theorem dL_law_2094 : decode cL_law 2094 = .ok (.iload_n 3, 1) := by decide +kernel
theorem dL_law_2095 : decode cL_law 2095 = .ok (.iconst 2, 1) := by decide +kernel
theorem dL_law_2096 : decode cL_law 2096 = .ok (.iadd, 1) := by decide +kernel
theorem dL_law_2097 : decode cL_law 2097 = .ok (.iaload, 1) := by decide +kernel
theorem dL_law_2098 : decode cL_law 2098 = .ok (.aload_n 0, 1) := by decide +kernel
theorem dL_law_2099 : decode cL_law 2099 = .ok (.iload_n 3, 1) := by decide +kernel
theorem dL_law_2100 : decode cL_law 2100 = .ok (.iconst 3, 1) := by decide +kernel
theorem dL_law_2101 : decode cL_law 2101 = .ok (.iadd, 1) := by decide +kernel
theorem dL_law_2102 : decode cL_law 2102 = .ok (.iaload, 1) := by decide +kernel
theorem dL_law_2103 : decode cL_law 2103 = .ok (.invokevirtual 226, 3) := by decide +kernel
theorem dL_law_2106 : decode cL_law 2106 = .ok (.aload_n 2, 1) := by decide +kernel
theorem dL_law_2107 : decode cL_law 2107 = .ok (.aload_n 0, 1) := by decide +kernel
theorem dL_law_2108 : decode cL_law 2108 = .ok (.iload_n 3, 1) := by decide +kernel
theorem dL_law_2109 : decode cL_law 2109 = .ok (.iconst 1, 1) := by decide +kernel
theorem dL_law_2110 : decode cL_law 2110 = .ok (.iadd, 1) := by decide +kernel
theorem dL_law_2111 : decode cL_law 2111 = .ok (.iaload, 1) := by decide +kernel
theorem dL_law_2112 : decode cL_law 2112 = .ok (.aload_n 0, 1) := by decide +kernel
theorem dL_law_2113 : decode cL_law 2113 = .ok (.iload_n 3, 1) := by decide +kernel
theorem dL_law_2114 : decode cL_law 2114 = .ok (.iconst 2, 1) := by decide +kernel
theorem dL_law_2115 : decode cL_law 2115 = .ok (.iadd, 1) := by decide +kernel
theorem dL_law_2116 : decode cL_law 2116 = .ok (.iaload, 1) := by decide +kernel
theorem dL_law_2117 : decode cL_law 2117 = .ok (.aload_n 0, 1) := by decide +kernel
theorem dL_law_2118 : decode cL_law 2118 = .ok (.iload_n 3, 1) := by decide +kernel
theorem dL_law_2119 : decode cL_law 2119 = .ok (.iconst 3, 1) := by decide +kernel
theorem dL_law_2120 : decode cL_law 2120 = .ok (.iadd, 1) := by decide +kernel
theorem dL_law_2121 : decode cL_law 2121 = .ok (.iaload, 1) := by decide +kernel
theorem dL_law_2122 : decode cL_law 2122 = .ok (.invokevirtual 229, 3) := by decide +kernel
theorem dL_law_2125 : decode cL_law 2125 = .ok (.if_icmp .eq 724, 3) := by decide +kernel
theorem dL_law_2130 : decode cL_law 2130 = .ok (.aload_n 1, 1) := by decide +kernel
theorem dL_law_2131 : decode cL_law 2131 = .ok (.aload_n 0, 1) := by decide +kernel
theorem dL_law_2132 : decode cL_law 2132 = .ok (.iload_n 3, 1) := by decide +kernel
theorem dL_law_2133 : decode cL_law 2133 = .ok (.iconst 1, 1) := by decide +kernel
theorem dL_law_2134 : decode cL_law 2134 = .ok (.iadd, 1) := by decide +kernel
theorem dL_law_2135 : decode cL_law 2135 = .ok (.iaload, 1) := by decide +kernel
theorem dL_law_2136 : decode cL_law 2136 = .ok (.aload_n 0, 1) := by decide +kernel
theorem dL_law_2137 : decode cL_law 2137 = .ok (.iload_n 3, 1) := by decide +kernel
theorem dL_law_2138 : decode cL_law 2138 = .ok (.iconst 2, 1) := by decide +kernel
theorem dL_law_2139 : decode cL_law 2139 = .ok (.iadd, 1) := by decide +kernel
theorem dL_law_2140 : decode cL_law 2140 = .ok (.iaload, 1) := by decide +kernel
theorem dL_law_2141 : decode cL_law 2141 = .ok (.invokevirtual 230, 3) := by decide +kernel
theorem dL_law_2144 : decode cL_law 2144 = .ok (.aload_n 2, 1) := by decide +kernel
theorem dL_law_2145 : decode cL_law 2145 = .ok (.aload_n 0, 1) := by decide +kernel
theorem dL_law_2146 : decode cL_law 2146 = .ok (.iload_n 3, 1) := by decide +kernel
theorem dL_law_2147 : decode cL_law 2147 = .ok (.iconst 1, 1) := by decide +kernel
theorem dL_law_2148 : decode cL_law 2148 = .ok (.iadd, 1) := by decide +kernel
theorem dL_law_2149 : decode cL_law 2149 = .ok (.iaload, 1) := by decide +kernel
theorem dL_law_2150 : decode cL_law 2150 = .ok (.aload_n 0, 1) := by decide +kernel
theorem dL_law_2151 : decode cL_law 2151 = .ok (.iload_n 3, 1) := by decide +kernel
theorem dL_law_2152 : decode cL_law 2152 = .ok (.iconst 2, 1) := by decide +kernel
theorem dL_law_2153 : decode cL_law 2153 = .ok (.iadd, 1) := by decide +kernel
theorem dL_law_2154 : decode cL_law 2154 = .ok (.iaload, 1) := by decide +kernel
theorem dL_law_2155 : decode cL_law 2155 = .ok (.invokevirtual 233, 3) := by decide +kernel
theorem dL_law_2158 : decode cL_law 2158 = .ok (.if_icmp .eq 691, 3) := by decide +kernel
theorem dL_law_2163 : decode cL_law 2163 = .ok (.aload_n 1, 1) := by decide +kernel
theorem dL_law_2164 : decode cL_law 2164 = .ok (.aload_n 0, 1) := by decide +kernel
theorem dL_law_2165 : decode cL_law 2165 = .ok (.iload_n 3, 1) := by decide +kernel
theorem dL_law_2166 : decode cL_law 2166 = .ok (.iconst 1, 1) := by decide +kernel
theorem dL_law_2167 : decode cL_law 2167 = .ok (.iadd, 1) := by decide +kernel
theorem dL_law_2168 : decode cL_law 2168 = .ok (.iaload, 1) := by decide +kernel
theorem dL_law_2169 : decode cL_law 2169 = .ok (.aload_n 0, 1) := by decide +kernel
theorem dL_law_2170 : decode cL_law 2170 = .ok (.iload_n 3, 1) := by decide +kernel
theorem dL_law_2171 : decode cL_law 2171 = .ok (.iconst 2, 1) := by decide +kernel
theorem dL_law_2172 : decode cL_law 2172 = .ok (.iadd, 1) := by decide +kernel
theorem dL_law_2173 : decode cL_law 2173 = .ok (.iaload, 1) := by decide +kernel
theorem dL_law_2174 : decode cL_law 2174 = .ok (.invokevirtual 234, 3) := by decide +kernel
theorem dL_law_2177 : decode cL_law 2177 = .ok (.aload_n 2, 1) := by decide +kernel
theorem dL_law_2178 : decode cL_law 2178 = .ok (.aload_n 0, 1) := by decide +kernel
theorem dL_law_2179 : decode cL_law 2179 = .ok (.iload_n 3, 1) := by decide +kernel
theorem dL_law_2180 : decode cL_law 2180 = .ok (.iconst 1, 1) := by decide +kernel
theorem dL_law_2181 : decode cL_law 2181 = .ok (.iadd, 1) := by decide +kernel
theorem dL_law_2182 : decode cL_law 2182 = .ok (.iaload, 1) := by decide +kernel
theorem dL_law_2183 : decode cL_law 2183 = .ok (.aload_n 0, 1) := by decide +kernel
theorem dL_law_2184 : decode cL_law 2184 = .ok (.iload_n 3, 1) := by decide +kernel
theorem dL_law_2185 : decode cL_law 2185 = .ok (.iconst 2, 1) := by decide +kernel
theorem dL_law_2186 : decode cL_law 2186 = .ok (.iadd, 1) := by decide +kernel
theorem dL_law_2187 : decode cL_law 2187 = .ok (.iaload, 1) := by decide +kernel
theorem dL_law_2188 : decode cL_law 2188 = .ok (.invokevirtual 237, 3) := by decide +kernel
theorem dL_law_2191 : decode cL_law 2191 = .ok (.if_icmp .eq 658, 3) := by decide +kernel
theorem dL_law_2196 : decode cL_law 2196 = .ok (.aload_n 1, 1) := by decide +kernel
theorem dL_law_2197 : decode cL_law 2197 = .ok (.aload_n 0, 1) := by decide +kernel
theorem dL_law_2198 : decode cL_law 2198 = .ok (.iload_n 3, 1) := by decide +kernel
theorem dL_law_2199 : decode cL_law 2199 = .ok (.iconst 1, 1) := by decide +kernel
theorem dL_law_2200 : decode cL_law 2200 = .ok (.iadd, 1) := by decide +kernel
theorem dL_law_2201 : decode cL_law 2201 = .ok (.iaload, 1) := by decide +kernel
theorem dL_law_2202 : decode cL_law 2202 = .ok (.aload_n 0, 1) := by decide +kernel
theorem dL_law_2203 : decode cL_law 2203 = .ok (.iload_n 3, 1) := by decide +kernel
theorem dL_law_2204 : decode cL_law 2204 = .ok (.iconst 2, 1) := by decide +kernel
theorem dL_law_2205 : decode cL_law 2205 = .ok (.iadd, 1) := by decide +kernel
theorem dL_law_2206 : decode cL_law 2206 = .ok (.iaload, 1) := by decide +kernel
theorem dL_law_2207 : decode cL_law 2207 = .ok (.aload_n 0, 1) := by decide +kernel
theorem dL_law_2208 : decode cL_law 2208 = .ok (.iload_n 3, 1) := by decide +kernel
theorem dL_law_2209 : decode cL_law 2209 = .ok (.iconst 3, 1) := by decide +kernel
theorem dL_law_2210 : decode cL_law 2210 = .ok (.iadd, 1) := by decide +kernel
theorem dL_law_2211 : decode cL_law 2211 = .ok (.iaload, 1) := by decide +kernel
theorem dL_law_2212 : decode cL_law 2212 = .ok (.invokevirtual 238, 3) := by decide +kernel
theorem dL_law_2215 : decode cL_law 2215 = .ok (.aload_n 2, 1) := by decide +kernel
theorem dL_law_2216 : decode cL_law 2216 = .ok (.aload_n 0, 1) := by decide +kernel
theorem dL_law_2217 : decode cL_law 2217 = .ok (.iload_n 3, 1) := by decide +kernel
theorem dL_law_2218 : decode cL_law 2218 = .ok (.iconst 1, 1) := by decide +kernel
theorem dL_law_2219 : decode cL_law 2219 = .ok (.iadd, 1) := by decide +kernel
theorem dL_law_2220 : decode cL_law 2220 = .ok (.iaload, 1) := by decide +kernel
theorem dL_law_2221 : decode cL_law 2221 = .ok (.aload_n 0, 1) := by decide +kernel
theorem dL_law_2222 : decode cL_law 2222 = .ok (.iload_n 3, 1) := by decide +kernel
theorem dL_law_2223 : decode cL_law 2223 = .ok (.iconst 2, 1) := by decide +kernel
theorem dL_law_2224 : decode cL_law 2224 = .ok (.iadd, 1) := by decide +kernel
theorem dL_law_2225 : decode cL_law 2225 = .ok (.iaload, 1) := by decide +kernel
theorem dL_law_2226 : decode cL_law 2226 = .ok (.aload_n 0, 1) := by decide +kernel
theorem dL_law_2227 : decode cL_law 2227 = .ok (.iload_n 3, 1) := by decide +kernel
theorem dL_law_2228 : decode cL_law 2228 = .ok (.iconst 3, 1) := by decide +kernel
theorem dL_law_2229 : decode cL_law 2229 = .ok (.iadd, 1) := by decide +kernel
theorem dL_law_2230 : decode cL_law 2230 = .ok (.iaload, 1) := by decide +kernel
theorem dL_law_2231 : decode cL_law 2231 = .ok (.invokevirtual 241, 3) := by decide +kernel
theorem dL_law_2234 : decode cL_law 2234 = .ok (.if_icmp .eq 615, 3) := by decide +kernel
theorem dL_law_2239 : decode cL_law 2239 = .ok (.aload_n 1, 1) := by decide +kernel
theorem dL_law_2240 : decode cL_law 2240 = .ok (.aload_n 0, 1) := by decide +kernel
theorem dL_law_2241 : decode cL_law 2241 = .ok (.iload_n 3, 1) := by decide +kernel
theorem dL_law_2242 : decode cL_law 2242 = .ok (.iconst 1, 1) := by decide +kernel
theorem dL_law_2243 : decode cL_law 2243 = .ok (.iadd, 1) := by decide +kernel
theorem dL_law_2244 : decode cL_law 2244 = .ok (.iaload, 1) := by decide +kernel
theorem dL_law_2245 : decode cL_law 2245 = .ok (.aload_n 0, 1) := by decide +kernel
theorem dL_law_2246 : decode cL_law 2246 = .ok (.iload_n 3, 1) := by decide +kernel
theorem dL_law_2247 : decode cL_law 2247 = .ok (.iconst 2, 1) := by decide +kernel
theorem dL_law_2248 : decode cL_law 2248 = .ok (.iadd, 1) := by decide +kernel
theorem dL_law_2249 : decode cL_law 2249 = .ok (.iaload, 1) := by decide +kernel
theorem dL_law_2250 : decode cL_law 2250 = .ok (.aload_n 0, 1) := by decide +kernel
theorem dL_law_2251 : decode cL_law 2251 = .ok (.iload_n 3, 1) := by decide +kernel
theorem dL_law_2252 : decode cL_law 2252 = .ok (.iconst 3, 1) := by decide +kernel
theorem dL_law_2253 : decode cL_law 2253 = .ok (.iadd, 1) := by decide +kernel
theorem dL_law_2254 : decode cL_law 2254 = .ok (.iaload, 1) := by decide +kernel
theorem dL_law_2255 : decode cL_law 2255 = .ok (.aload_n 0, 1) := by decide +kernel
theorem dL_law_2256 : decode cL_law 2256 = .ok (.iload_n 3, 1) := by decide +kernel
theorem dL_law_2257 : decode cL_law 2257 = .ok (.iconst 4, 1) := by decide +kernel
theorem dL_law_2258 : decode cL_law 2258 = .ok (.iadd, 1) := by decide +kernel
theorem dL_law_2259 : decode cL_law 2259 = .ok (.iaload, 1) := by decide +kernel
theorem dL_law_2260 : decode cL_law 2260 = .ok (.invokevirtual 242, 3) := by decide +kernel
theorem dL_law_2263 : decode cL_law 2263 = .ok (.aload_n 2, 1) := by decide +kernel
theorem dL_law_2264 : decode cL_law 2264 = .ok (.aload_n 0, 1) := by decide +kernel
theorem dL_law_2265 : decode cL_law 2265 = .ok (.iload_n 3, 1) := by decide +kernel
theorem dL_law_2266 : decode cL_law 2266 = .ok (.iconst 1, 1) := by decide +kernel
theorem dL_law_2267 : decode cL_law 2267 = .ok (.iadd, 1) := by decide +kernel
theorem dL_law_2268 : decode cL_law 2268 = .ok (.iaload, 1) := by decide +kernel
theorem dL_law_2269 : decode cL_law 2269 = .ok (.aload_n 0, 1) := by decide +kernel
theorem dL_law_2270 : decode cL_law 2270 = .ok (.iload_n 3, 1) := by decide +kernel
theorem dL_law_2271 : decode cL_law 2271 = .ok (.iconst 2, 1) := by decide +kernel
theorem dL_law_2272 : decode cL_law 2272 = .ok (.iadd, 1) := by decide +kernel
theorem dL_law_2273 : decode cL_law 2273 = .ok (.iaload, 1) := by decide +kernel
theorem dL_law_2274 : decode cL_law 2274 = .ok (.aload_n 0, 1) := by decide +kernel
theorem dL_law_2275 : decode cL_law 2275 = .ok (.iload_n 3, 1) := by decide +kernel
theorem dL_law_2276 : decode cL_law 2276 = .ok (.iconst 3, 1) := by decide +kernel
theorem dL_law_2277 : decode cL_law 2277 = .ok (.iadd, 1) := by decide +kernel
theorem dL_law_2278 : decode cL_law 2278 = .ok (.iaload, 1) := by decide +kernel
theorem dL_law_2279 : decode cL_law 2279 = .ok (.aload_n 0, 1) := by decide +kernel
theorem dL_law_2280 : decode cL_law 2280 = .ok (.iload_n 3, 1) := by decide +kernel
theorem dL_law_2281 : decode cL_law 2281 = .ok (.iconst 4, 1) := by decide +kernel
theorem dL_law_2282 : decode cL_law 2282 = .ok (.iadd, 1) := by decide +kernel
theorem dL_law_2283 : decode cL_law 2283 = .ok (.iaload, 1) := by decide +kernel
theorem dL_law_2284 : decode cL_law 2284 = .ok (.invokevirtual 245, 3) := by decide +kernel
theorem dL_law_2287 : decode cL_law 2287 = .ok (.if_icmp .eq 562, 3) := by decide +kernel
theorem dL_law_2292 : decode cL_law 2292 = .ok (.aload_n 1, 1) := by decide +kernel
theorem dL_law_2293 : decode cL_law 2293 = .ok (.aload_n 0, 1) := by decide +kernel
theorem dL_law_2294 : decode cL_law 2294 = .ok (.iload_n 3, 1) := by decide +kernel
theorem dL_law_2295 : decode cL_law 2295 = .ok (.iconst 1, 1) := by decide +kernel
theorem dL_law_2296 : decode cL_law 2296 = .ok (.iadd, 1) := by decide +kernel
theorem dL_law_2297 : decode cL_law 2297 = .ok (.iaload, 1) := by decide +kernel
theorem dL_law_2298 : decode cL_law 2298 = .ok (.aload_n 0, 1) := by decide +kernel
theorem dL_law_2299 : decode cL_law 2299 = .ok (.iload_n 3, 1) := by decide +kernel
theorem dL_law_2300 : decode cL_law 2300 = .ok (.iconst 2, 1) := by decide +kernel
theorem dL_law_2301 : decode cL_law 2301 = .ok (.iadd, 1) := by decide +kernel
theorem dL_law_2302 : decode cL_law 2302 = .ok (.iaload, 1) := by decide +kernel
theorem dL_law_2303 : decode cL_law 2303 = .ok (.invokevirtual 246, 3) := by decide +kernel
theorem dL_law_2306 : decode cL_law 2306 = .ok (.aload_n 2, 1) := by decide +kernel
theorem dL_law_2307 : decode cL_law 2307 = .ok (.aload_n 0, 1) := by decide +kernel
theorem dL_law_2308 : decode cL_law 2308 = .ok (.iload_n 3, 1) := by decide +kernel
theorem dL_law_2309 : decode cL_law 2309 = .ok (.iconst 1, 1) := by decide +kernel
theorem dL_law_2310 : decode cL_law 2310 = .ok (.iadd, 1) := by decide +kernel
theorem dL_law_2311 : decode cL_law 2311 = .ok (.iaload, 1) := by decide +kernel
theorem dL_law_2312 : decode cL_law 2312 = .ok (.aload_n 0, 1) := by decide +kernel
theorem dL_law_2313 : decode cL_law 2313 = .ok (.iload_n 3, 1) := by decide +kernel
theorem dL_law_2314 : decode cL_law 2314 = .ok (.iconst 2, 1) := by decide +kernel
theorem dL_law_2315 : decode cL_law 2315 = .ok (.iadd, 1) := by decide +kernel
theorem dL_law_2316 : decode cL_law 2316 = .ok (.iaload, 1) := by decide +kernel
theorem dL_law_2317 : decode cL_law 2317 = .ok (.invokevirtual 249, 3) := by decide +kernel
theorem dL_law_2320 : decode cL_law 2320 = .ok (.if_icmp .eq 529, 3) := by decide +kernel
theorem dL_law_2325 : decode cL_law 2325 = .ok (.aload_n 1, 1) := by decide +kernel
theorem dL_law_2326 : decode cL_law 2326 = .ok (.aload_n 0, 1) := by decide +kernel
theorem dL_law_2327 : decode cL_law 2327 = .ok (.iload_n 3, 1) := by decide +kernel
theorem dL_law_2328 : decode cL_law 2328 = .ok (.iconst 1, 1) := by decide +kernel
theorem dL_law_2329 : decode cL_law 2329 = .ok (.iadd, 1) := by decide +kernel
theorem dL_law_2330 : decode cL_law 2330 = .ok (.iaload, 1) := by decide +kernel
theorem dL_law_2331 : decode cL_law 2331 = .ok (.aload_n 0, 1) := by decide +kernel
theorem dL_law_2332 : decode cL_law 2332 = .ok (.iload_n 3, 1) := by decide +kernel
theorem dL_law_2333 : decode cL_law 2333 = .ok (.iconst 2, 1) := by decide +kernel
theorem dL_law_2334 : decode cL_law 2334 = .ok (.iadd, 1) := by decide +kernel
theorem dL_law_2335 : decode cL_law 2335 = .ok (.iaload, 1) := by decide +kernel
theorem dL_law_2336 : decode cL_law 2336 = .ok (.aload_n 0, 1) := by decide +kernel
theorem dL_law_2337 : decode cL_law 2337 = .ok (.iload_n 3, 1) := by decide +kernel
theorem dL_law_2338 : decode cL_law 2338 = .ok (.iconst 3, 1) := by decide +kernel
theorem dL_law_2339 : decode cL_law 2339 = .ok (.iadd, 1) := by decide +kernel
theorem dL_law_2340 : decode cL_law 2340 = .ok (.iaload, 1) := by decide +kernel
theorem dL_law_2341 : decode cL_law 2341 = .ok (.invokevirtual 250, 3) := by decide +kernel
theorem dL_law_2344 : decode cL_law 2344 = .ok (.aload_n 2, 1) := by decide +kernel
theorem dL_law_2345 : decode cL_law 2345 = .ok (.aload_n 0, 1) := by decide +kernel
theorem dL_law_2346 : decode cL_law 2346 = .ok (.iload_n 3, 1) := by decide +kernel
theorem dL_law_2347 : decode cL_law 2347 = .ok (.iconst 1, 1) := by decide +kernel
theorem dL_law_2348 : decode cL_law 2348 = .ok (.iadd, 1) := by decide +kernel
theorem dL_law_2349 : decode cL_law 2349 = .ok (.iaload, 1) := by decide +kernel
theorem dL_law_2350 : decode cL_law 2350 = .ok (.aload_n 0, 1) := by decide +kernel
theorem dL_law_2351 : decode cL_law 2351 = .ok (.iload_n 3, 1) := by decide +kernel
theorem dL_law_2352 : decode cL_law 2352 = .ok (.iconst 2, 1) := by decide +kernel
theorem dL_law_2353 : decode cL_law 2353 = .ok (.iadd, 1) := by decide +kernel
theorem dL_law_2354 : decode cL_law 2354 = .ok (.iaload, 1) := by decide +kernel
theorem dL_law_2355 : decode cL_law 2355 = .ok (.aload_n 0, 1) := by decide +kernel
theorem dL_law_2356 : decode cL_law 2356 = .ok (.iload_n 3, 1) := by decide +kernel
theorem dL_law_2357 : decode cL_law 2357 = .ok (.iconst 3, 1) := by decide +kernel
theorem dL_law_2358 : decode cL_law 2358 = .ok (.iadd, 1) := by decide +kernel
theorem dL_law_2359 : decode cL_law 2359 = .ok (.iaload, 1) := by decide +kernel
theorem dL_law_2360 : decode cL_law 2360 = .ok (.invokevirtual 253, 3) := by decide +kernel
theorem dL_law_2363 : decode cL_law 2363 = .ok (.if_icmp .eq 486, 3) := by decide +kernel
theorem dL_law_2368 : decode cL_law 2368 = .ok (.aload_n 1, 1) := by decide +kernel
theorem dL_law_2369 : decode cL_law 2369 = .ok (.aload_n 0, 1) := by decide +kernel
theorem dL_law_2370 : decode cL_law 2370 = .ok (.iload_n 3, 1) := by decide +kernel
theorem dL_law_2371 : decode cL_law 2371 = .ok (.iconst 1, 1) := by decide +kernel
theorem dL_law_2372 : decode cL_law 2372 = .ok (.iadd, 1) := by decide +kernel
theorem dL_law_2373 : decode cL_law 2373 = .ok (.iaload, 1) := by decide +kernel
theorem dL_law_2374 : decode cL_law 2374 = .ok (.aload_n 0, 1) := by decide +kernel
theorem dL_law_2375 : decode cL_law 2375 = .ok (.iload_n 3, 1) := by decide +kernel
theorem dL_law_2376 : decode cL_law 2376 = .ok (.iconst 2, 1) := by decide +kernel
theorem dL_law_2377 : decode cL_law 2377 = .ok (.iadd, 1) := by decide +kernel
theorem dL_law_2378 : decode cL_law 2378 = .ok (.iaload, 1) := by decide +kernel
theorem dL_law_2379 : decode cL_law 2379 = .ok (.aload_n 0, 1) := by decide +kernel
theorem dL_law_2380 : decode cL_law 2380 = .ok (.iload_n 3, 1) := by decide +kernel
theorem dL_law_2381 : decode cL_law 2381 = .ok (.iconst 3, 1) := by decide +kernel
theorem dL_law_2382 : decode cL_law 2382 = .ok (.iadd, 1) := by decide +kernel
theorem dL_law_2383 : decode cL_law 2383 = .ok (.iaload, 1) := by decide +kernel
theorem dL_law_2384 : decode cL_law 2384 = .ok (.invokevirtual 254, 3) := by decide +kernel
theorem dL_law_2387 : decode cL_law 2387 = .ok (.aload_n 2, 1) := by decide +kernel
theorem dL_law_2388 : decode cL_law 2388 = .ok (.aload_n 0, 1) := by decide +kernel
theorem dL_law_2389 : decode cL_law 2389 = .ok (.iload_n 3, 1) := by decide +kernel
theorem dL_law_2390 : decode cL_law 2390 = .ok (.iconst 1, 1) := by decide +kernel
theorem dL_law_2391 : decode cL_law 2391 = .ok (.iadd, 1) := by decide +kernel
theorem dL_law_2392 : decode cL_law 2392 = .ok (.iaload, 1) := by decide +kernel
theorem dL_law_2393 : decode cL_law 2393 = .ok (.aload_n 0, 1) := by decide +kernel
theorem dL_law_2394 : decode cL_law 2394 = .ok (.iload_n 3, 1) := by decide +kernel
theorem dL_law_2395 : decode cL_law 2395 = .ok (.iconst 2, 1) := by decide +kernel
theorem dL_law_2396 : decode cL_law 2396 = .ok (.iadd, 1) := by decide +kernel
theorem dL_law_2397 : decode cL_law 2397 = .ok (.iaload, 1) := by decide +kernel
theorem dL_law_2398 : decode cL_law 2398 = .ok (.aload_n 0, 1) := by decide +kernel
theorem dL_law_2399 : decode cL_law 2399 = .ok (.iload_n 3, 1) := by decide +kernel
theorem dL_law_2400 : decode cL_law 2400 = .ok (.iconst 3, 1) := by decide +kernel
theorem dL_law_2401 : decode cL_law 2401 = .ok (.iadd, 1) := by decide +kernel
theorem dL_law_2402 : decode cL_law 2402 = .ok (.iaload, 1) := by decide +kernel
theorem dL_law_2403 : decode cL_law 2403 = .ok (.invokevirtual 257, 3) := by decide +kernel
theorem dL_law_2406 : decode cL_law 2406 = .ok (.if_icmp .eq 443, 3) := by decide +kernel
theorem dL_law_2411 : decode cL_law 2411 = .ok (.aload_n 1, 1) := by decide +kernel
theorem dL_law_2412 : decode cL_law 2412 = .ok (.aload_n 0, 1) := by decide +kernel
theorem dL_law_2413 : decode cL_law 2413 = .ok (.iload_n 3, 1) := by decide +kernel
theorem dL_law_2414 : decode cL_law 2414 = .ok (.iconst 1, 1) := by decide +kernel
theorem dL_law_2415 : decode cL_law 2415 = .ok (.iadd, 1) := by decide +kernel
theorem dL_law_2416 : decode cL_law 2416 = .ok (.iaload, 1) := by decide +kernel
theorem dL_law_2417 : decode cL_law 2417 = .ok (.aload_n 0, 1) := by decide +kernel
theorem dL_law_2418 : decode cL_law 2418 = .ok (.iload_n 3, 1) := by decide +kernel
theorem dL_law_2419 : decode cL_law 2419 = .ok (.iconst 2, 1) := by decide +kernel
theorem dL_law_2420 : decode cL_law 2420 = .ok (.iadd, 1) := by decide +kernel
theorem dL_law_2421 : decode cL_law 2421 = .ok (.iaload, 1) := by decide +kernel
theorem dL_law_2422 : decode cL_law 2422 = .ok (.aload_n 0, 1) := by decide +kernel
theorem dL_law_2423 : decode cL_law 2423 = .ok (.iload_n 3, 1) := by decide +kernel
theorem dL_law_2424 : decode cL_law 2424 = .ok (.iconst 3, 1) := by decide +kernel
theorem dL_law_2425 : decode cL_law 2425 = .ok (.iadd, 1) := by decide +kernel
theorem dL_law_2426 : decode cL_law 2426 = .ok (.iaload, 1) := by decide +kernel
theorem dL_law_2427 : decode cL_law 2427 = .ok (.invokevirtual 258, 3) := by decide +kernel
theorem dL_law_2430 : decode cL_law 2430 = .ok (.aload_n 2, 1) := by decide +kernel
theorem dL_law_2431 : decode cL_law 2431 = .ok (.aload_n 0, 1) := by decide +kernel
theorem dL_law_2432 : decode cL_law 2432 = .ok (.iload_n 3, 1) := by decide +kernel
theorem dL_law_2433 : decode cL_law 2433 = .ok (.iconst 1, 1) := by decide +kernel
theorem dL_law_2434 : decode cL_law 2434 = .ok (.iadd, 1) := by decide +kernel
theorem dL_law_2435 : decode cL_law 2435 = .ok (.iaload, 1) := by decide +kernel
theorem dL_law_2436 : decode cL_law 2436 = .ok (.aload_n 0, 1) := by decide +kernel
theorem dL_law_2437 : decode cL_law 2437 = .ok (.iload_n 3, 1) := by decide +kernel
theorem dL_law_2438 : decode cL_law 2438 = .ok (.iconst 2, 1) := by decide +kernel
theorem dL_law_2439 : decode cL_law 2439 = .ok (.iadd, 1) := by decide +kernel
theorem dL_law_2440 : decode cL_law 2440 = .ok (.iaload, 1) := by decide +kernel
theorem dL_law_2441 : decode cL_law 2441 = .ok (.aload_n 0, 1) := by decide +kernel
theorem dL_law_2442 : decode cL_law 2442 = .ok (.iload_n 3, 1) := by decide +kernel
theorem dL_law_2443 : decode cL_law 2443 = .ok (.iconst 3, 1) := by decide +kernel
theorem dL_law_2444 : decode cL_law 2444 = .ok (.iadd, 1) := by decide +kernel
theorem dL_law_2445 : decode cL_law 2445 = .ok (.iaload, 1) := by decide +kernel
theorem dL_law_2446 : decode cL_law 2446 = .ok (.invokevirtual 261, 3) := by decide +kernel
theorem dL_law_2449 : decode cL_law 2449 = .ok (.if_icmp .eq 400, 3) := by decide +kernel
theorem dL_law_2454 : decode cL_law 2454 = .ok (.aload_n 1, 1) := by decide +kernel
theorem dL_law_2455 : decode cL_law 2455 = .ok (.aload_n 0, 1) := by decide +kernel
theorem dL_law_2456 : decode cL_law 2456 = .ok (.iload_n 3, 1) := by decide +kernel
theorem dL_law_2457 : decode cL_law 2457 = .ok (.iconst 1, 1) := by decide +kernel
theorem dL_law_2458 : decode cL_law 2458 = .ok (.iadd, 1) := by decide +kernel
theorem dL_law_2459 : decode cL_law 2459 = .ok (.iaload, 1) := by decide +kernel
theorem dL_law_2460 : decode cL_law 2460 = .ok (.aload_n 0, 1) := by decide +kernel
theorem dL_law_2461 : decode cL_law 2461 = .ok (.iload_n 3, 1) := by decide +kernel
theorem dL_law_2462 : decode cL_law 2462 = .ok (.iconst 2, 1) := by decide +kernel
theorem dL_law_2463 : decode cL_law 2463 = .ok (.iadd, 1) := by decide +kernel
theorem dL_law_2464 : decode cL_law 2464 = .ok (.iaload, 1) := by decide +kernel
theorem dL_law_2465 : decode cL_law 2465 = .ok (.invokevirtual 262, 3) := by decide +kernel
theorem dL_law_2468 : decode cL_law 2468 = .ok (.aload_n 2, 1) := by decide +kernel
theorem dL_law_2469 : decode cL_law 2469 = .ok (.aload_n 0, 1) := by decide +kernel
theorem dL_law_2470 : decode cL_law 2470 = .ok (.iload_n 3, 1) := by decide +kernel
theorem dL_law_2471 : decode cL_law 2471 = .ok (.iconst 1, 1) := by decide +kernel
theorem dL_law_2472 : decode cL_law 2472 = .ok (.iadd, 1) := by decide +kernel
theorem dL_law_2473 : decode cL_law 2473 = .ok (.iaload, 1) := by decide +kernel
theorem dL_law_2474 : decode cL_law 2474 = .ok (.aload_n 0, 1) := by decide +kernel
theorem dL_law_2475 : decode cL_law 2475 = .ok (.iload_n 3, 1) := by decide +kernel
theorem dL_law_2476 : decode cL_law 2476 = .ok (.iconst 2, 1) := by decide +kernel
theorem dL_law_2477 : decode cL_law 2477 = .ok (.iadd, 1) := by decide +kernel
theorem dL_law_2478 : decode cL_law 2478 = .ok (.iaload, 1) := by decide +kernel
theorem dL_law_2479 : decode cL_law 2479 = .ok (.invokevirtual 265, 3) := by decide +kernel
theorem dL_law_2482 : decode cL_law 2482 = .ok (.if_icmp .eq 367, 3) := by decide +kernel
theorem dL_law_2487 : decode cL_law 2487 = .ok (.aload_n 1, 1) := by decide +kernel
theorem dL_law_2488 : decode cL_law 2488 = .ok (.aload_n 0, 1) := by decide +kernel
theorem dL_law_2489 : decode cL_law 2489 = .ok (.iload_n 3, 1) := by decide +kernel
theorem dL_law_2490 : decode cL_law 2490 = .ok (.iconst 1, 1) := by decide +kernel
theorem dL_law_2491 : decode cL_law 2491 = .ok (.iadd, 1) := by decide +kernel
theorem dL_law_2492 : decode cL_law 2492 = .ok (.iaload, 1) := by decide +kernel
theorem dL_law_2493 : decode cL_law 2493 = .ok (.aload_n 0, 1) := by decide +kernel
theorem dL_law_2494 : decode cL_law 2494 = .ok (.iload_n 3, 1) := by decide +kernel
theorem dL_law_2495 : decode cL_law 2495 = .ok (.iconst 2, 1) := by decide +kernel
theorem dL_law_2496 : decode cL_law 2496 = .ok (.iadd, 1) := by decide +kernel
theorem dL_law_2497 : decode cL_law 2497 = .ok (.iaload, 1) := by decide +kernel
theorem dL_law_2498 : decode cL_law 2498 = .ok (.aload_n 0, 1) := by decide +kernel
theorem dL_law_2499 : decode cL_law 2499 = .ok (.iload_n 3, 1) := by decide +kernel
theorem dL_law_2500 : decode cL_law 2500 = .ok (.iconst 3, 1) := by decide +kernel
theorem dL_law_2501 : decode cL_law 2501 = .ok (.iadd, 1) := by decide +kernel
theorem dL_law_2502 : decode cL_law 2502 = .ok (.iaload, 1) := by decide +kernel
theorem dL_law_2503 : decode cL_law 2503 = .ok (.invokevirtual 266, 3) := by decide +kernel
theorem dL_law_2506 : decode cL_law 2506 = .ok (.aload_n 2, 1) := by decide +kernel
theorem dL_law_2507 : decode cL_law 2507 = .ok (.aload_n 0, 1) := by decide +kernel
theorem dL_law_2508 : decode cL_law 2508 = .ok (.iload_n 3, 1) := by decide +kernel
theorem dL_law_2509 : decode cL_law 2509 = .ok (.iconst 1, 1) := by decide +kernel
theorem dL_law_2510 : decode cL_law 2510 = .ok (.iadd, 1) := by decide +kernel
theorem dL_law_2511 : decode cL_law 2511 = .ok (.iaload, 1) := by decide +kernel
theorem dL_law_2512 : decode cL_law 2512 = .ok (.aload_n 0, 1) := by decide +kernel
theorem dL_law_2513 : decode cL_law 2513 = .ok (.iload_n 3, 1) := by decide +kernel
theorem dL_law_2514 : decode cL_law 2514 = .ok (.iconst 2, 1) := by decide +kernel
theorem dL_law_2515 : decode cL_law 2515 = .ok (.iadd, 1) := by decide +kernel
theorem dL_law_2516 : decode cL_law 2516 = .ok (.iaload, 1) := by decide +kernel
theorem dL_law_2517 : decode cL_law 2517 = .ok (.aload_n 0, 1) := by decide +kernel
theorem dL_law_2518 : decode cL_law 2518 = .ok (.iload_n 3, 1) := by decide +kernel
theorem dL_law_2519 : decode cL_law 2519 = .ok (.iconst 3, 1) := by decide +kernel
theorem dL_law_2520 : decode cL_law 2520 = .ok (.iadd, 1) := by decide +kernel
theorem dL_law_2521 : decode cL_law 2521 = .ok (.iaload, 1) := by decide +kernel
theorem dL_law_2522 : decode cL_law 2522 = .ok (.invokevirtual 269, 3) := by decide +kernel
theorem dL_law_2525 : decode cL_law 2525 = .ok (.if_icmp .eq 324, 3) := by decide +kernel
theorem dL_law_2530 : decode cL_law 2530 = .ok (.aload_n 1, 1) := by decide +kernel
theorem dL_law_2531 : decode cL_law 2531 = .ok (.aload_n 0, 1) := by decide +kernel
theorem dL_law_2532 : decode cL_law 2532 = .ok (.iload_n 3, 1) := by decide +kernel
theorem dL_law_2533 : decode cL_law 2533 = .ok (.iconst 1, 1) := by decide +kernel
theorem dL_law_2534 : decode cL_law 2534 = .ok (.iadd, 1) := by decide +kernel
theorem dL_law_2535 : decode cL_law 2535 = .ok (.iaload, 1) := by decide +kernel
theorem dL_law_2536 : decode cL_law 2536 = .ok (.invokevirtual 270, 3) := by decide +kernel
theorem dL_law_2539 : decode cL_law 2539 = .ok (.aload_n 2, 1) := by decide +kernel
theorem dL_law_2540 : decode cL_law 2540 = .ok (.aload_n 0, 1) := by decide +kernel
theorem dL_law_2541 : decode cL_law 2541 = .ok (.iload_n 3, 1) := by decide +kernel
theorem dL_law_2542 : decode cL_law 2542 = .ok (.iconst 1, 1) := by decide +kernel
theorem dL_law_2543 : decode cL_law 2543 = .ok (.iadd, 1) := by decide +kernel
theorem dL_law_2544 : decode cL_law 2544 = .ok (.iaload, 1) := by decide +kernel
theorem dL_law_2545 : decode cL_law 2545 = .ok (.invokevirtual 273, 3) := by decide +kernel
theorem dL_law_2548 : decode cL_law 2548 = .ok (.if_icmp .eq 301, 3) := by decide +kernel
theorem dL_law_2553 : decode cL_law 2553 = .ok (.aload_n 1, 1) := by decide +kernel
theorem dL_law_2554 : decode cL_law 2554 = .ok (.aload_n 0, 1) := by decide +kernel
theorem dL_law_2555 : decode cL_law 2555 = .ok (.iload_n 3, 1) := by decide +kernel
theorem dL_law_2556 : decode cL_law 2556 = .ok (.iconst 1, 1) := by decide +kernel
theorem dL_law_2557 : decode cL_law 2557 = .ok (.iadd, 1) := by decide +kernel
theorem dL_law_2558 : decode cL_law 2558 = .ok (.iaload, 1) := by decide +kernel
theorem dL_law_2559 : decode cL_law 2559 = .ok (.aload_n 0, 1) := by decide +kernel
theorem dL_law_2560 : decode cL_law 2560 = .ok (.iload_n 3, 1) := by decide +kernel
theorem dL_law_2561 : decode cL_law 2561 = .ok (.iconst 2, 1) := by decide +kernel
theorem dL_law_2562 : decode cL_law 2562 = .ok (.iadd, 1) := by decide +kernel
theorem dL_law_2563 : decode cL_law 2563 = .ok (.iaload, 1) := by decide +kernel
theorem dL_law_2564 : decode cL_law 2564 = .ok (.invokevirtual 274, 3) := by decide +kernel
theorem dL_law_2567 : decode cL_law 2567 = .ok (.aload_n 2, 1) := by decide +kernel
theorem dL_law_2568 : decode cL_law 2568 = .ok (.aload_n 0, 1) := by decide +kernel
theorem dL_law_2569 : decode cL_law 2569 = .ok (.iload_n 3, 1) := by decide +kernel
theorem dL_law_2570 : decode cL_law 2570 = .ok (.iconst 1, 1) := by decide +kernel
theorem dL_law_2571 : decode cL_law 2571 = .ok (.iadd, 1) := by decide +kernel
theorem dL_law_2572 : decode cL_law 2572 = .ok (.iaload, 1) := by decide +kernel
theorem dL_law_2573 : decode cL_law 2573 = .ok (.aload_n 0, 1) := by decide +kernel
theorem dL_law_2574 : decode cL_law 2574 = .ok (.iload_n 3, 1) := by decide +kernel
theorem dL_law_2575 : decode cL_law 2575 = .ok (.iconst 2, 1) := by decide +kernel
theorem dL_law_2576 : decode cL_law 2576 = .ok (.iadd, 1) := by decide +kernel
theorem dL_law_2577 : decode cL_law 2577 = .ok (.iaload, 1) := by decide +kernel
theorem dL_law_2578 : decode cL_law 2578 = .ok (.invokevirtual 277, 3) := by decide +kernel
theorem dL_law_2581 : decode cL_law 2581 = .ok (.if_icmp .eq 268, 3) := by decide +kernel
theorem dL_law_2586 : decode cL_law 2586 = .ok (.aload_n 1, 1) := by decide +kernel
theorem dL_law_2587 : decode cL_law 2587 = .ok (.aload_n 0, 1) := by decide +kernel
theorem dL_law_2588 : decode cL_law 2588 = .ok (.iload_n 3, 1) := by decide +kernel
theorem dL_law_2589 : decode cL_law 2589 = .ok (.iconst 1, 1) := by decide +kernel
theorem dL_law_2590 : decode cL_law 2590 = .ok (.iadd, 1) := by decide +kernel
theorem dL_law_2591 : decode cL_law 2591 = .ok (.iaload, 1) := by decide +kernel
theorem dL_law_2592 : decode cL_law 2592 = .ok (.aload_n 0, 1) := by decide +kernel
theorem dL_law_2593 : decode cL_law 2593 = .ok (.iload_n 3, 1) := by decide +kernel
theorem dL_law_2594 : decode cL_law 2594 = .ok (.iconst 2, 1) := by decide +kernel
theorem dL_law_2595 : decode cL_law 2595 = .ok (.iadd, 1) := by decide +kernel
theorem dL_law_2596 : decode cL_law 2596 = .ok (.iaload, 1) := by decide +kernel
theorem dL_law_2597 : decode cL_law 2597 = .ok (.invokevirtual 278, 3) := by decide +kernel
theorem dL_law_2600 : decode cL_law 2600 = .ok (.aload_n 2, 1) := by decide +kernel
theorem dL_law_2601 : decode cL_law 2601 = .ok (.aload_n 0, 1) := by decide +kernel
theorem dL_law_2602 : decode cL_law 2602 = .ok (.iload_n 3, 1) := by decide +kernel
theorem dL_law_2603 : decode cL_law 2603 = .ok (.iconst 1, 1) := by decide +kernel
theorem dL_law_2604 : decode cL_law 2604 = .ok (.iadd, 1) := by decide +kernel
theorem dL_law_2605 : decode cL_law 2605 = .ok (.iaload, 1) := by decide +kernel
theorem dL_law_2606 : decode cL_law 2606 = .ok (.aload_n 0, 1) := by decide +kernel
theorem dL_law_2607 : decode cL_law 2607 = .ok (.iload_n 3, 1) := by decide +kernel
theorem dL_law_2608 : decode cL_law 2608 = .ok (.iconst 2, 1) := by decide +kernel
theorem dL_law_2609 : decode cL_law 2609 = .ok (.iadd, 1) := by decide +kernel
theorem dL_law_2610 : decode cL_law 2610 = .ok (.iaload, 1) := by decide +kernel
theorem dL_law_2611 : decode cL_law 2611 = .ok (.invokevirtual 282, 3) := by decide +kernel
theorem dL_law_2614 : decode cL_law 2614 = .ok (.if_icmp .eq 235, 3) := by decide +kernel
theorem dL_law_2619 : decode cL_law 2619 = .ok (.aload_n 1, 1) := by decide +kernel
theorem dL_law_2620 : decode cL_law 2620 = .ok (.aload_n 0, 1) := by decide +kernel
theorem dL_law_2621 : decode cL_law 2621 = .ok (.iload_n 3, 1) := by decide +kernel
theorem dL_law_2622 : decode cL_law 2622 = .ok (.iconst 1, 1) := by decide +kernel
theorem dL_law_2623 : decode cL_law 2623 = .ok (.iadd, 1) := by decide +kernel
theorem dL_law_2624 : decode cL_law 2624 = .ok (.iaload, 1) := by decide +kernel
theorem dL_law_2625 : decode cL_law 2625 = .ok (.aload_n 0, 1) := by decide +kernel
theorem dL_law_2626 : decode cL_law 2626 = .ok (.iload_n 3, 1) := by decide +kernel
theorem dL_law_2627 : decode cL_law 2627 = .ok (.iconst 2, 1) := by decide +kernel
theorem dL_law_2628 : decode cL_law 2628 = .ok (.iadd, 1) := by decide +kernel
theorem dL_law_2629 : decode cL_law 2629 = .ok (.iaload, 1) := by decide +kernel
theorem dL_law_2630 : decode cL_law 2630 = .ok (.invokevirtual 283, 3) := by decide +kernel
theorem dL_law_2633 : decode cL_law 2633 = .ok (.aload_n 2, 1) := by decide +kernel
theorem dL_law_2634 : decode cL_law 2634 = .ok (.aload_n 0, 1) := by decide +kernel
theorem dL_law_2635 : decode cL_law 2635 = .ok (.iload_n 3, 1) := by decide +kernel
theorem dL_law_2636 : decode cL_law 2636 = .ok (.iconst 1, 1) := by decide +kernel
theorem dL_law_2637 : decode cL_law 2637 = .ok (.iadd, 1) := by decide +kernel
theorem dL_law_2638 : decode cL_law 2638 = .ok (.iaload, 1) := by decide +kernel
theorem dL_law_2639 : decode cL_law 2639 = .ok (.aload_n 0, 1) := by decide +kernel
theorem dL_law_2640 : decode cL_law 2640 = .ok (.iload_n 3, 1) := by decide +kernel
theorem dL_law_2641 : decode cL_law 2641 = .ok (.iconst 2, 1) := by decide +kernel
theorem dL_law_2642 : decode cL_law 2642 = .ok (.iadd, 1) := by decide +kernel
theorem dL_law_2643 : decode cL_law 2643 = .ok (.iaload, 1) := by decide +kernel
theorem dL_law_2644 : decode cL_law 2644 = .ok (.invokevirtual 286, 3) := by decide +kernel
theorem dL_law_2647 : decode cL_law 2647 = .ok (.if_icmp .eq 202, 3) := by decide +kernel
theorem dL_law_2652 : decode cL_law 2652 = .ok (.aload_n 1, 1) := by decide +kernel
theorem dL_law_2653 : decode cL_law 2653 = .ok (.aload_n 0, 1) := by decide +kernel
theorem dL_law_2654 : decode cL_law 2654 = .ok (.iload_n 3, 1) := by decide +kernel
theorem dL_law_2655 : decode cL_law 2655 = .ok (.iconst 1, 1) := by decide +kernel
theorem dL_law_2656 : decode cL_law 2656 = .ok (.iadd, 1) := by decide +kernel
theorem dL_law_2657 : decode cL_law 2657 = .ok (.iaload, 1) := by decide +kernel
theorem dL_law_2658 : decode cL_law 2658 = .ok (.aload_n 0, 1) := by decide +kernel
theorem dL_law_2659 : decode cL_law 2659 = .ok (.iload_n 3, 1) := by decide +kernel
theorem dL_law_2660 : decode cL_law 2660 = .ok (.iconst 2, 1) := by decide +kernel
theorem dL_law_2661 : decode cL_law 2661 = .ok (.iadd, 1) := by decide +kernel
theorem dL_law_2662 : decode cL_law 2662 = .ok (.iaload, 1) := by decide +kernel
theorem dL_law_2663 : decode cL_law 2663 = .ok (.invokevirtual 287, 3) := by decide +kernel
theorem dL_law_2666 : decode cL_law 2666 = .ok (.aload_n 2, 1) := by decide +kernel
theorem dL_law_2667 : decode cL_law 2667 = .ok (.aload_n 0, 1) := by decide +kernel
theorem dL_law_2668 : decode cL_law 2668 = .ok (.iload_n 3, 1) := by decide +kernel
theorem dL_law_2669 : decode cL_law 2669 = .ok (.iconst 1, 1) := by decide +kernel
theorem dL_law_2670 : decode cL_law 2670 = .ok (.iadd, 1) := by decide +kernel
theorem dL_law_2671 : decode cL_law 2671 = .ok (.iaload, 1) := by decide +kernel
theorem dL_law_2672 : decode cL_law 2672 = .ok (.aload_n 0, 1) := by decide +kernel
theorem dL_law_2673 : decode cL_law 2673 = .ok (.iload_n 3, 1) := by decide +kernel
theorem dL_law_2674 : decode cL_law 2674 = .ok (.iconst 2, 1) := by decide +kernel
theorem dL_law_2675 : decode cL_law 2675 = .ok (.iadd, 1) := by decide +kernel
theorem dL_law_2676 : decode cL_law 2676 = .ok (.iaload, 1) := by decide +kernel
theorem dL_law_2677 : decode cL_law 2677 = .ok (.invokevirtual 290, 3) := by decide +kernel
theorem dL_law_2680 : decode cL_law 2680 = .ok (.if_icmp .eq 169, 3) := by decide +kernel
theorem dL_law_2685 : decode cL_law 2685 = .ok (.aload_n 1, 1) := by decide +kernel
theorem dL_law_2686 : decode cL_law 2686 = .ok (.aload_n 0, 1) := by decide +kernel
theorem dL_law_2687 : decode cL_law 2687 = .ok (.iload_n 3, 1) := by decide +kernel
theorem dL_law_2688 : decode cL_law 2688 = .ok (.iconst 1, 1) := by decide +kernel
theorem dL_law_2689 : decode cL_law 2689 = .ok (.iadd, 1) := by decide +kernel
theorem dL_law_2690 : decode cL_law 2690 = .ok (.iaload, 1) := by decide +kernel
theorem dL_law_2691 : decode cL_law 2691 = .ok (.invokevirtual 291, 3) := by decide +kernel
theorem dL_law_2694 : decode cL_law 2694 = .ok (.aload_n 2, 1) := by decide +kernel
theorem dL_law_2695 : decode cL_law 2695 = .ok (.aload_n 0, 1) := by decide +kernel
theorem dL_law_2696 : decode cL_law 2696 = .ok (.iload_n 3, 1) := by decide +kernel
theorem dL_law_2697 : decode cL_law 2697 = .ok (.iconst 1, 1) := by decide +kernel
theorem dL_law_2698 : decode cL_law 2698 = .ok (.iadd, 1) := by decide +kernel
theorem dL_law_2699 : decode cL_law 2699 = .ok (.iaload, 1) := by decide +kernel
theorem dL_law_2700 : decode cL_law 2700 = .ok (.invokevirtual 294, 3) := by decide +kernel
theorem dL_law_2703 : decode cL_law 2703 = .ok (.if_icmp .eq 146, 3) := by decide +kernel
theorem dL_law_2708 : decode cL_law 2708 = .ok (.aload_n 1, 1) := by decide +kernel
theorem dL_law_2709 : decode cL_law 2709 = .ok (.aload_n 0, 1) := by decide +kernel
theorem dL_law_2710 : decode cL_law 2710 = .ok (.iload_n 3, 1) := by decide +kernel
theorem dL_law_2711 : decode cL_law 2711 = .ok (.iconst 1, 1) := by decide +kernel
theorem dL_law_2712 : decode cL_law 2712 = .ok (.iadd, 1) := by decide +kernel
theorem dL_law_2713 : decode cL_law 2713 = .ok (.iaload, 1) := by decide +kernel
theorem dL_law_2714 : decode cL_law 2714 = .ok (.invokevirtual 295, 3) := by decide +kernel
theorem dL_law_2717 : decode cL_law 2717 = .ok (.aload_n 2, 1) := by decide +kernel
theorem dL_law_2718 : decode cL_law 2718 = .ok (.aload_n 0, 1) := by decide +kernel
theorem dL_law_2719 : decode cL_law 2719 = .ok (.iload_n 3, 1) := by decide +kernel
theorem dL_law_2720 : decode cL_law 2720 = .ok (.iconst 1, 1) := by decide +kernel
theorem dL_law_2721 : decode cL_law 2721 = .ok (.iadd, 1) := by decide +kernel
theorem dL_law_2722 : decode cL_law 2722 = .ok (.iaload, 1) := by decide +kernel
theorem dL_law_2723 : decode cL_law 2723 = .ok (.invokevirtual 298, 3) := by decide +kernel
theorem dL_law_2726 : decode cL_law 2726 = .ok (.if_icmp .eq 123, 3) := by decide +kernel
theorem dL_law_2731 : decode cL_law 2731 = .ok (.aload_n 1, 1) := by decide +kernel
theorem dL_law_2732 : decode cL_law 2732 = .ok (.invokevirtual 299, 3) := by decide +kernel
theorem dL_law_2735 : decode cL_law 2735 = .ok (.aload_n 2, 1) := by decide +kernel
theorem dL_law_2736 : decode cL_law 2736 = .ok (.invokevirtual 302, 3) := by decide +kernel
theorem dL_law_2739 : decode cL_law 2739 = .ok (.if_icmp .eq 110, 3) := by decide +kernel
theorem dL_law_2744 : decode cL_law 2744 = .ok (.aload_n 1, 1) := by decide +kernel
theorem dL_law_2745 : decode cL_law 2745 = .ok (.aload_n 0, 1) := by decide +kernel
theorem dL_law_2746 : decode cL_law 2746 = .ok (.iload_n 3, 1) := by decide +kernel
theorem dL_law_2747 : decode cL_law 2747 = .ok (.iconst 1, 1) := by decide +kernel
theorem dL_law_2748 : decode cL_law 2748 = .ok (.iadd, 1) := by decide +kernel
theorem dL_law_2749 : decode cL_law 2749 = .ok (.iaload, 1) := by decide +kernel
theorem dL_law_2750 : decode cL_law 2750 = .ok (.invokevirtual 303, 3) := by decide +kernel
theorem dL_law_2753 : decode cL_law 2753 = .ok (.aload_n 2, 1) := by decide +kernel
theorem dL_law_2754 : decode cL_law 2754 = .ok (.aload_n 0, 1) := by decide +kernel
theorem dL_law_2755 : decode cL_law 2755 = .ok (.iload_n 3, 1) := by decide +kernel
theorem dL_law_2756 : decode cL_law 2756 = .ok (.iconst 1, 1) := by decide +kernel
theorem dL_law_2757 : decode cL_law 2757 = .ok (.iadd, 1) := by decide +kernel
theorem dL_law_2758 : decode cL_law 2758 = .ok (.iaload, 1) := by decide +kernel
theorem dL_law_2759 : decode cL_law 2759 = .ok (.invokevirtual 306, 3) := by decide +kernel
theorem dL_law_2762 : decode cL_law 2762 = .ok (.if_icmp .eq 87, 3) := by decide +kernel
theorem dL_law_2767 : decode cL_law 2767 = .ok (.aload_n 1, 1) := by decide +kernel
theorem dL_law_2768 : decode cL_law 2768 = .ok (.aload_n 0, 1) := by decide +kernel
theorem dL_law_2769 : decode cL_law 2769 = .ok (.iload_n 3, 1) := by decide +kernel
theorem dL_law_2770 : decode cL_law 2770 = .ok (.iconst 1, 1) := by decide +kernel
theorem dL_law_2771 : decode cL_law 2771 = .ok (.iadd, 1) := by decide +kernel
theorem dL_law_2772 : decode cL_law 2772 = .ok (.iaload, 1) := by decide +kernel
theorem dL_law_2773 : decode cL_law 2773 = .ok (.invokevirtual 307, 3) := by decide +kernel
theorem dL_law_2776 : decode cL_law 2776 = .ok (.aload_n 2, 1) := by decide +kernel
theorem dL_law_2777 : decode cL_law 2777 = .ok (.aload_n 0, 1) := by decide +kernel
theorem dL_law_2778 : decode cL_law 2778 = .ok (.iload_n 3, 1) := by decide +kernel
theorem dL_law_2779 : decode cL_law 2779 = .ok (.iconst 1, 1) := by decide +kernel
theorem dL_law_2780 : decode cL_law 2780 = .ok (.iadd, 1) := by decide +kernel
theorem dL_law_2781 : decode cL_law 2781 = .ok (.iaload, 1) := by decide +kernel
theorem dL_law_2782 : decode cL_law 2782 = .ok (.invokevirtual 310, 3) := by decide +kernel
theorem dL_law_2785 : decode cL_law 2785 = .ok (.if_icmp .eq 64, 3) := by decide +kernel
theorem dL_law_2790 : decode cL_law 2790 = .ok (.aload_n 1, 1) := by decide +kernel
theorem dL_law_2791 : decode cL_law 2791 = .ok (.aload_n 0, 1) := by decide +kernel
theorem dL_law_2792 : decode cL_law 2792 = .ok (.iload_n 3, 1) := by decide +kernel
theorem dL_law_2793 : decode cL_law 2793 = .ok (.iconst 1, 1) := by decide +kernel
theorem dL_law_2794 : decode cL_law 2794 = .ok (.iadd, 1) := by decide +kernel
theorem dL_law_2795 : decode cL_law 2795 = .ok (.iaload, 1) := by decide +kernel
theorem dL_law_2796 : decode cL_law 2796 = .ok (.aload_n 0, 1) := by decide +kernel
theorem dL_law_2797 : decode cL_law 2797 = .ok (.iload_n 3, 1) := by decide +kernel
theorem dL_law_2798 : decode cL_law 2798 = .ok (.iconst 2, 1) := by decide +kernel
theorem dL_law_2799 : decode cL_law 2799 = .ok (.iadd, 1) := by decide +kernel
theorem dL_law_2800 : decode cL_law 2800 = .ok (.iaload, 1) := by decide +kernel
theorem dL_law_2801 : decode cL_law 2801 = .ok (.invokevirtual 311, 3) := by decide +kernel
theorem dL_law_2804 : decode cL_law 2804 = .ok (.aload_n 2, 1) := by decide +kernel
theorem dL_law_2805 : decode cL_law 2805 = .ok (.aload_n 0, 1) := by decide +kernel
theorem dL_law_2806 : decode cL_law 2806 = .ok (.iload_n 3, 1) := by decide +kernel
theorem dL_law_2807 : decode cL_law 2807 = .ok (.iconst 1, 1) := by decide +kernel
theorem dL_law_2808 : decode cL_law 2808 = .ok (.iadd, 1) := by decide +kernel
theorem dL_law_2809 : decode cL_law 2809 = .ok (.iaload, 1) := by decide +kernel
theorem dL_law_2810 : decode cL_law 2810 = .ok (.aload_n 0, 1) := by decide +kernel
theorem dL_law_2811 : decode cL_law 2811 = .ok (.iload_n 3, 1) := by decide +kernel
theorem dL_law_2812 : decode cL_law 2812 = .ok (.iconst 2, 1) := by decide +kernel
theorem dL_law_2813 : decode cL_law 2813 = .ok (.iadd, 1) := by decide +kernel
theorem dL_law_2814 : decode cL_law 2814 = .ok (.iaload, 1) := by decide +kernel
theorem dL_law_2815 : decode cL_law 2815 = .ok (.invokevirtual 314, 3) := by decide +kernel
theorem dL_law_2818 : decode cL_law 2818 = .ok (.if_icmp .eq 31, 3) := by decide +kernel
theorem dL_law_2823 : decode cL_law 2823 = .ok (.aload_n 1, 1) := by decide +kernel
theorem dL_law_2824 : decode cL_law 2824 = .ok (.invokevirtual 315, 3) := by decide +kernel
theorem dL_law_2827 : decode cL_law 2827 = .ok (.aload_n 2, 1) := by decide +kernel
theorem dL_law_2828 : decode cL_law 2828 = .ok (.invokevirtual 318, 3) := by decide +kernel
theorem dL_law_2831 : decode cL_law 2831 = .ok (.if_icmp .eq 18, 3) := by decide +kernel
theorem dL_law_2836 : decode cL_law 2836 = .ok (.aload_n 1, 1) := by decide +kernel
theorem dL_law_2837 : decode cL_law 2837 = .ok (.invokevirtual 319, 3) := by decide +kernel
theorem dL_law_2840 : decode cL_law 2840 = .ok (.aload_n 2, 1) := by decide +kernel
theorem dL_law_2841 : decode cL_law 2841 = .ok (.invokevirtual 322, 3) := by decide +kernel
theorem dL_law_2844 : decode cL_law 2844 = .ok (.if_icmp .eq 5, 3) := by decide +kernel
theorem dL_law_2849 : decode cL_law 2849 = .ok (.iinc 3 6, 3) := by decide +kernel
theorem dL_law_2852 : decode cL_law 2852 = .ok (.goto (-2834), 3) := by decide +kernel
theorem dL_law_2855 : decode cL_law 2855 = .ok (.iconst 1, 1) := by decide +kernel
theorem dL_law_2856 : decode cL_law 2856 = .ok (.ireturn, 1) := by decide +kernel
