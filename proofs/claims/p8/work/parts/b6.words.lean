theorem qc_X11_blind : Cond.code yX11_blind cX11_blind 6 (some .int) ∈ gw := tbt (tb4 (List.mem_of_getElem? (i := 136) rfl)) rfl
theorem qi_yX11_blind : Cond.instanceMethod yX11_blind ∈ gw := tbt (tb4 (List.mem_of_getElem? (i := 134) rfl)) rfl
theorem qs_X11_blind : Cond.selects (yX11_blind).cls yX11_blind yX11_blind ∈ gw := tbt (tb4 (List.mem_of_getElem? (i := 135) rfl)) rfl
theorem ci_X11_blind : CIv yX11_blind cX11_blind 6 (some .int) 1 := ⟨qc_X11_blind, qi_yX11_blind, qs_X11_blind, qz_X11, by decide +kernel⟩
theorem qm_L_122 : Cond.methodLink RL 122 yX11_blind ∈ gw := tbt (tb4 (List.mem_of_getElem? (i := 133) rfl)) rfl
theorem qc_X12_blind : Cond.code yX12_blind cX12_blind 6 (some .int) ∈ gw := tbt (tb7 (List.mem_of_getElem? (i := 208) rfl)) rfl
theorem qi_yX12_blind : Cond.instanceMethod yX12_blind ∈ gw := tbt (tb7 (List.mem_of_getElem? (i := 206) rfl)) rfl
theorem qs_X12_blind : Cond.selects (yX12_blind).cls yX12_blind yX12_blind ∈ gw := tbt (tb7 (List.mem_of_getElem? (i := 207) rfl)) rfl
theorem ci_X12_blind : CIv yX12_blind cX12_blind 6 (some .int) 1 := ⟨qc_X12_blind, qi_yX12_blind, qs_X12_blind, qz_X12, by decide +kernel⟩
theorem qm_L_125 : Cond.methodLink RL 125 yX12_blind ∈ gw := tbt (tb7 (List.mem_of_getElem? (i := 205) rfl)) rfl
theorem qc_X11_closest : Cond.code yX11_closest cX11_closest 6 (some .int) ∈ gw := tbt (tb4 (List.mem_of_getElem? (i := 143) rfl)) rfl
theorem qi_yX11_closest : Cond.instanceMethod yX11_closest ∈ gw := tbt (tb4 (List.mem_of_getElem? (i := 141) rfl)) rfl
theorem qs_X11_closest : Cond.selects (yX11_closest).cls yX11_closest yX11_closest ∈ gw := tbt (tb4 (List.mem_of_getElem? (i := 142) rfl)) rfl
theorem ci_X11_closest : CIv yX11_closest cX11_closest 6 (some .int) 4 := ⟨qc_X11_closest, qi_yX11_closest, qs_X11_closest, qz_X11, by decide +kernel⟩
theorem qm_L_126 : Cond.methodLink RL 126 yX11_closest ∈ gw := tbt (tb4 (List.mem_of_getElem? (i := 140) rfl)) rfl
theorem qc_X12_closest : Cond.code yX12_closest cX12_closest 6 (some .int) ∈ gw := tbt (tb7 (List.mem_of_getElem? (i := 192) rfl)) rfl
theorem qi_yX12_closest : Cond.instanceMethod yX12_closest ∈ gw := tbt (tb7 (List.mem_of_getElem? (i := 190) rfl)) rfl
theorem qs_X12_closest : Cond.selects (yX12_closest).cls yX12_closest yX12_closest ∈ gw := tbt (tb7 (List.mem_of_getElem? (i := 191) rfl)) rfl
theorem ci_X12_closest : CIv yX12_closest cX12_closest 6 (some .int) 4 := ⟨qc_X12_closest, qi_yX12_closest, qs_X12_closest, qz_X12, by decide +kernel⟩
theorem qm_L_129 : Cond.methodLink RL 129 yX12_closest ∈ gw := tbt (tb7 (List.mem_of_getElem? (i := 189) rfl)) rfl
theorem qc_X11_knows : Cond.code yX11_knows cX11_knows 4 (some .int) ∈ gw := tbt (tb4 (List.mem_of_getElem? (i := 147) rfl)) rfl
theorem qi_yX11_knows : Cond.instanceMethod yX11_knows ∈ gw := tbt (tb4 (List.mem_of_getElem? (i := 145) rfl)) rfl
theorem qs_X11_knows : Cond.selects (yX11_knows).cls yX11_knows yX11_knows ∈ gw := tbt (tb4 (List.mem_of_getElem? (i := 146) rfl)) rfl
theorem ci_X11_knows : CIv yX11_knows cX11_knows 4 (some .int) 3 := ⟨qc_X11_knows, qi_yX11_knows, qs_X11_knows, qz_X11, by decide +kernel⟩
theorem qm_L_130 : Cond.methodLink RL 130 yX11_knows ∈ gw := tbt (tb4 (List.mem_of_getElem? (i := 144) rfl)) rfl
theorem qc_X12_knows : Cond.code yX12_knows cX12_knows 4 (some .int) ∈ gw := tbt (tb7 (List.mem_of_getElem? (i := 212) rfl)) rfl
theorem qi_yX12_knows : Cond.instanceMethod yX12_knows ∈ gw := tbt (tb7 (List.mem_of_getElem? (i := 210) rfl)) rfl
theorem qs_X12_knows : Cond.selects (yX12_knows).cls yX12_knows yX12_knows ∈ gw := tbt (tb7 (List.mem_of_getElem? (i := 211) rfl)) rfl
theorem ci_X12_knows : CIv yX12_knows cX12_knows 4 (some .int) 3 := ⟨qc_X12_knows, qi_yX12_knows, qs_X12_knows, qz_X12, by decide +kernel⟩
theorem qm_L_133 : Cond.methodLink RL 133 yX12_knows ∈ gw := tbt (tb7 (List.mem_of_getElem? (i := 209) rfl)) rfl
theorem qc_X11_teller : Cond.code yX11_teller cX11_teller 4 (some .int) ∈ gw := tbt (tb4 (List.mem_of_getElem? (i := 169) rfl)) rfl
theorem qi_yX11_teller : Cond.instanceMethod yX11_teller ∈ gw := tbt (tb4 (List.mem_of_getElem? (i := 167) rfl)) rfl
theorem qs_X11_teller : Cond.selects (yX11_teller).cls yX11_teller yX11_teller ∈ gw := tbt (tb4 (List.mem_of_getElem? (i := 168) rfl)) rfl
theorem ci_X11_teller : CIv yX11_teller cX11_teller 4 (some .int) 3 := ⟨qc_X11_teller, qi_yX11_teller, qs_X11_teller, qz_X11, by decide +kernel⟩
theorem qm_L_134 : Cond.methodLink RL 134 yX11_teller ∈ gw := tbt (tb4 (List.mem_of_getElem? (i := 166) rfl)) rfl
theorem qc_X12_teller : Cond.code yX12_teller cX12_teller 4 (some .int) ∈ gw := tbt (tb7 (List.mem_of_getElem? (i := 224) rfl)) rfl
theorem qi_yX12_teller : Cond.instanceMethod yX12_teller ∈ gw := tbt (tb7 (List.mem_of_getElem? (i := 222) rfl)) rfl
theorem qs_X12_teller : Cond.selects (yX12_teller).cls yX12_teller yX12_teller ∈ gw := tbt (tb7 (List.mem_of_getElem? (i := 223) rfl)) rfl
theorem ci_X12_teller : CIv yX12_teller cX12_teller 4 (some .int) 3 := ⟨qc_X12_teller, qi_yX12_teller, qs_X12_teller, qz_X12, by decide +kernel⟩
theorem qm_L_137 : Cond.methodLink RL 137 yX12_teller ∈ gw := tbt (tb7 (List.mem_of_getElem? (i := 221) rfl)) rfl
theorem qc_X11_hops : Cond.code yX11_hops cX11_hops 4 (some .int) ∈ gw := tbt (tb4 (List.mem_of_getElem? (i := 173) rfl)) rfl
theorem qi_yX11_hops : Cond.instanceMethod yX11_hops ∈ gw := tbt (tb4 (List.mem_of_getElem? (i := 171) rfl)) rfl
theorem qs_X11_hops : Cond.selects (yX11_hops).cls yX11_hops yX11_hops ∈ gw := tbt (tb4 (List.mem_of_getElem? (i := 172) rfl)) rfl
theorem ci_X11_hops : CIv yX11_hops cX11_hops 4 (some .int) 3 := ⟨qc_X11_hops, qi_yX11_hops, qs_X11_hops, qz_X11, by decide +kernel⟩
theorem qm_L_138 : Cond.methodLink RL 138 yX11_hops ∈ gw := tbt (tb4 (List.mem_of_getElem? (i := 170) rfl)) rfl
theorem qc_X12_hops : Cond.code yX12_hops cX12_hops 4 (some .int) ∈ gw := tbt (tb7 (List.mem_of_getElem? (i := 228) rfl)) rfl
theorem qi_yX12_hops : Cond.instanceMethod yX12_hops ∈ gw := tbt (tb7 (List.mem_of_getElem? (i := 226) rfl)) rfl
theorem qs_X12_hops : Cond.selects (yX12_hops).cls yX12_hops yX12_hops ∈ gw := tbt (tb7 (List.mem_of_getElem? (i := 227) rfl)) rfl
theorem ci_X12_hops : CIv yX12_hops cX12_hops 4 (some .int) 3 := ⟨qc_X12_hops, qi_yX12_hops, qs_X12_hops, qz_X12, by decide +kernel⟩
theorem qm_L_141 : Cond.methodLink RL 141 yX12_hops ∈ gw := tbt (tb7 (List.mem_of_getElem? (i := 225) rfl)) rfl
theorem qc_X11_knowing : Cond.code yX11_knowing cX11_knowing 6 (some .int) ∈ gw := tbt (tb4 (List.mem_of_getElem? (i := 177) rfl)) rfl
theorem qi_yX11_knowing : Cond.instanceMethod yX11_knowing ∈ gw := tbt (tb4 (List.mem_of_getElem? (i := 175) rfl)) rfl
theorem qs_X11_knowing : Cond.selects (yX11_knowing).cls yX11_knowing yX11_knowing ∈ gw := tbt (tb4 (List.mem_of_getElem? (i := 176) rfl)) rfl
theorem ci_X11_knowing : CIv yX11_knowing cX11_knowing 6 (some .int) 3 := ⟨qc_X11_knowing, qi_yX11_knowing, qs_X11_knowing, qz_X11, by decide +kernel⟩
theorem qm_L_142 : Cond.methodLink RL 142 yX11_knowing ∈ gw := tbt (tb4 (List.mem_of_getElem? (i := 174) rfl)) rfl
theorem qc_X12_knowing : Cond.code yX12_knowing cX12_knowing 4 (some .int) ∈ gw := tbt (tb7 (List.mem_of_getElem? (i := 232) rfl)) rfl
theorem qi_yX12_knowing : Cond.instanceMethod yX12_knowing ∈ gw := tbt (tb7 (List.mem_of_getElem? (i := 230) rfl)) rfl
theorem qs_X12_knowing : Cond.selects (yX12_knowing).cls yX12_knowing yX12_knowing ∈ gw := tbt (tb7 (List.mem_of_getElem? (i := 231) rfl)) rfl
theorem ci_X12_knowing : CIv yX12_knowing cX12_knowing 4 (some .int) 3 := ⟨qc_X12_knowing, qi_yX12_knowing, qs_X12_knowing, qz_X12, by decide +kernel⟩
theorem qm_L_145 : Cond.methodLink RL 145 yX12_knowing ∈ gw := tbt (tb7 (List.mem_of_getElem? (i := 229) rfl)) rfl
theorem qc_X11_overtaken : Cond.code yX11_overtaken cX11_overtaken 6 (some .int) ∈ gw := tbt (tb4 (List.mem_of_getElem? (i := 181) rfl)) rfl
theorem qi_yX11_overtaken : Cond.instanceMethod yX11_overtaken ∈ gw := tbt (tb4 (List.mem_of_getElem? (i := 179) rfl)) rfl
theorem qs_X11_overtaken : Cond.selects (yX11_overtaken).cls yX11_overtaken yX11_overtaken ∈ gw := tbt (tb4 (List.mem_of_getElem? (i := 180) rfl)) rfl
theorem ci_X11_overtaken : CIv yX11_overtaken cX11_overtaken 6 (some .int) 2 := ⟨qc_X11_overtaken, qi_yX11_overtaken, qs_X11_overtaken, qz_X11, by decide +kernel⟩
theorem qm_L_146 : Cond.methodLink RL 146 yX11_overtaken ∈ gw := tbt (tb4 (List.mem_of_getElem? (i := 178) rfl)) rfl
theorem qc_X12_overtaken : Cond.code yX12_overtaken cX12_overtaken 5 (some .int) ∈ gw := tbt (tb8 (List.mem_of_getElem? (i := 0) rfl)) rfl
theorem qi_yX12_overtaken : Cond.instanceMethod yX12_overtaken ∈ gw := tbt (tb7 (List.mem_of_getElem? (i := 238) rfl)) rfl
theorem qs_X12_overtaken : Cond.selects (yX12_overtaken).cls yX12_overtaken yX12_overtaken ∈ gw := tbt (tb7 (List.mem_of_getElem? (i := 239) rfl)) rfl
theorem ci_X12_overtaken : CIv yX12_overtaken cX12_overtaken 5 (some .int) 2 := ⟨qc_X12_overtaken, qi_yX12_overtaken, qs_X12_overtaken, qz_X12, by decide +kernel⟩
theorem qm_L_149 : Cond.methodLink RL 149 yX12_overtaken ∈ gw := tbt (tb7 (List.mem_of_getElem? (i := 237) rfl)) rfl
theorem qc_X11_early : Cond.code yX11_early cX11_early 8 (some .int) ∈ gw := tbt (tb4 (List.mem_of_getElem? (i := 185) rfl)) rfl
theorem qi_yX11_early : Cond.instanceMethod yX11_early ∈ gw := tbt (tb4 (List.mem_of_getElem? (i := 183) rfl)) rfl
theorem qs_X11_early : Cond.selects (yX11_early).cls yX11_early yX11_early ∈ gw := tbt (tb4 (List.mem_of_getElem? (i := 184) rfl)) rfl
theorem ci_X11_early : CIv yX11_early cX11_early 8 (some .int) 3 := ⟨qc_X11_early, qi_yX11_early, qs_X11_early, qz_X11, by decide +kernel⟩
theorem qm_L_150 : Cond.methodLink RL 150 yX11_early ∈ gw := tbt (tb4 (List.mem_of_getElem? (i := 182) rfl)) rfl
theorem qc_X12_early : Cond.code yX12_early cX12_early 6 (some .int) ∈ gw := tbt (tb8 (List.mem_of_getElem? (i := 4) rfl)) rfl
theorem qi_yX12_early : Cond.instanceMethod yX12_early ∈ gw := tbt (tb8 (List.mem_of_getElem? (i := 2) rfl)) rfl
theorem qs_X12_early : Cond.selects (yX12_early).cls yX12_early yX12_early ∈ gw := tbt (tb8 (List.mem_of_getElem? (i := 3) rfl)) rfl
theorem ci_X12_early : CIv yX12_early cX12_early 6 (some .int) 3 := ⟨qc_X12_early, qi_yX12_early, qs_X12_early, qz_X12, by decide +kernel⟩
theorem qm_L_153 : Cond.methodLink RL 153 yX12_early ∈ gw := tbt (tb8 (List.mem_of_getElem? (i := 1) rfl)) rfl
theorem dL_law_1226 : decode cL_law 1226 = .ok (.aload_n 1, 1) := fq1_43 (fl_19 (j := 10) rfl rfl)
theorem dL_law_1227 : decode cL_law 1227 = .ok (.aload_n 0, 1) := fq1_42 (fl_19 (j := 11) rfl rfl)
theorem dL_law_1228 : decode cL_law 1228 = .ok (.iload_n 3, 1) := fq1_29 (fl_19 (j := 12) rfl rfl)
theorem dL_law_1229 : decode cL_law 1229 = .ok (.iconst 1, 1) := fq1_4 (fl_19 (j := 13) rfl rfl)
theorem dL_law_1230 : decode cL_law 1230 = .ok (.iadd, 1) := fq1_96 (fl_19 (j := 14) rfl rfl)
theorem dL_law_1231 : decode cL_law 1231 = .ok (.iaload, 1) := fq1_46 (fl_19 (j := 15) rfl rfl)
theorem dL_law_1232 : decode cL_law 1232 = .ok (.invokevirtual 122, 3) := fq3_182 (fl_19 (j := 16) rfl rfl) (fl_19 (j := 17) rfl rfl) (fl_19 (j := 18) rfl rfl) (by decide)
theorem dL_law_1235 : decode cL_law 1235 = .ok (.pop, 1) := fq1_87 (fl_19 (j := 19) rfl rfl)
theorem dL_law_1236 : decode cL_law 1236 = .ok (.aload_n 2, 1) := fq1_44 (fl_19 (j := 20) rfl rfl)
theorem dL_law_1237 : decode cL_law 1237 = .ok (.aload_n 0, 1) := fq1_42 (fl_19 (j := 21) rfl rfl)
theorem dL_law_1238 : decode cL_law 1238 = .ok (.iload_n 3, 1) := fq1_29 (fl_19 (j := 22) rfl rfl)
theorem dL_law_1239 : decode cL_law 1239 = .ok (.iconst 1, 1) := fq1_4 (fl_19 (j := 23) rfl rfl)
theorem dL_law_1240 : decode cL_law 1240 = .ok (.iadd, 1) := fq1_96 (fl_19 (j := 24) rfl rfl)
theorem dL_law_1241 : decode cL_law 1241 = .ok (.iaload, 1) := fq1_46 (fl_19 (j := 25) rfl rfl)
theorem dL_law_1242 : decode cL_law 1242 = .ok (.invokevirtual 125, 3) := fq3_182 (fl_19 (j := 26) rfl rfl) (fl_19 (j := 27) rfl rfl) (fl_19 (j := 28) rfl rfl) (by decide)
theorem dL_law_1245 : decode cL_law 1245 = .ok (.pop, 1) := fq1_87 (fl_19 (j := 29) rfl rfl)
theorem dL_law_1246 : decode cL_law 1246 = .ok (.goto 1600, 3) := fq3_167 (fl_19 (j := 30) rfl rfl) (fl_19 (j := 31) rfl rfl) (fl_19 (j := 32) rfl rfl) (by decide)
theorem dL_law_1249 : decode cL_law 1249 = .ok (.aload_n 1, 1) := fq1_43 (fl_19 (j := 33) rfl rfl)
theorem dL_law_1250 : decode cL_law 1250 = .ok (.aload_n 0, 1) := fq1_42 (fl_19 (j := 34) rfl rfl)
theorem dL_law_1251 : decode cL_law 1251 = .ok (.iload_n 3, 1) := fq1_29 (fl_19 (j := 35) rfl rfl)
theorem dL_law_1252 : decode cL_law 1252 = .ok (.iconst 1, 1) := fq1_4 (fl_19 (j := 36) rfl rfl)
theorem dL_law_1253 : decode cL_law 1253 = .ok (.iadd, 1) := fq1_96 (fl_19 (j := 37) rfl rfl)
theorem dL_law_1254 : decode cL_law 1254 = .ok (.iaload, 1) := fq1_46 (fl_19 (j := 38) rfl rfl)
theorem dL_law_1255 : decode cL_law 1255 = .ok (.aload_n 0, 1) := fq1_42 (fl_19 (j := 39) rfl rfl)
theorem dL_law_1256 : decode cL_law 1256 = .ok (.iload_n 3, 1) := fq1_29 (fl_19 (j := 40) rfl rfl)
theorem dL_law_1257 : decode cL_law 1257 = .ok (.iconst 2, 1) := fq1_5 (fl_19 (j := 41) rfl rfl)
theorem dL_law_1258 : decode cL_law 1258 = .ok (.iadd, 1) := fq1_96 (fl_19 (j := 42) rfl rfl)
theorem dL_law_1259 : decode cL_law 1259 = .ok (.iaload, 1) := fq1_46 (fl_19 (j := 43) rfl rfl)
theorem dL_law_1260 : decode cL_law 1260 = .ok (.aload_n 0, 1) := fq1_42 (fl_19 (j := 44) rfl rfl)
theorem dL_law_1261 : decode cL_law 1261 = .ok (.iload_n 3, 1) := fq1_29 (fl_19 (j := 45) rfl rfl)
theorem dL_law_1262 : decode cL_law 1262 = .ok (.iconst 3, 1) := fq1_6 (fl_19 (j := 46) rfl rfl)
theorem dL_law_1263 : decode cL_law 1263 = .ok (.iadd, 1) := fq1_96 (fl_19 (j := 47) rfl rfl)
theorem dL_law_1264 : decode cL_law 1264 = .ok (.iaload, 1) := fq1_46 (fl_19 (j := 48) rfl rfl)
theorem dL_law_1265 : decode cL_law 1265 = .ok (.aload_n 0, 1) := fq1_42 (fl_19 (j := 49) rfl rfl)
theorem dL_law_1266 : decode cL_law 1266 = .ok (.iload_n 3, 1) := fq1_29 (fl_19 (j := 50) rfl rfl)
theorem dL_law_1267 : decode cL_law 1267 = .ok (.iconst 4, 1) := fq1_7 (fl_19 (j := 51) rfl rfl)
theorem dL_law_1268 : decode cL_law 1268 = .ok (.iadd, 1) := fq1_96 (fl_19 (j := 52) rfl rfl)
theorem dL_law_1269 : decode cL_law 1269 = .ok (.iaload, 1) := fq1_46 (fl_19 (j := 53) rfl rfl)
theorem dL_law_1270 : decode cL_law 1270 = .ok (.invokevirtual 126, 3) := fq3_182 (fl_19 (j := 54) rfl rfl) (fl_19 (j := 55) rfl rfl) (fl_19 (j := 56) rfl rfl) (by decide)
theorem dL_law_1273 : decode cL_law 1273 = .ok (.pop, 1) := fq1_87 (fl_19 (j := 57) rfl rfl)
theorem dL_law_1274 : decode cL_law 1274 = .ok (.aload_n 2, 1) := fq1_44 (fl_19 (j := 58) rfl rfl)
theorem dL_law_1275 : decode cL_law 1275 = .ok (.aload_n 0, 1) := fq1_42 (fl_19 (j := 59) rfl rfl)
theorem dL_law_1276 : decode cL_law 1276 = .ok (.iload_n 3, 1) := fq1_29 (fl_19 (j := 60) rfl rfl)
theorem dL_law_1277 : decode cL_law 1277 = .ok (.iconst 1, 1) := fq1_4 (fl_19 (j := 61) rfl rfl)
theorem dL_law_1278 : decode cL_law 1278 = .ok (.iadd, 1) := fq1_96 (fl_19 (j := 62) rfl rfl)
theorem dL_law_1279 : decode cL_law 1279 = .ok (.iaload, 1) := fq1_46 (fl_19 (j := 63) rfl rfl)
theorem dL_law_1280 : decode cL_law 1280 = .ok (.aload_n 0, 1) := fq1_42 (fl_20 (j := 0) rfl rfl)
theorem dL_law_1281 : decode cL_law 1281 = .ok (.iload_n 3, 1) := fq1_29 (fl_20 (j := 1) rfl rfl)
theorem dL_law_1282 : decode cL_law 1282 = .ok (.iconst 2, 1) := fq1_5 (fl_20 (j := 2) rfl rfl)
theorem dL_law_1283 : decode cL_law 1283 = .ok (.iadd, 1) := fq1_96 (fl_20 (j := 3) rfl rfl)
theorem dL_law_1284 : decode cL_law 1284 = .ok (.iaload, 1) := fq1_46 (fl_20 (j := 4) rfl rfl)
theorem dL_law_1285 : decode cL_law 1285 = .ok (.aload_n 0, 1) := fq1_42 (fl_20 (j := 5) rfl rfl)
theorem dL_law_1286 : decode cL_law 1286 = .ok (.iload_n 3, 1) := fq1_29 (fl_20 (j := 6) rfl rfl)
theorem dL_law_1287 : decode cL_law 1287 = .ok (.iconst 3, 1) := fq1_6 (fl_20 (j := 7) rfl rfl)
theorem dL_law_1288 : decode cL_law 1288 = .ok (.iadd, 1) := fq1_96 (fl_20 (j := 8) rfl rfl)
theorem dL_law_1289 : decode cL_law 1289 = .ok (.iaload, 1) := fq1_46 (fl_20 (j := 9) rfl rfl)
theorem dL_law_1290 : decode cL_law 1290 = .ok (.aload_n 0, 1) := fq1_42 (fl_20 (j := 10) rfl rfl)
theorem dL_law_1291 : decode cL_law 1291 = .ok (.iload_n 3, 1) := fq1_29 (fl_20 (j := 11) rfl rfl)
theorem dL_law_1292 : decode cL_law 1292 = .ok (.iconst 4, 1) := fq1_7 (fl_20 (j := 12) rfl rfl)
theorem dL_law_1293 : decode cL_law 1293 = .ok (.iadd, 1) := fq1_96 (fl_20 (j := 13) rfl rfl)
theorem dL_law_1294 : decode cL_law 1294 = .ok (.iaload, 1) := fq1_46 (fl_20 (j := 14) rfl rfl)
theorem dL_law_1295 : decode cL_law 1295 = .ok (.invokevirtual 129, 3) := fq3_182 (fl_20 (j := 15) rfl rfl) (fl_20 (j := 16) rfl rfl) (fl_20 (j := 17) rfl rfl) (by decide)
theorem dL_law_1298 : decode cL_law 1298 = .ok (.pop, 1) := fq1_87 (fl_20 (j := 18) rfl rfl)
theorem dL_law_1299 : decode cL_law 1299 = .ok (.goto 1547, 3) := fq3_167 (fl_20 (j := 19) rfl rfl) (fl_20 (j := 20) rfl rfl) (fl_20 (j := 21) rfl rfl) (by decide)
theorem dL_law_1302 : decode cL_law 1302 = .ok (.aload_n 1, 1) := fq1_43 (fl_20 (j := 22) rfl rfl)
theorem dL_law_1303 : decode cL_law 1303 = .ok (.aload_n 0, 1) := fq1_42 (fl_20 (j := 23) rfl rfl)
theorem dL_law_1304 : decode cL_law 1304 = .ok (.iload_n 3, 1) := fq1_29 (fl_20 (j := 24) rfl rfl)
theorem dL_law_1305 : decode cL_law 1305 = .ok (.iconst 1, 1) := fq1_4 (fl_20 (j := 25) rfl rfl)
theorem dL_law_1306 : decode cL_law 1306 = .ok (.iadd, 1) := fq1_96 (fl_20 (j := 26) rfl rfl)
theorem dL_law_1307 : decode cL_law 1307 = .ok (.iaload, 1) := fq1_46 (fl_20 (j := 27) rfl rfl)
theorem dL_law_1308 : decode cL_law 1308 = .ok (.aload_n 0, 1) := fq1_42 (fl_20 (j := 28) rfl rfl)
theorem dL_law_1309 : decode cL_law 1309 = .ok (.iload_n 3, 1) := fq1_29 (fl_20 (j := 29) rfl rfl)
theorem dL_law_1310 : decode cL_law 1310 = .ok (.iconst 2, 1) := fq1_5 (fl_20 (j := 30) rfl rfl)
theorem dL_law_1311 : decode cL_law 1311 = .ok (.iadd, 1) := fq1_96 (fl_20 (j := 31) rfl rfl)
theorem dL_law_1312 : decode cL_law 1312 = .ok (.iaload, 1) := fq1_46 (fl_20 (j := 32) rfl rfl)
theorem dL_law_1313 : decode cL_law 1313 = .ok (.aload_n 0, 1) := fq1_42 (fl_20 (j := 33) rfl rfl)
theorem dL_law_1314 : decode cL_law 1314 = .ok (.iload_n 3, 1) := fq1_29 (fl_20 (j := 34) rfl rfl)
theorem dL_law_1315 : decode cL_law 1315 = .ok (.iconst 3, 1) := fq1_6 (fl_20 (j := 35) rfl rfl)
theorem dL_law_1316 : decode cL_law 1316 = .ok (.iadd, 1) := fq1_96 (fl_20 (j := 36) rfl rfl)
theorem dL_law_1317 : decode cL_law 1317 = .ok (.iaload, 1) := fq1_46 (fl_20 (j := 37) rfl rfl)
theorem dL_law_1318 : decode cL_law 1318 = .ok (.invokevirtual 130, 3) := fq3_182 (fl_20 (j := 38) rfl rfl) (fl_20 (j := 39) rfl rfl) (fl_20 (j := 40) rfl rfl) (by decide)
theorem dL_law_1321 : decode cL_law 1321 = .ok (.pop, 1) := fq1_87 (fl_20 (j := 41) rfl rfl)
theorem dL_law_1322 : decode cL_law 1322 = .ok (.aload_n 2, 1) := fq1_44 (fl_20 (j := 42) rfl rfl)
theorem dL_law_1323 : decode cL_law 1323 = .ok (.aload_n 0, 1) := fq1_42 (fl_20 (j := 43) rfl rfl)
theorem dL_law_1324 : decode cL_law 1324 = .ok (.iload_n 3, 1) := fq1_29 (fl_20 (j := 44) rfl rfl)
theorem dL_law_1325 : decode cL_law 1325 = .ok (.iconst 1, 1) := fq1_4 (fl_20 (j := 45) rfl rfl)
theorem dL_law_1326 : decode cL_law 1326 = .ok (.iadd, 1) := fq1_96 (fl_20 (j := 46) rfl rfl)
theorem dL_law_1327 : decode cL_law 1327 = .ok (.iaload, 1) := fq1_46 (fl_20 (j := 47) rfl rfl)
theorem dL_law_1328 : decode cL_law 1328 = .ok (.aload_n 0, 1) := fq1_42 (fl_20 (j := 48) rfl rfl)
theorem dL_law_1329 : decode cL_law 1329 = .ok (.iload_n 3, 1) := fq1_29 (fl_20 (j := 49) rfl rfl)
theorem dL_law_1330 : decode cL_law 1330 = .ok (.iconst 2, 1) := fq1_5 (fl_20 (j := 50) rfl rfl)
theorem dL_law_1331 : decode cL_law 1331 = .ok (.iadd, 1) := fq1_96 (fl_20 (j := 51) rfl rfl)
theorem dL_law_1332 : decode cL_law 1332 = .ok (.iaload, 1) := fq1_46 (fl_20 (j := 52) rfl rfl)
theorem dL_law_1333 : decode cL_law 1333 = .ok (.aload_n 0, 1) := fq1_42 (fl_20 (j := 53) rfl rfl)
theorem dL_law_1334 : decode cL_law 1334 = .ok (.iload_n 3, 1) := fq1_29 (fl_20 (j := 54) rfl rfl)
theorem dL_law_1335 : decode cL_law 1335 = .ok (.iconst 3, 1) := fq1_6 (fl_20 (j := 55) rfl rfl)
theorem dL_law_1336 : decode cL_law 1336 = .ok (.iadd, 1) := fq1_96 (fl_20 (j := 56) rfl rfl)
theorem dL_law_1337 : decode cL_law 1337 = .ok (.iaload, 1) := fq1_46 (fl_20 (j := 57) rfl rfl)
theorem dL_law_1338 : decode cL_law 1338 = .ok (.invokevirtual 133, 3) := fq3_182 (fl_20 (j := 58) rfl rfl) (fl_20 (j := 59) rfl rfl) (fl_20 (j := 60) rfl rfl) (by decide)
theorem dL_law_1341 : decode cL_law 1341 = .ok (.pop, 1) := fq1_87 (fl_20 (j := 61) rfl rfl)
theorem dL_law_1342 : decode cL_law 1342 = .ok (.goto 1504, 3) := fq3_167 (fl_20 (j := 62) rfl rfl) (fl_20 (j := 63) rfl rfl) (fl_21 (j := 0) rfl rfl) (by decide)
theorem dL_law_1345 : decode cL_law 1345 = .ok (.aload_n 1, 1) := fq1_43 (fl_21 (j := 1) rfl rfl)
theorem dL_law_1346 : decode cL_law 1346 = .ok (.aload_n 0, 1) := fq1_42 (fl_21 (j := 2) rfl rfl)
theorem dL_law_1347 : decode cL_law 1347 = .ok (.iload_n 3, 1) := fq1_29 (fl_21 (j := 3) rfl rfl)
theorem dL_law_1348 : decode cL_law 1348 = .ok (.iconst 1, 1) := fq1_4 (fl_21 (j := 4) rfl rfl)
theorem dL_law_1349 : decode cL_law 1349 = .ok (.iadd, 1) := fq1_96 (fl_21 (j := 5) rfl rfl)
theorem dL_law_1350 : decode cL_law 1350 = .ok (.iaload, 1) := fq1_46 (fl_21 (j := 6) rfl rfl)
theorem dL_law_1351 : decode cL_law 1351 = .ok (.aload_n 0, 1) := fq1_42 (fl_21 (j := 7) rfl rfl)
theorem dL_law_1352 : decode cL_law 1352 = .ok (.iload_n 3, 1) := fq1_29 (fl_21 (j := 8) rfl rfl)
theorem dL_law_1353 : decode cL_law 1353 = .ok (.iconst 2, 1) := fq1_5 (fl_21 (j := 9) rfl rfl)
theorem dL_law_1354 : decode cL_law 1354 = .ok (.iadd, 1) := fq1_96 (fl_21 (j := 10) rfl rfl)
theorem dL_law_1355 : decode cL_law 1355 = .ok (.iaload, 1) := fq1_46 (fl_21 (j := 11) rfl rfl)
theorem dL_law_1356 : decode cL_law 1356 = .ok (.aload_n 0, 1) := fq1_42 (fl_21 (j := 12) rfl rfl)
theorem dL_law_1357 : decode cL_law 1357 = .ok (.iload_n 3, 1) := fq1_29 (fl_21 (j := 13) rfl rfl)
theorem dL_law_1358 : decode cL_law 1358 = .ok (.iconst 3, 1) := fq1_6 (fl_21 (j := 14) rfl rfl)
theorem dL_law_1359 : decode cL_law 1359 = .ok (.iadd, 1) := fq1_96 (fl_21 (j := 15) rfl rfl)
theorem dL_law_1360 : decode cL_law 1360 = .ok (.iaload, 1) := fq1_46 (fl_21 (j := 16) rfl rfl)
theorem dL_law_1361 : decode cL_law 1361 = .ok (.invokevirtual 134, 3) := fq3_182 (fl_21 (j := 17) rfl rfl) (fl_21 (j := 18) rfl rfl) (fl_21 (j := 19) rfl rfl) (by decide)
theorem dL_law_1364 : decode cL_law 1364 = .ok (.pop, 1) := fq1_87 (fl_21 (j := 20) rfl rfl)
theorem dL_law_1365 : decode cL_law 1365 = .ok (.aload_n 2, 1) := fq1_44 (fl_21 (j := 21) rfl rfl)
theorem dL_law_1366 : decode cL_law 1366 = .ok (.aload_n 0, 1) := fq1_42 (fl_21 (j := 22) rfl rfl)
theorem dL_law_1367 : decode cL_law 1367 = .ok (.iload_n 3, 1) := fq1_29 (fl_21 (j := 23) rfl rfl)
theorem dL_law_1368 : decode cL_law 1368 = .ok (.iconst 1, 1) := fq1_4 (fl_21 (j := 24) rfl rfl)
theorem dL_law_1369 : decode cL_law 1369 = .ok (.iadd, 1) := fq1_96 (fl_21 (j := 25) rfl rfl)
theorem dL_law_1370 : decode cL_law 1370 = .ok (.iaload, 1) := fq1_46 (fl_21 (j := 26) rfl rfl)
theorem dL_law_1371 : decode cL_law 1371 = .ok (.aload_n 0, 1) := fq1_42 (fl_21 (j := 27) rfl rfl)
theorem dL_law_1372 : decode cL_law 1372 = .ok (.iload_n 3, 1) := fq1_29 (fl_21 (j := 28) rfl rfl)
theorem dL_law_1373 : decode cL_law 1373 = .ok (.iconst 2, 1) := fq1_5 (fl_21 (j := 29) rfl rfl)
theorem dL_law_1374 : decode cL_law 1374 = .ok (.iadd, 1) := fq1_96 (fl_21 (j := 30) rfl rfl)
theorem dL_law_1375 : decode cL_law 1375 = .ok (.iaload, 1) := fq1_46 (fl_21 (j := 31) rfl rfl)
theorem dL_law_1376 : decode cL_law 1376 = .ok (.aload_n 0, 1) := fq1_42 (fl_21 (j := 32) rfl rfl)
theorem dL_law_1377 : decode cL_law 1377 = .ok (.iload_n 3, 1) := fq1_29 (fl_21 (j := 33) rfl rfl)
theorem dL_law_1378 : decode cL_law 1378 = .ok (.iconst 3, 1) := fq1_6 (fl_21 (j := 34) rfl rfl)
theorem dL_law_1379 : decode cL_law 1379 = .ok (.iadd, 1) := fq1_96 (fl_21 (j := 35) rfl rfl)
theorem dL_law_1380 : decode cL_law 1380 = .ok (.iaload, 1) := fq1_46 (fl_21 (j := 36) rfl rfl)
theorem dL_law_1381 : decode cL_law 1381 = .ok (.invokevirtual 137, 3) := fq3_182 (fl_21 (j := 37) rfl rfl) (fl_21 (j := 38) rfl rfl) (fl_21 (j := 39) rfl rfl) (by decide)
theorem dL_law_1384 : decode cL_law 1384 = .ok (.pop, 1) := fq1_87 (fl_21 (j := 40) rfl rfl)
theorem dL_law_1385 : decode cL_law 1385 = .ok (.goto 1461, 3) := fq3_167 (fl_21 (j := 41) rfl rfl) (fl_21 (j := 42) rfl rfl) (fl_21 (j := 43) rfl rfl) (by decide)
theorem dL_law_1388 : decode cL_law 1388 = .ok (.aload_n 1, 1) := fq1_43 (fl_21 (j := 44) rfl rfl)
theorem dL_law_1389 : decode cL_law 1389 = .ok (.aload_n 0, 1) := fq1_42 (fl_21 (j := 45) rfl rfl)
theorem dL_law_1390 : decode cL_law 1390 = .ok (.iload_n 3, 1) := fq1_29 (fl_21 (j := 46) rfl rfl)
theorem dL_law_1391 : decode cL_law 1391 = .ok (.iconst 1, 1) := fq1_4 (fl_21 (j := 47) rfl rfl)
theorem dL_law_1392 : decode cL_law 1392 = .ok (.iadd, 1) := fq1_96 (fl_21 (j := 48) rfl rfl)
theorem dL_law_1393 : decode cL_law 1393 = .ok (.iaload, 1) := fq1_46 (fl_21 (j := 49) rfl rfl)
theorem dL_law_1394 : decode cL_law 1394 = .ok (.aload_n 0, 1) := fq1_42 (fl_21 (j := 50) rfl rfl)
theorem dL_law_1395 : decode cL_law 1395 = .ok (.iload_n 3, 1) := fq1_29 (fl_21 (j := 51) rfl rfl)
theorem dL_law_1396 : decode cL_law 1396 = .ok (.iconst 2, 1) := fq1_5 (fl_21 (j := 52) rfl rfl)
theorem dL_law_1397 : decode cL_law 1397 = .ok (.iadd, 1) := fq1_96 (fl_21 (j := 53) rfl rfl)
theorem dL_law_1398 : decode cL_law 1398 = .ok (.iaload, 1) := fq1_46 (fl_21 (j := 54) rfl rfl)
theorem dL_law_1399 : decode cL_law 1399 = .ok (.aload_n 0, 1) := fq1_42 (fl_21 (j := 55) rfl rfl)
theorem dL_law_1400 : decode cL_law 1400 = .ok (.iload_n 3, 1) := fq1_29 (fl_21 (j := 56) rfl rfl)
theorem dL_law_1401 : decode cL_law 1401 = .ok (.iconst 3, 1) := fq1_6 (fl_21 (j := 57) rfl rfl)
theorem dL_law_1402 : decode cL_law 1402 = .ok (.iadd, 1) := fq1_96 (fl_21 (j := 58) rfl rfl)
theorem dL_law_1403 : decode cL_law 1403 = .ok (.iaload, 1) := fq1_46 (fl_21 (j := 59) rfl rfl)
theorem dL_law_1404 : decode cL_law 1404 = .ok (.invokevirtual 138, 3) := fq3_182 (fl_21 (j := 60) rfl rfl) (fl_21 (j := 61) rfl rfl) (fl_21 (j := 62) rfl rfl) (by decide)
theorem dL_law_1407 : decode cL_law 1407 = .ok (.pop, 1) := fq1_87 (fl_21 (j := 63) rfl rfl)
theorem dL_law_1408 : decode cL_law 1408 = .ok (.aload_n 2, 1) := fq1_44 (fl_22 (j := 0) rfl rfl)
theorem dL_law_1409 : decode cL_law 1409 = .ok (.aload_n 0, 1) := fq1_42 (fl_22 (j := 1) rfl rfl)
theorem dL_law_1410 : decode cL_law 1410 = .ok (.iload_n 3, 1) := fq1_29 (fl_22 (j := 2) rfl rfl)
theorem dL_law_1411 : decode cL_law 1411 = .ok (.iconst 1, 1) := fq1_4 (fl_22 (j := 3) rfl rfl)
theorem dL_law_1412 : decode cL_law 1412 = .ok (.iadd, 1) := fq1_96 (fl_22 (j := 4) rfl rfl)
theorem dL_law_1413 : decode cL_law 1413 = .ok (.iaload, 1) := fq1_46 (fl_22 (j := 5) rfl rfl)
theorem dL_law_1414 : decode cL_law 1414 = .ok (.aload_n 0, 1) := fq1_42 (fl_22 (j := 6) rfl rfl)
theorem dL_law_1415 : decode cL_law 1415 = .ok (.iload_n 3, 1) := fq1_29 (fl_22 (j := 7) rfl rfl)
theorem dL_law_1416 : decode cL_law 1416 = .ok (.iconst 2, 1) := fq1_5 (fl_22 (j := 8) rfl rfl)
theorem dL_law_1417 : decode cL_law 1417 = .ok (.iadd, 1) := fq1_96 (fl_22 (j := 9) rfl rfl)
theorem dL_law_1418 : decode cL_law 1418 = .ok (.iaload, 1) := fq1_46 (fl_22 (j := 10) rfl rfl)
theorem dL_law_1419 : decode cL_law 1419 = .ok (.aload_n 0, 1) := fq1_42 (fl_22 (j := 11) rfl rfl)
theorem dL_law_1420 : decode cL_law 1420 = .ok (.iload_n 3, 1) := fq1_29 (fl_22 (j := 12) rfl rfl)
theorem dL_law_1421 : decode cL_law 1421 = .ok (.iconst 3, 1) := fq1_6 (fl_22 (j := 13) rfl rfl)
theorem dL_law_1422 : decode cL_law 1422 = .ok (.iadd, 1) := fq1_96 (fl_22 (j := 14) rfl rfl)
theorem dL_law_1423 : decode cL_law 1423 = .ok (.iaload, 1) := fq1_46 (fl_22 (j := 15) rfl rfl)
theorem dL_law_1424 : decode cL_law 1424 = .ok (.invokevirtual 141, 3) := fq3_182 (fl_22 (j := 16) rfl rfl) (fl_22 (j := 17) rfl rfl) (fl_22 (j := 18) rfl rfl) (by decide)
theorem dL_law_1427 : decode cL_law 1427 = .ok (.pop, 1) := fq1_87 (fl_22 (j := 19) rfl rfl)
theorem dL_law_1428 : decode cL_law 1428 = .ok (.goto 1418, 3) := fq3_167 (fl_22 (j := 20) rfl rfl) (fl_22 (j := 21) rfl rfl) (fl_22 (j := 22) rfl rfl) (by decide)
theorem dL_law_1431 : decode cL_law 1431 = .ok (.aload_n 1, 1) := fq1_43 (fl_22 (j := 23) rfl rfl)
theorem dL_law_1432 : decode cL_law 1432 = .ok (.aload_n 0, 1) := fq1_42 (fl_22 (j := 24) rfl rfl)
theorem dL_law_1433 : decode cL_law 1433 = .ok (.iload_n 3, 1) := fq1_29 (fl_22 (j := 25) rfl rfl)
theorem dL_law_1434 : decode cL_law 1434 = .ok (.iconst 1, 1) := fq1_4 (fl_22 (j := 26) rfl rfl)
theorem dL_law_1435 : decode cL_law 1435 = .ok (.iadd, 1) := fq1_96 (fl_22 (j := 27) rfl rfl)
theorem dL_law_1436 : decode cL_law 1436 = .ok (.iaload, 1) := fq1_46 (fl_22 (j := 28) rfl rfl)
theorem dL_law_1437 : decode cL_law 1437 = .ok (.aload_n 0, 1) := fq1_42 (fl_22 (j := 29) rfl rfl)
theorem dL_law_1438 : decode cL_law 1438 = .ok (.iload_n 3, 1) := fq1_29 (fl_22 (j := 30) rfl rfl)
theorem dL_law_1439 : decode cL_law 1439 = .ok (.iconst 2, 1) := fq1_5 (fl_22 (j := 31) rfl rfl)
theorem dL_law_1440 : decode cL_law 1440 = .ok (.iadd, 1) := fq1_96 (fl_22 (j := 32) rfl rfl)
theorem dL_law_1441 : decode cL_law 1441 = .ok (.iaload, 1) := fq1_46 (fl_22 (j := 33) rfl rfl)
theorem dL_law_1442 : decode cL_law 1442 = .ok (.aload_n 0, 1) := fq1_42 (fl_22 (j := 34) rfl rfl)
theorem dL_law_1443 : decode cL_law 1443 = .ok (.iload_n 3, 1) := fq1_29 (fl_22 (j := 35) rfl rfl)
theorem dL_law_1444 : decode cL_law 1444 = .ok (.iconst 3, 1) := fq1_6 (fl_22 (j := 36) rfl rfl)
theorem dL_law_1445 : decode cL_law 1445 = .ok (.iadd, 1) := fq1_96 (fl_22 (j := 37) rfl rfl)
theorem dL_law_1446 : decode cL_law 1446 = .ok (.iaload, 1) := fq1_46 (fl_22 (j := 38) rfl rfl)
theorem dL_law_1447 : decode cL_law 1447 = .ok (.invokevirtual 142, 3) := fq3_182 (fl_22 (j := 39) rfl rfl) (fl_22 (j := 40) rfl rfl) (fl_22 (j := 41) rfl rfl) (by decide)
theorem dL_law_1450 : decode cL_law 1450 = .ok (.pop, 1) := fq1_87 (fl_22 (j := 42) rfl rfl)
theorem dL_law_1451 : decode cL_law 1451 = .ok (.aload_n 2, 1) := fq1_44 (fl_22 (j := 43) rfl rfl)
theorem dL_law_1452 : decode cL_law 1452 = .ok (.aload_n 0, 1) := fq1_42 (fl_22 (j := 44) rfl rfl)
theorem dL_law_1453 : decode cL_law 1453 = .ok (.iload_n 3, 1) := fq1_29 (fl_22 (j := 45) rfl rfl)
theorem dL_law_1454 : decode cL_law 1454 = .ok (.iconst 1, 1) := fq1_4 (fl_22 (j := 46) rfl rfl)
theorem dL_law_1455 : decode cL_law 1455 = .ok (.iadd, 1) := fq1_96 (fl_22 (j := 47) rfl rfl)
theorem dL_law_1456 : decode cL_law 1456 = .ok (.iaload, 1) := fq1_46 (fl_22 (j := 48) rfl rfl)
theorem dL_law_1457 : decode cL_law 1457 = .ok (.aload_n 0, 1) := fq1_42 (fl_22 (j := 49) rfl rfl)
theorem dL_law_1458 : decode cL_law 1458 = .ok (.iload_n 3, 1) := fq1_29 (fl_22 (j := 50) rfl rfl)
theorem dL_law_1459 : decode cL_law 1459 = .ok (.iconst 2, 1) := fq1_5 (fl_22 (j := 51) rfl rfl)
theorem dL_law_1460 : decode cL_law 1460 = .ok (.iadd, 1) := fq1_96 (fl_22 (j := 52) rfl rfl)
theorem dL_law_1461 : decode cL_law 1461 = .ok (.iaload, 1) := fq1_46 (fl_22 (j := 53) rfl rfl)
theorem dL_law_1462 : decode cL_law 1462 = .ok (.aload_n 0, 1) := fq1_42 (fl_22 (j := 54) rfl rfl)
theorem dL_law_1463 : decode cL_law 1463 = .ok (.iload_n 3, 1) := fq1_29 (fl_22 (j := 55) rfl rfl)
theorem dL_law_1464 : decode cL_law 1464 = .ok (.iconst 3, 1) := fq1_6 (fl_22 (j := 56) rfl rfl)
theorem dL_law_1465 : decode cL_law 1465 = .ok (.iadd, 1) := fq1_96 (fl_22 (j := 57) rfl rfl)
theorem dL_law_1466 : decode cL_law 1466 = .ok (.iaload, 1) := fq1_46 (fl_22 (j := 58) rfl rfl)
theorem dL_law_1467 : decode cL_law 1467 = .ok (.invokevirtual 145, 3) := fq3_182 (fl_22 (j := 59) rfl rfl) (fl_22 (j := 60) rfl rfl) (fl_22 (j := 61) rfl rfl) (by decide)
theorem dL_law_1470 : decode cL_law 1470 = .ok (.pop, 1) := fq1_87 (fl_22 (j := 62) rfl rfl)
theorem dL_law_1471 : decode cL_law 1471 = .ok (.goto 1375, 3) := fq3_167 (fl_22 (j := 63) rfl rfl) (fl_23 (j := 0) rfl rfl) (fl_23 (j := 1) rfl rfl) (by decide)
theorem dL_law_1474 : decode cL_law 1474 = .ok (.aload_n 1, 1) := fq1_43 (fl_23 (j := 2) rfl rfl)
theorem dL_law_1475 : decode cL_law 1475 = .ok (.aload_n 0, 1) := fq1_42 (fl_23 (j := 3) rfl rfl)
theorem dL_law_1476 : decode cL_law 1476 = .ok (.iload_n 3, 1) := fq1_29 (fl_23 (j := 4) rfl rfl)
theorem dL_law_1477 : decode cL_law 1477 = .ok (.iconst 1, 1) := fq1_4 (fl_23 (j := 5) rfl rfl)
theorem dL_law_1478 : decode cL_law 1478 = .ok (.iadd, 1) := fq1_96 (fl_23 (j := 6) rfl rfl)
theorem dL_law_1479 : decode cL_law 1479 = .ok (.iaload, 1) := fq1_46 (fl_23 (j := 7) rfl rfl)
theorem dL_law_1480 : decode cL_law 1480 = .ok (.aload_n 0, 1) := fq1_42 (fl_23 (j := 8) rfl rfl)
theorem dL_law_1481 : decode cL_law 1481 = .ok (.iload_n 3, 1) := fq1_29 (fl_23 (j := 9) rfl rfl)
theorem dL_law_1482 : decode cL_law 1482 = .ok (.iconst 2, 1) := fq1_5 (fl_23 (j := 10) rfl rfl)
theorem dL_law_1483 : decode cL_law 1483 = .ok (.iadd, 1) := fq1_96 (fl_23 (j := 11) rfl rfl)
theorem dL_law_1484 : decode cL_law 1484 = .ok (.iaload, 1) := fq1_46 (fl_23 (j := 12) rfl rfl)
theorem dL_law_1485 : decode cL_law 1485 = .ok (.invokevirtual 146, 3) := fq3_182 (fl_23 (j := 13) rfl rfl) (fl_23 (j := 14) rfl rfl) (fl_23 (j := 15) rfl rfl) (by decide)
theorem dL_law_1488 : decode cL_law 1488 = .ok (.pop, 1) := fq1_87 (fl_23 (j := 16) rfl rfl)
theorem dL_law_1489 : decode cL_law 1489 = .ok (.aload_n 2, 1) := fq1_44 (fl_23 (j := 17) rfl rfl)
theorem dL_law_1490 : decode cL_law 1490 = .ok (.aload_n 0, 1) := fq1_42 (fl_23 (j := 18) rfl rfl)
theorem dL_law_1491 : decode cL_law 1491 = .ok (.iload_n 3, 1) := fq1_29 (fl_23 (j := 19) rfl rfl)
theorem dL_law_1492 : decode cL_law 1492 = .ok (.iconst 1, 1) := fq1_4 (fl_23 (j := 20) rfl rfl)
theorem dL_law_1493 : decode cL_law 1493 = .ok (.iadd, 1) := fq1_96 (fl_23 (j := 21) rfl rfl)
theorem dL_law_1494 : decode cL_law 1494 = .ok (.iaload, 1) := fq1_46 (fl_23 (j := 22) rfl rfl)
theorem dL_law_1495 : decode cL_law 1495 = .ok (.aload_n 0, 1) := fq1_42 (fl_23 (j := 23) rfl rfl)
theorem dL_law_1496 : decode cL_law 1496 = .ok (.iload_n 3, 1) := fq1_29 (fl_23 (j := 24) rfl rfl)
theorem dL_law_1497 : decode cL_law 1497 = .ok (.iconst 2, 1) := fq1_5 (fl_23 (j := 25) rfl rfl)
theorem dL_law_1498 : decode cL_law 1498 = .ok (.iadd, 1) := fq1_96 (fl_23 (j := 26) rfl rfl)
theorem dL_law_1499 : decode cL_law 1499 = .ok (.iaload, 1) := fq1_46 (fl_23 (j := 27) rfl rfl)
theorem dL_law_1500 : decode cL_law 1500 = .ok (.invokevirtual 149, 3) := fq3_182 (fl_23 (j := 28) rfl rfl) (fl_23 (j := 29) rfl rfl) (fl_23 (j := 30) rfl rfl) (by decide)
theorem dL_law_1503 : decode cL_law 1503 = .ok (.pop, 1) := fq1_87 (fl_23 (j := 31) rfl rfl)
theorem dL_law_1504 : decode cL_law 1504 = .ok (.goto 1342, 3) := fq3_167 (fl_23 (j := 32) rfl rfl) (fl_23 (j := 33) rfl rfl) (fl_23 (j := 34) rfl rfl) (by decide)
theorem dL_law_1507 : decode cL_law 1507 = .ok (.aload_n 1, 1) := fq1_43 (fl_23 (j := 35) rfl rfl)
theorem dL_law_1508 : decode cL_law 1508 = .ok (.aload_n 0, 1) := fq1_42 (fl_23 (j := 36) rfl rfl)
theorem dL_law_1509 : decode cL_law 1509 = .ok (.iload_n 3, 1) := fq1_29 (fl_23 (j := 37) rfl rfl)
theorem dL_law_1510 : decode cL_law 1510 = .ok (.iconst 1, 1) := fq1_4 (fl_23 (j := 38) rfl rfl)
theorem dL_law_1511 : decode cL_law 1511 = .ok (.iadd, 1) := fq1_96 (fl_23 (j := 39) rfl rfl)
theorem dL_law_1512 : decode cL_law 1512 = .ok (.iaload, 1) := fq1_46 (fl_23 (j := 40) rfl rfl)
theorem dL_law_1513 : decode cL_law 1513 = .ok (.aload_n 0, 1) := fq1_42 (fl_23 (j := 41) rfl rfl)
theorem dL_law_1514 : decode cL_law 1514 = .ok (.iload_n 3, 1) := fq1_29 (fl_23 (j := 42) rfl rfl)
theorem dL_law_1515 : decode cL_law 1515 = .ok (.iconst 2, 1) := fq1_5 (fl_23 (j := 43) rfl rfl)
theorem dL_law_1516 : decode cL_law 1516 = .ok (.iadd, 1) := fq1_96 (fl_23 (j := 44) rfl rfl)
theorem dL_law_1517 : decode cL_law 1517 = .ok (.iaload, 1) := fq1_46 (fl_23 (j := 45) rfl rfl)
theorem dL_law_1518 : decode cL_law 1518 = .ok (.aload_n 0, 1) := fq1_42 (fl_23 (j := 46) rfl rfl)
theorem dL_law_1519 : decode cL_law 1519 = .ok (.iload_n 3, 1) := fq1_29 (fl_23 (j := 47) rfl rfl)
theorem dL_law_1520 : decode cL_law 1520 = .ok (.iconst 3, 1) := fq1_6 (fl_23 (j := 48) rfl rfl)
theorem dL_law_1521 : decode cL_law 1521 = .ok (.iadd, 1) := fq1_96 (fl_23 (j := 49) rfl rfl)
theorem dL_law_1522 : decode cL_law 1522 = .ok (.iaload, 1) := fq1_46 (fl_23 (j := 50) rfl rfl)
theorem dL_law_1523 : decode cL_law 1523 = .ok (.invokevirtual 150, 3) := fq3_182 (fl_23 (j := 51) rfl rfl) (fl_23 (j := 52) rfl rfl) (fl_23 (j := 53) rfl rfl) (by decide)
theorem dL_law_1526 : decode cL_law 1526 = .ok (.pop, 1) := fq1_87 (fl_23 (j := 54) rfl rfl)
theorem dL_law_1527 : decode cL_law 1527 = .ok (.aload_n 2, 1) := fq1_44 (fl_23 (j := 55) rfl rfl)
theorem dL_law_1528 : decode cL_law 1528 = .ok (.aload_n 0, 1) := fq1_42 (fl_23 (j := 56) rfl rfl)
theorem dL_law_1529 : decode cL_law 1529 = .ok (.iload_n 3, 1) := fq1_29 (fl_23 (j := 57) rfl rfl)
theorem dL_law_1530 : decode cL_law 1530 = .ok (.iconst 1, 1) := fq1_4 (fl_23 (j := 58) rfl rfl)
theorem dL_law_1531 : decode cL_law 1531 = .ok (.iadd, 1) := fq1_96 (fl_23 (j := 59) rfl rfl)
theorem dL_law_1532 : decode cL_law 1532 = .ok (.iaload, 1) := fq1_46 (fl_23 (j := 60) rfl rfl)
theorem dL_law_1533 : decode cL_law 1533 = .ok (.aload_n 0, 1) := fq1_42 (fl_23 (j := 61) rfl rfl)
theorem dL_law_1534 : decode cL_law 1534 = .ok (.iload_n 3, 1) := fq1_29 (fl_23 (j := 62) rfl rfl)
theorem dL_law_1535 : decode cL_law 1535 = .ok (.iconst 2, 1) := fq1_5 (fl_23 (j := 63) rfl rfl)
theorem dL_law_1536 : decode cL_law 1536 = .ok (.iadd, 1) := fq1_96 (fl_24 (j := 0) rfl rfl)
theorem dL_law_1537 : decode cL_law 1537 = .ok (.iaload, 1) := fq1_46 (fl_24 (j := 1) rfl rfl)
theorem dL_law_1538 : decode cL_law 1538 = .ok (.aload_n 0, 1) := fq1_42 (fl_24 (j := 2) rfl rfl)
theorem dL_law_1539 : decode cL_law 1539 = .ok (.iload_n 3, 1) := fq1_29 (fl_24 (j := 3) rfl rfl)
theorem dL_law_1540 : decode cL_law 1540 = .ok (.iconst 3, 1) := fq1_6 (fl_24 (j := 4) rfl rfl)
theorem dL_law_1541 : decode cL_law 1541 = .ok (.iadd, 1) := fq1_96 (fl_24 (j := 5) rfl rfl)
theorem dL_law_1542 : decode cL_law 1542 = .ok (.iaload, 1) := fq1_46 (fl_24 (j := 6) rfl rfl)
theorem dL_law_1543 : decode cL_law 1543 = .ok (.invokevirtual 153, 3) := fq3_182 (fl_24 (j := 7) rfl rfl) (fl_24 (j := 8) rfl rfl) (fl_24 (j := 9) rfl rfl) (by decide)
theorem dL_law_1546 : decode cL_law 1546 = .ok (.pop, 1) := fq1_87 (fl_24 (j := 10) rfl rfl)
theorem dL_law_1547 : decode cL_law 1547 = .ok (.goto 1299, 3) := fq3_167 (fl_24 (j := 11) rfl rfl) (fl_24 (j := 12) rfl rfl) (fl_24 (j := 13) rfl rfl) (by decide)
