section
theorem qc_X11_blind : Cond.code yX11_blind cX11_blind 6 (some .int) ∈ gw := tbt (tb4 (List.mem_of_getElem? (i := 136) rfl)) rfl
theorem qi_yX11_blind : Cond.instanceMethod yX11_blind ∈ gw := tbt (tb4 (List.mem_of_getElem? (i := 134) rfl)) rfl
theorem qs_X11_blind : Cond.selects (yX11_blind).cls yX11_blind yX11_blind ∈ gw := tbt (tb4 (List.mem_of_getElem? (i := 135) rfl)) rfl
theorem ci_X11_blind : CIv yX11_blind cX11_blind 6 (some .int) 1 := ⟨qc_X11_blind, qi_yX11_blind, qs_X11_blind, qz_X11, by decide +kernel⟩
theorem qm_L_122 : Cond.methodLink RL 122 yX11_blind ∈ gw := tbt (tb4 (List.mem_of_getElem? (i := 133) rfl)) rfl
theorem qc_X12_blind : Cond.code yX12_blind cX12_blind 6 (some .int) ∈ gw := tbt (tb7 (List.mem_of_getElem? (i := 208) rfl)) rfl
theorem qi_yX12_blind : Cond.instanceMethod yX12_blind ∈ gw := tbt (tb7 (List.mem_of_getElem? (i := 206) rfl)) rfl
theorem qs_X12_blind : Cond.selects (yX12_blind).cls yX12_blind yX12_blind ∈ gw := tbt (tb7 (List.mem_of_getElem? (i := 207) rfl)) rfl
theorem ci_X12_blind : CIv yX12_blind cX12_blind 6 (some .int) 1 := ⟨qc_X12_blind, qi_yX12_blind, qs_X12_blind, qz_X12, by decide +kernel⟩
theorem qm_L_125 : Cond.methodLink RL 125 yX12_blind ∈ gw := tbt (tb7 (List.mem_of_getElem? (i := 205) rfl)) rfl
theorem qc_X11_closest : Cond.code yX11_closest cX11_closest 6 (some .int) ∈ gw := tbt (tb4 (List.mem_of_getElem? (i := 143) rfl)) rfl
theorem qi_yX11_closest : Cond.instanceMethod yX11_closest ∈ gw := tbt (tb4 (List.mem_of_getElem? (i := 141) rfl)) rfl
theorem qs_X11_closest : Cond.selects (yX11_closest).cls yX11_closest yX11_closest ∈ gw := tbt (tb4 (List.mem_of_getElem? (i := 142) rfl)) rfl
theorem ci_X11_closest : CIv yX11_closest cX11_closest 6 (some .int) 4 := ⟨qc_X11_closest, qi_yX11_closest, qs_X11_closest, qz_X11, by decide +kernel⟩
theorem qm_L_126 : Cond.methodLink RL 126 yX11_closest ∈ gw := tbt (tb4 (List.mem_of_getElem? (i := 140) rfl)) rfl
theorem qc_X12_closest : Cond.code yX12_closest cX12_closest 6 (some .int) ∈ gw := tbt (tb7 (List.mem_of_getElem? (i := 192) rfl)) rfl
theorem qi_yX12_closest : Cond.instanceMethod yX12_closest ∈ gw := tbt (tb7 (List.mem_of_getElem? (i := 190) rfl)) rfl
theorem qs_X12_closest : Cond.selects (yX12_closest).cls yX12_closest yX12_closest ∈ gw := tbt (tb7 (List.mem_of_getElem? (i := 191) rfl)) rfl
theorem ci_X12_closest : CIv yX12_closest cX12_closest 6 (some .int) 4 := ⟨qc_X12_closest, qi_yX12_closest, qs_X12_closest, qz_X12, by decide +kernel⟩
theorem qm_L_129 : Cond.methodLink RL 129 yX12_closest ∈ gw := tbt (tb7 (List.mem_of_getElem? (i := 189) rfl)) rfl
theorem qc_X11_knows : Cond.code yX11_knows cX11_knows 4 (some .int) ∈ gw := tbt (tb4 (List.mem_of_getElem? (i := 147) rfl)) rfl
theorem qi_yX11_knows : Cond.instanceMethod yX11_knows ∈ gw := tbt (tb4 (List.mem_of_getElem? (i := 145) rfl)) rfl
theorem qs_X11_knows : Cond.selects (yX11_knows).cls yX11_knows yX11_knows ∈ gw := tbt (tb4 (List.mem_of_getElem? (i := 146) rfl)) rfl
theorem ci_X11_knows : CIv yX11_knows cX11_knows 4 (some .int) 3 := ⟨qc_X11_knows, qi_yX11_knows, qs_X11_knows, qz_X11, by decide +kernel⟩
theorem qm_L_130 : Cond.methodLink RL 130 yX11_knows ∈ gw := tbt (tb4 (List.mem_of_getElem? (i := 144) rfl)) rfl
theorem qc_X12_knows : Cond.code yX12_knows cX12_knows 4 (some .int) ∈ gw := tbt (tb7 (List.mem_of_getElem? (i := 212) rfl)) rfl
theorem qi_yX12_knows : Cond.instanceMethod yX12_knows ∈ gw := tbt (tb7 (List.mem_of_getElem? (i := 210) rfl)) rfl
theorem qs_X12_knows : Cond.selects (yX12_knows).cls yX12_knows yX12_knows ∈ gw := tbt (tb7 (List.mem_of_getElem? (i := 211) rfl)) rfl
theorem ci_X12_knows : CIv yX12_knows cX12_knows 4 (some .int) 3 := ⟨qc_X12_knows, qi_yX12_knows, qs_X12_knows, qz_X12, by decide +kernel⟩
theorem qm_L_133 : Cond.methodLink RL 133 yX12_knows ∈ gw := tbt (tb7 (List.mem_of_getElem? (i := 209) rfl)) rfl
theorem qc_X11_teller : Cond.code yX11_teller cX11_teller 4 (some .int) ∈ gw := tbt (tb4 (List.mem_of_getElem? (i := 169) rfl)) rfl
theorem qi_yX11_teller : Cond.instanceMethod yX11_teller ∈ gw := tbt (tb4 (List.mem_of_getElem? (i := 167) rfl)) rfl
theorem qs_X11_teller : Cond.selects (yX11_teller).cls yX11_teller yX11_teller ∈ gw := tbt (tb4 (List.mem_of_getElem? (i := 168) rfl)) rfl
theorem ci_X11_teller : CIv yX11_teller cX11_teller 4 (some .int) 3 := ⟨qc_X11_teller, qi_yX11_teller, qs_X11_teller, qz_X11, by decide +kernel⟩
theorem qm_L_134 : Cond.methodLink RL 134 yX11_teller ∈ gw := tbt (tb4 (List.mem_of_getElem? (i := 166) rfl)) rfl
theorem qc_X12_teller : Cond.code yX12_teller cX12_teller 4 (some .int) ∈ gw := tbt (tb7 (List.mem_of_getElem? (i := 224) rfl)) rfl
theorem qi_yX12_teller : Cond.instanceMethod yX12_teller ∈ gw := tbt (tb7 (List.mem_of_getElem? (i := 222) rfl)) rfl
theorem qs_X12_teller : Cond.selects (yX12_teller).cls yX12_teller yX12_teller ∈ gw := tbt (tb7 (List.mem_of_getElem? (i := 223) rfl)) rfl
theorem ci_X12_teller : CIv yX12_teller cX12_teller 4 (some .int) 3 := ⟨qc_X12_teller, qi_yX12_teller, qs_X12_teller, qz_X12, by decide +kernel⟩
theorem qm_L_137 : Cond.methodLink RL 137 yX12_teller ∈ gw := tbt (tb7 (List.mem_of_getElem? (i := 221) rfl)) rfl
theorem qc_X11_hops : Cond.code yX11_hops cX11_hops 4 (some .int) ∈ gw := tbt (tb4 (List.mem_of_getElem? (i := 173) rfl)) rfl
theorem qi_yX11_hops : Cond.instanceMethod yX11_hops ∈ gw := tbt (tb4 (List.mem_of_getElem? (i := 171) rfl)) rfl
theorem qs_X11_hops : Cond.selects (yX11_hops).cls yX11_hops yX11_hops ∈ gw := tbt (tb4 (List.mem_of_getElem? (i := 172) rfl)) rfl
theorem ci_X11_hops : CIv yX11_hops cX11_hops 4 (some .int) 3 := ⟨qc_X11_hops, qi_yX11_hops, qs_X11_hops, qz_X11, by decide +kernel⟩
theorem qm_L_138 : Cond.methodLink RL 138 yX11_hops ∈ gw := tbt (tb4 (List.mem_of_getElem? (i := 170) rfl)) rfl
theorem qc_X12_hops : Cond.code yX12_hops cX12_hops 4 (some .int) ∈ gw := tbt (tb7 (List.mem_of_getElem? (i := 228) rfl)) rfl
theorem qi_yX12_hops : Cond.instanceMethod yX12_hops ∈ gw := tbt (tb7 (List.mem_of_getElem? (i := 226) rfl)) rfl
theorem qs_X12_hops : Cond.selects (yX12_hops).cls yX12_hops yX12_hops ∈ gw := tbt (tb7 (List.mem_of_getElem? (i := 227) rfl)) rfl
theorem ci_X12_hops : CIv yX12_hops cX12_hops 4 (some .int) 3 := ⟨qc_X12_hops, qi_yX12_hops, qs_X12_hops, qz_X12, by decide +kernel⟩
theorem qm_L_141 : Cond.methodLink RL 141 yX12_hops ∈ gw := tbt (tb7 (List.mem_of_getElem? (i := 225) rfl)) rfl
theorem qc_X11_knowing : Cond.code yX11_knowing cX11_knowing 6 (some .int) ∈ gw := tbt (tb4 (List.mem_of_getElem? (i := 177) rfl)) rfl
theorem qi_yX11_knowing : Cond.instanceMethod yX11_knowing ∈ gw := tbt (tb4 (List.mem_of_getElem? (i := 175) rfl)) rfl
theorem qs_X11_knowing : Cond.selects (yX11_knowing).cls yX11_knowing yX11_knowing ∈ gw := tbt (tb4 (List.mem_of_getElem? (i := 176) rfl)) rfl
theorem ci_X11_knowing : CIv yX11_knowing cX11_knowing 6 (some .int) 3 := ⟨qc_X11_knowing, qi_yX11_knowing, qs_X11_knowing, qz_X11, by decide +kernel⟩
theorem qm_L_142 : Cond.methodLink RL 142 yX11_knowing ∈ gw := tbt (tb4 (List.mem_of_getElem? (i := 174) rfl)) rfl
theorem qc_X12_knowing : Cond.code yX12_knowing cX12_knowing 4 (some .int) ∈ gw := tbt (tb7 (List.mem_of_getElem? (i := 232) rfl)) rfl
theorem qi_yX12_knowing : Cond.instanceMethod yX12_knowing ∈ gw := tbt (tb7 (List.mem_of_getElem? (i := 230) rfl)) rfl
theorem qs_X12_knowing : Cond.selects (yX12_knowing).cls yX12_knowing yX12_knowing ∈ gw := tbt (tb7 (List.mem_of_getElem? (i := 231) rfl)) rfl
theorem ci_X12_knowing : CIv yX12_knowing cX12_knowing 4 (some .int) 3 := ⟨qc_X12_knowing, qi_yX12_knowing, qs_X12_knowing, qz_X12, by decide +kernel⟩
theorem qm_L_145 : Cond.methodLink RL 145 yX12_knowing ∈ gw := tbt (tb7 (List.mem_of_getElem? (i := 229) rfl)) rfl
theorem qc_X11_overtaken : Cond.code yX11_overtaken cX11_overtaken 6 (some .int) ∈ gw := tbt (tb4 (List.mem_of_getElem? (i := 181) rfl)) rfl
theorem qi_yX11_overtaken : Cond.instanceMethod yX11_overtaken ∈ gw := tbt (tb4 (List.mem_of_getElem? (i := 179) rfl)) rfl
theorem qs_X11_overtaken : Cond.selects (yX11_overtaken).cls yX11_overtaken yX11_overtaken ∈ gw := tbt (tb4 (List.mem_of_getElem? (i := 180) rfl)) rfl
theorem ci_X11_overtaken : CIv yX11_overtaken cX11_overtaken 6 (some .int) 2 := ⟨qc_X11_overtaken, qi_yX11_overtaken, qs_X11_overtaken, qz_X11, by decide +kernel⟩
theorem qm_L_146 : Cond.methodLink RL 146 yX11_overtaken ∈ gw := tbt (tb4 (List.mem_of_getElem? (i := 178) rfl)) rfl
theorem qc_X12_overtaken : Cond.code yX12_overtaken cX12_overtaken 5 (some .int) ∈ gw := tbt (tb8 (List.mem_of_getElem? (i := 0) rfl)) rfl
theorem qi_yX12_overtaken : Cond.instanceMethod yX12_overtaken ∈ gw := tbt (tb7 (List.mem_of_getElem? (i := 238) rfl)) rfl
theorem qs_X12_overtaken : Cond.selects (yX12_overtaken).cls yX12_overtaken yX12_overtaken ∈ gw := tbt (tb7 (List.mem_of_getElem? (i := 239) rfl)) rfl
theorem ci_X12_overtaken : CIv yX12_overtaken cX12_overtaken 5 (some .int) 2 := ⟨qc_X12_overtaken, qi_yX12_overtaken, qs_X12_overtaken, qz_X12, by decide +kernel⟩
theorem qm_L_149 : Cond.methodLink RL 149 yX12_overtaken ∈ gw := tbt (tb7 (List.mem_of_getElem? (i := 237) rfl)) rfl
theorem qc_X11_early : Cond.code yX11_early cX11_early 8 (some .int) ∈ gw := tbt (tb4 (List.mem_of_getElem? (i := 185) rfl)) rfl
theorem qi_yX11_early : Cond.instanceMethod yX11_early ∈ gw := tbt (tb4 (List.mem_of_getElem? (i := 183) rfl)) rfl
theorem qs_X11_early : Cond.selects (yX11_early).cls yX11_early yX11_early ∈ gw := tbt (tb4 (List.mem_of_getElem? (i := 184) rfl)) rfl
theorem ci_X11_early : CIv yX11_early cX11_early 8 (some .int) 3 := ⟨qc_X11_early, qi_yX11_early, qs_X11_early, qz_X11, by decide +kernel⟩
theorem qm_L_150 : Cond.methodLink RL 150 yX11_early ∈ gw := tbt (tb4 (List.mem_of_getElem? (i := 182) rfl)) rfl
theorem qc_X12_early : Cond.code yX12_early cX12_early 6 (some .int) ∈ gw := tbt (tb8 (List.mem_of_getElem? (i := 4) rfl)) rfl
theorem qi_yX12_early : Cond.instanceMethod yX12_early ∈ gw := tbt (tb8 (List.mem_of_getElem? (i := 2) rfl)) rfl
theorem qs_X12_early : Cond.selects (yX12_early).cls yX12_early yX12_early ∈ gw := tbt (tb8 (List.mem_of_getElem? (i := 3) rfl)) rfl
theorem ci_X12_early : CIv yX12_early cX12_early 6 (some .int) 3 := ⟨qc_X12_early, qi_yX12_early, qs_X12_early, qz_X12, by decide +kernel⟩
theorem qm_L_153 : Cond.methodLink RL 153 yX12_early ∈ gw := tbt (tb8 (List.mem_of_getElem? (i := 1) rfl)) rfl
theorem dL_law_1226 : decode cL_law 1226 = .ok (.aload_n 1, 1) := fq1_43 (fl_19 (j := 10) rfl rfl)
theorem dL_law_1227 : decode cL_law 1227 = .ok (.aload_n 0, 1) := fq1_42 (fl_19 (j := 11) rfl rfl)
theorem dL_law_1228 : decode cL_law 1228 = .ok (.iload_n 3, 1) := fq1_29 (fl_19 (j := 12) rfl rfl)
theorem dL_law_1229 : decode cL_law 1229 = .ok (.iconst 1, 1) := fq1_4 (fl_19 (j := 13) rfl rfl)
theorem dL_law_1230 : decode cL_law 1230 = .ok (.iadd, 1) := fq1_96 (fl_19 (j := 14) rfl rfl)
theorem dL_law_1231 : decode cL_law 1231 = .ok (.iaload, 1) := fq1_46 (fl_19 (j := 15) rfl rfl)
theorem dL_law_1232 : decode cL_law 1232 = .ok (.invokevirtual 122, 3) := fq3_182 (fl_19 (j := 16) rfl rfl) (fl_19 (j := 17) rfl rfl) (fl_19 (j := 18) rfl rfl) rfl
theorem dL_law_1235 : decode cL_law 1235 = .ok (.pop, 1) := fq1_87 (fl_19 (j := 19) rfl rfl)
theorem dL_law_1236 : decode cL_law 1236 = .ok (.aload_n 2, 1) := fq1_44 (fl_19 (j := 20) rfl rfl)
theorem dL_law_1237 : decode cL_law 1237 = .ok (.aload_n 0, 1) := fq1_42 (fl_19 (j := 21) rfl rfl)
theorem dL_law_1238 : decode cL_law 1238 = .ok (.iload_n 3, 1) := fq1_29 (fl_19 (j := 22) rfl rfl)
theorem dL_law_1239 : decode cL_law 1239 = .ok (.iconst 1, 1) := fq1_4 (fl_19 (j := 23) rfl rfl)
theorem dL_law_1240 : decode cL_law 1240 = .ok (.iadd, 1) := fq1_96 (fl_19 (j := 24) rfl rfl)
theorem dL_law_1241 : decode cL_law 1241 = .ok (.iaload, 1) := fq1_46 (fl_19 (j := 25) rfl rfl)
theorem dL_law_1242 : decode cL_law 1242 = .ok (.invokevirtual 125, 3) := fq3_182 (fl_19 (j := 26) rfl rfl) (fl_19 (j := 27) rfl rfl) (fl_19 (j := 28) rfl rfl) rfl
theorem dL_law_1245 : decode cL_law 1245 = .ok (.pop, 1) := fq1_87 (fl_19 (j := 29) rfl rfl)
theorem dL_law_1246 : decode cL_law 1246 = .ok (.goto 1600, 3) := fq3_167 (fl_19 (j := 30) rfl rfl) (fl_19 (j := 31) rfl rfl) (fl_19 (j := 32) rfl rfl) (s2p rfl (bl rfl))
theorem dL_law_1249 : decode cL_law 1249 = .ok (.aload_n 1, 1) := fq1_43 (fl_19 (j := 33) rfl rfl)
theorem dL_law_1250 : decode cL_law 1250 = .ok (.aload_n 0, 1) := fq1_42 (fl_19 (j := 34) rfl rfl)
theorem dL_law_1251 : decode cL_law 1251 = .ok (.iload_n 3, 1) := fq1_29 (fl_19 (j := 35) rfl rfl)
theorem dL_law_1252 : decode cL_law 1252 = .ok (.iconst 1, 1) := fq1_4 (fl_19 (j := 36) rfl rfl)
theorem dL_law_1253 : decode cL_law 1253 = .ok (.iadd, 1) := fq1_96 (fl_19 (j := 37) rfl rfl)
theorem dL_law_1254 : decode cL_law 1254 = .ok (.iaload, 1) := fq1_46 (fl_19 (j := 38) rfl rfl)
theorem dL_law_1255 : decode cL_law 1255 = .ok (.aload_n 0, 1) := fq1_42 (fl_19 (j := 39) rfl rfl)
theorem dL_law_1256 : decode cL_law 1256 = .ok (.iload_n 3, 1) := fq1_29 (fl_19 (j := 40) rfl rfl)
theorem dL_law_1257 : decode cL_law 1257 = .ok (.iconst 2, 1) := fq1_5 (fl_19 (j := 41) rfl rfl)
theorem dL_law_1258 : decode cL_law 1258 = .ok (.iadd, 1) := fq1_96 (fl_19 (j := 42) rfl rfl)
theorem dL_law_1259 : decode cL_law 1259 = .ok (.iaload, 1) := fq1_46 (fl_19 (j := 43) rfl rfl)
theorem dL_law_1260 : decode cL_law 1260 = .ok (.aload_n 0, 1) := fq1_42 (fl_19 (j := 44) rfl rfl)
theorem dL_law_1261 : decode cL_law 1261 = .ok (.iload_n 3, 1) := fq1_29 (fl_19 (j := 45) rfl rfl)
theorem dL_law_1262 : decode cL_law 1262 = .ok (.iconst 3, 1) := fq1_6 (fl_19 (j := 46) rfl rfl)
theorem dL_law_1263 : decode cL_law 1263 = .ok (.iadd, 1) := fq1_96 (fl_19 (j := 47) rfl rfl)
theorem dL_law_1264 : decode cL_law 1264 = .ok (.iaload, 1) := fq1_46 (fl_19 (j := 48) rfl rfl)
theorem dL_law_1265 : decode cL_law 1265 = .ok (.aload_n 0, 1) := fq1_42 (fl_19 (j := 49) rfl rfl)
theorem dL_law_1266 : decode cL_law 1266 = .ok (.iload_n 3, 1) := fq1_29 (fl_19 (j := 50) rfl rfl)
theorem dL_law_1267 : decode cL_law 1267 = .ok (.iconst 4, 1) := fq1_7 (fl_19 (j := 51) rfl rfl)
theorem dL_law_1268 : decode cL_law 1268 = .ok (.iadd, 1) := fq1_96 (fl_19 (j := 52) rfl rfl)
theorem dL_law_1269 : decode cL_law 1269 = .ok (.iaload, 1) := fq1_46 (fl_19 (j := 53) rfl rfl)
theorem dL_law_1270 : decode cL_law 1270 = .ok (.invokevirtual 126, 3) := fq3_182 (fl_19 (j := 54) rfl rfl) (fl_19 (j := 55) rfl rfl) (fl_19 (j := 56) rfl rfl) rfl
theorem dL_law_1273 : decode cL_law 1273 = .ok (.pop, 1) := fq1_87 (fl_19 (j := 57) rfl rfl)
theorem dL_law_1274 : decode cL_law 1274 = .ok (.aload_n 2, 1) := fq1_44 (fl_19 (j := 58) rfl rfl)
theorem dL_law_1275 : decode cL_law 1275 = .ok (.aload_n 0, 1) := fq1_42 (fl_19 (j := 59) rfl rfl)
theorem dL_law_1276 : decode cL_law 1276 = .ok (.iload_n 3, 1) := fq1_29 (fl_19 (j := 60) rfl rfl)
theorem dL_law_1277 : decode cL_law 1277 = .ok (.iconst 1, 1) := fq1_4 (fl_19 (j := 61) rfl rfl)
theorem dL_law_1278 : decode cL_law 1278 = .ok (.iadd, 1) := fq1_96 (fl_19 (j := 62) rfl rfl)
theorem dL_law_1279 : decode cL_law 1279 = .ok (.iaload, 1) := fq1_46 (fl_19 (j := 63) rfl rfl)
theorem dL_law_1280 : decode cL_law 1280 = .ok (.aload_n 0, 1) := fq1_42 (fl_20 (j := 0) rfl rfl)
theorem dL_law_1281 : decode cL_law 1281 = .ok (.iload_n 3, 1) := fq1_29 (fl_20 (j := 1) rfl rfl)
theorem dL_law_1282 : decode cL_law 1282 = .ok (.iconst 2, 1) := fq1_5 (fl_20 (j := 2) rfl rfl)
theorem dL_law_1283 : decode cL_law 1283 = .ok (.iadd, 1) := fq1_96 (fl_20 (j := 3) rfl rfl)
theorem dL_law_1284 : decode cL_law 1284 = .ok (.iaload, 1) := fq1_46 (fl_20 (j := 4) rfl rfl)
theorem dL_law_1285 : decode cL_law 1285 = .ok (.aload_n 0, 1) := fq1_42 (fl_20 (j := 5) rfl rfl)
theorem dL_law_1286 : decode cL_law 1286 = .ok (.iload_n 3, 1) := fq1_29 (fl_20 (j := 6) rfl rfl)
theorem dL_law_1287 : decode cL_law 1287 = .ok (.iconst 3, 1) := fq1_6 (fl_20 (j := 7) rfl rfl)
theorem dL_law_1288 : decode cL_law 1288 = .ok (.iadd, 1) := fq1_96 (fl_20 (j := 8) rfl rfl)
theorem dL_law_1289 : decode cL_law 1289 = .ok (.iaload, 1) := fq1_46 (fl_20 (j := 9) rfl rfl)
theorem dL_law_1290 : decode cL_law 1290 = .ok (.aload_n 0, 1) := fq1_42 (fl_20 (j := 10) rfl rfl)
theorem dL_law_1291 : decode cL_law 1291 = .ok (.iload_n 3, 1) := fq1_29 (fl_20 (j := 11) rfl rfl)
theorem dL_law_1292 : decode cL_law 1292 = .ok (.iconst 4, 1) := fq1_7 (fl_20 (j := 12) rfl rfl)
theorem dL_law_1293 : decode cL_law 1293 = .ok (.iadd, 1) := fq1_96 (fl_20 (j := 13) rfl rfl)
theorem dL_law_1294 : decode cL_law 1294 = .ok (.iaload, 1) := fq1_46 (fl_20 (j := 14) rfl rfl)
theorem dL_law_1295 : decode cL_law 1295 = .ok (.invokevirtual 129, 3) := fq3_182 (fl_20 (j := 15) rfl rfl) (fl_20 (j := 16) rfl rfl) (fl_20 (j := 17) rfl rfl) rfl
theorem dL_law_1298 : decode cL_law 1298 = .ok (.pop, 1) := fq1_87 (fl_20 (j := 18) rfl rfl)
theorem dL_law_1299 : decode cL_law 1299 = .ok (.goto 1547, 3) := fq3_167 (fl_20 (j := 19) rfl rfl) (fl_20 (j := 20) rfl rfl) (fl_20 (j := 21) rfl rfl) (s2p rfl (bl rfl))
theorem dL_law_1302 : decode cL_law 1302 = .ok (.aload_n 1, 1) := fq1_43 (fl_20 (j := 22) rfl rfl)
theorem dL_law_1303 : decode cL_law 1303 = .ok (.aload_n 0, 1) := fq1_42 (fl_20 (j := 23) rfl rfl)
theorem dL_law_1304 : decode cL_law 1304 = .ok (.iload_n 3, 1) := fq1_29 (fl_20 (j := 24) rfl rfl)
theorem dL_law_1305 : decode cL_law 1305 = .ok (.iconst 1, 1) := fq1_4 (fl_20 (j := 25) rfl rfl)
theorem dL_law_1306 : decode cL_law 1306 = .ok (.iadd, 1) := fq1_96 (fl_20 (j := 26) rfl rfl)
theorem dL_law_1307 : decode cL_law 1307 = .ok (.iaload, 1) := fq1_46 (fl_20 (j := 27) rfl rfl)
theorem dL_law_1308 : decode cL_law 1308 = .ok (.aload_n 0, 1) := fq1_42 (fl_20 (j := 28) rfl rfl)
theorem dL_law_1309 : decode cL_law 1309 = .ok (.iload_n 3, 1) := fq1_29 (fl_20 (j := 29) rfl rfl)
theorem dL_law_1310 : decode cL_law 1310 = .ok (.iconst 2, 1) := fq1_5 (fl_20 (j := 30) rfl rfl)
theorem dL_law_1311 : decode cL_law 1311 = .ok (.iadd, 1) := fq1_96 (fl_20 (j := 31) rfl rfl)
theorem dL_law_1312 : decode cL_law 1312 = .ok (.iaload, 1) := fq1_46 (fl_20 (j := 32) rfl rfl)
theorem dL_law_1313 : decode cL_law 1313 = .ok (.aload_n 0, 1) := fq1_42 (fl_20 (j := 33) rfl rfl)
theorem dL_law_1314 : decode cL_law 1314 = .ok (.iload_n 3, 1) := fq1_29 (fl_20 (j := 34) rfl rfl)
theorem dL_law_1315 : decode cL_law 1315 = .ok (.iconst 3, 1) := fq1_6 (fl_20 (j := 35) rfl rfl)
theorem dL_law_1316 : decode cL_law 1316 = .ok (.iadd, 1) := fq1_96 (fl_20 (j := 36) rfl rfl)
theorem dL_law_1317 : decode cL_law 1317 = .ok (.iaload, 1) := fq1_46 (fl_20 (j := 37) rfl rfl)
theorem dL_law_1318 : decode cL_law 1318 = .ok (.invokevirtual 130, 3) := fq3_182 (fl_20 (j := 38) rfl rfl) (fl_20 (j := 39) rfl rfl) (fl_20 (j := 40) rfl rfl) rfl
theorem dL_law_1321 : decode cL_law 1321 = .ok (.pop, 1) := fq1_87 (fl_20 (j := 41) rfl rfl)
theorem dL_law_1322 : decode cL_law 1322 = .ok (.aload_n 2, 1) := fq1_44 (fl_20 (j := 42) rfl rfl)
theorem dL_law_1323 : decode cL_law 1323 = .ok (.aload_n 0, 1) := fq1_42 (fl_20 (j := 43) rfl rfl)
theorem dL_law_1324 : decode cL_law 1324 = .ok (.iload_n 3, 1) := fq1_29 (fl_20 (j := 44) rfl rfl)
theorem dL_law_1325 : decode cL_law 1325 = .ok (.iconst 1, 1) := fq1_4 (fl_20 (j := 45) rfl rfl)
theorem dL_law_1326 : decode cL_law 1326 = .ok (.iadd, 1) := fq1_96 (fl_20 (j := 46) rfl rfl)
theorem dL_law_1327 : decode cL_law 1327 = .ok (.iaload, 1) := fq1_46 (fl_20 (j := 47) rfl rfl)
theorem dL_law_1328 : decode cL_law 1328 = .ok (.aload_n 0, 1) := fq1_42 (fl_20 (j := 48) rfl rfl)
theorem dL_law_1329 : decode cL_law 1329 = .ok (.iload_n 3, 1) := fq1_29 (fl_20 (j := 49) rfl rfl)
theorem dL_law_1330 : decode cL_law 1330 = .ok (.iconst 2, 1) := fq1_5 (fl_20 (j := 50) rfl rfl)
theorem dL_law_1331 : decode cL_law 1331 = .ok (.iadd, 1) := fq1_96 (fl_20 (j := 51) rfl rfl)
theorem dL_law_1332 : decode cL_law 1332 = .ok (.iaload, 1) := fq1_46 (fl_20 (j := 52) rfl rfl)
theorem dL_law_1333 : decode cL_law 1333 = .ok (.aload_n 0, 1) := fq1_42 (fl_20 (j := 53) rfl rfl)
theorem dL_law_1334 : decode cL_law 1334 = .ok (.iload_n 3, 1) := fq1_29 (fl_20 (j := 54) rfl rfl)
theorem dL_law_1335 : decode cL_law 1335 = .ok (.iconst 3, 1) := fq1_6 (fl_20 (j := 55) rfl rfl)
theorem dL_law_1336 : decode cL_law 1336 = .ok (.iadd, 1) := fq1_96 (fl_20 (j := 56) rfl rfl)
theorem dL_law_1337 : decode cL_law 1337 = .ok (.iaload, 1) := fq1_46 (fl_20 (j := 57) rfl rfl)
theorem dL_law_1338 : decode cL_law 1338 = .ok (.invokevirtual 133, 3) := fq3_182 (fl_20 (j := 58) rfl rfl) (fl_20 (j := 59) rfl rfl) (fl_20 (j := 60) rfl rfl) rfl
theorem dL_law_1341 : decode cL_law 1341 = .ok (.pop, 1) := fq1_87 (fl_20 (j := 61) rfl rfl)
theorem dL_law_1342 : decode cL_law 1342 = .ok (.goto 1504, 3) := fq3_167 (fl_20 (j := 62) rfl rfl) (fl_20 (j := 63) rfl rfl) (fl_21 (j := 0) rfl rfl) (s2p rfl (bl rfl))
theorem dL_law_1345 : decode cL_law 1345 = .ok (.aload_n 1, 1) := fq1_43 (fl_21 (j := 1) rfl rfl)
theorem dL_law_1346 : decode cL_law 1346 = .ok (.aload_n 0, 1) := fq1_42 (fl_21 (j := 2) rfl rfl)
theorem dL_law_1347 : decode cL_law 1347 = .ok (.iload_n 3, 1) := fq1_29 (fl_21 (j := 3) rfl rfl)
theorem dL_law_1348 : decode cL_law 1348 = .ok (.iconst 1, 1) := fq1_4 (fl_21 (j := 4) rfl rfl)
theorem dL_law_1349 : decode cL_law 1349 = .ok (.iadd, 1) := fq1_96 (fl_21 (j := 5) rfl rfl)
theorem dL_law_1350 : decode cL_law 1350 = .ok (.iaload, 1) := fq1_46 (fl_21 (j := 6) rfl rfl)
theorem dL_law_1351 : decode cL_law 1351 = .ok (.aload_n 0, 1) := fq1_42 (fl_21 (j := 7) rfl rfl)
theorem dL_law_1352 : decode cL_law 1352 = .ok (.iload_n 3, 1) := fq1_29 (fl_21 (j := 8) rfl rfl)
theorem dL_law_1353 : decode cL_law 1353 = .ok (.iconst 2, 1) := fq1_5 (fl_21 (j := 9) rfl rfl)
theorem dL_law_1354 : decode cL_law 1354 = .ok (.iadd, 1) := fq1_96 (fl_21 (j := 10) rfl rfl)
theorem dL_law_1355 : decode cL_law 1355 = .ok (.iaload, 1) := fq1_46 (fl_21 (j := 11) rfl rfl)
theorem dL_law_1356 : decode cL_law 1356 = .ok (.aload_n 0, 1) := fq1_42 (fl_21 (j := 12) rfl rfl)
theorem dL_law_1357 : decode cL_law 1357 = .ok (.iload_n 3, 1) := fq1_29 (fl_21 (j := 13) rfl rfl)
theorem dL_law_1358 : decode cL_law 1358 = .ok (.iconst 3, 1) := fq1_6 (fl_21 (j := 14) rfl rfl)
theorem dL_law_1359 : decode cL_law 1359 = .ok (.iadd, 1) := fq1_96 (fl_21 (j := 15) rfl rfl)
theorem dL_law_1360 : decode cL_law 1360 = .ok (.iaload, 1) := fq1_46 (fl_21 (j := 16) rfl rfl)
theorem dL_law_1361 : decode cL_law 1361 = .ok (.invokevirtual 134, 3) := fq3_182 (fl_21 (j := 17) rfl rfl) (fl_21 (j := 18) rfl rfl) (fl_21 (j := 19) rfl rfl) rfl
theorem dL_law_1364 : decode cL_law 1364 = .ok (.pop, 1) := fq1_87 (fl_21 (j := 20) rfl rfl)
theorem dL_law_1365 : decode cL_law 1365 = .ok (.aload_n 2, 1) := fq1_44 (fl_21 (j := 21) rfl rfl)
theorem dL_law_1366 : decode cL_law 1366 = .ok (.aload_n 0, 1) := fq1_42 (fl_21 (j := 22) rfl rfl)
theorem dL_law_1367 : decode cL_law 1367 = .ok (.iload_n 3, 1) := fq1_29 (fl_21 (j := 23) rfl rfl)
theorem dL_law_1368 : decode cL_law 1368 = .ok (.iconst 1, 1) := fq1_4 (fl_21 (j := 24) rfl rfl)
theorem dL_law_1369 : decode cL_law 1369 = .ok (.iadd, 1) := fq1_96 (fl_21 (j := 25) rfl rfl)
theorem dL_law_1370 : decode cL_law 1370 = .ok (.iaload, 1) := fq1_46 (fl_21 (j := 26) rfl rfl)
theorem dL_law_1371 : decode cL_law 1371 = .ok (.aload_n 0, 1) := fq1_42 (fl_21 (j := 27) rfl rfl)
theorem dL_law_1372 : decode cL_law 1372 = .ok (.iload_n 3, 1) := fq1_29 (fl_21 (j := 28) rfl rfl)
theorem dL_law_1373 : decode cL_law 1373 = .ok (.iconst 2, 1) := fq1_5 (fl_21 (j := 29) rfl rfl)
theorem dL_law_1374 : decode cL_law 1374 = .ok (.iadd, 1) := fq1_96 (fl_21 (j := 30) rfl rfl)
theorem dL_law_1375 : decode cL_law 1375 = .ok (.iaload, 1) := fq1_46 (fl_21 (j := 31) rfl rfl)
theorem dL_law_1376 : decode cL_law 1376 = .ok (.aload_n 0, 1) := fq1_42 (fl_21 (j := 32) rfl rfl)
theorem dL_law_1377 : decode cL_law 1377 = .ok (.iload_n 3, 1) := fq1_29 (fl_21 (j := 33) rfl rfl)
theorem dL_law_1378 : decode cL_law 1378 = .ok (.iconst 3, 1) := fq1_6 (fl_21 (j := 34) rfl rfl)
theorem dL_law_1379 : decode cL_law 1379 = .ok (.iadd, 1) := fq1_96 (fl_21 (j := 35) rfl rfl)
theorem dL_law_1380 : decode cL_law 1380 = .ok (.iaload, 1) := fq1_46 (fl_21 (j := 36) rfl rfl)
theorem dL_law_1381 : decode cL_law 1381 = .ok (.invokevirtual 137, 3) := fq3_182 (fl_21 (j := 37) rfl rfl) (fl_21 (j := 38) rfl rfl) (fl_21 (j := 39) rfl rfl) rfl
theorem dL_law_1384 : decode cL_law 1384 = .ok (.pop, 1) := fq1_87 (fl_21 (j := 40) rfl rfl)
theorem dL_law_1385 : decode cL_law 1385 = .ok (.goto 1461, 3) := fq3_167 (fl_21 (j := 41) rfl rfl) (fl_21 (j := 42) rfl rfl) (fl_21 (j := 43) rfl rfl) (s2p rfl (bl rfl))
theorem dL_law_1388 : decode cL_law 1388 = .ok (.aload_n 1, 1) := fq1_43 (fl_21 (j := 44) rfl rfl)
theorem dL_law_1389 : decode cL_law 1389 = .ok (.aload_n 0, 1) := fq1_42 (fl_21 (j := 45) rfl rfl)
theorem dL_law_1390 : decode cL_law 1390 = .ok (.iload_n 3, 1) := fq1_29 (fl_21 (j := 46) rfl rfl)
theorem dL_law_1391 : decode cL_law 1391 = .ok (.iconst 1, 1) := fq1_4 (fl_21 (j := 47) rfl rfl)
theorem dL_law_1392 : decode cL_law 1392 = .ok (.iadd, 1) := fq1_96 (fl_21 (j := 48) rfl rfl)
theorem dL_law_1393 : decode cL_law 1393 = .ok (.iaload, 1) := fq1_46 (fl_21 (j := 49) rfl rfl)
theorem dL_law_1394 : decode cL_law 1394 = .ok (.aload_n 0, 1) := fq1_42 (fl_21 (j := 50) rfl rfl)
theorem dL_law_1395 : decode cL_law 1395 = .ok (.iload_n 3, 1) := fq1_29 (fl_21 (j := 51) rfl rfl)
theorem dL_law_1396 : decode cL_law 1396 = .ok (.iconst 2, 1) := fq1_5 (fl_21 (j := 52) rfl rfl)
theorem dL_law_1397 : decode cL_law 1397 = .ok (.iadd, 1) := fq1_96 (fl_21 (j := 53) rfl rfl)
theorem dL_law_1398 : decode cL_law 1398 = .ok (.iaload, 1) := fq1_46 (fl_21 (j := 54) rfl rfl)
theorem dL_law_1399 : decode cL_law 1399 = .ok (.aload_n 0, 1) := fq1_42 (fl_21 (j := 55) rfl rfl)
theorem dL_law_1400 : decode cL_law 1400 = .ok (.iload_n 3, 1) := fq1_29 (fl_21 (j := 56) rfl rfl)
theorem dL_law_1401 : decode cL_law 1401 = .ok (.iconst 3, 1) := fq1_6 (fl_21 (j := 57) rfl rfl)
theorem dL_law_1402 : decode cL_law 1402 = .ok (.iadd, 1) := fq1_96 (fl_21 (j := 58) rfl rfl)
theorem dL_law_1403 : decode cL_law 1403 = .ok (.iaload, 1) := fq1_46 (fl_21 (j := 59) rfl rfl)
theorem dL_law_1404 : decode cL_law 1404 = .ok (.invokevirtual 138, 3) := fq3_182 (fl_21 (j := 60) rfl rfl) (fl_21 (j := 61) rfl rfl) (fl_21 (j := 62) rfl rfl) rfl
theorem dL_law_1407 : decode cL_law 1407 = .ok (.pop, 1) := fq1_87 (fl_21 (j := 63) rfl rfl)
theorem dL_law_1408 : decode cL_law 1408 = .ok (.aload_n 2, 1) := fq1_44 (fl_22 (j := 0) rfl rfl)
theorem dL_law_1409 : decode cL_law 1409 = .ok (.aload_n 0, 1) := fq1_42 (fl_22 (j := 1) rfl rfl)
theorem dL_law_1410 : decode cL_law 1410 = .ok (.iload_n 3, 1) := fq1_29 (fl_22 (j := 2) rfl rfl)
theorem dL_law_1411 : decode cL_law 1411 = .ok (.iconst 1, 1) := fq1_4 (fl_22 (j := 3) rfl rfl)
theorem dL_law_1412 : decode cL_law 1412 = .ok (.iadd, 1) := fq1_96 (fl_22 (j := 4) rfl rfl)
theorem dL_law_1413 : decode cL_law 1413 = .ok (.iaload, 1) := fq1_46 (fl_22 (j := 5) rfl rfl)
theorem dL_law_1414 : decode cL_law 1414 = .ok (.aload_n 0, 1) := fq1_42 (fl_22 (j := 6) rfl rfl)
theorem dL_law_1415 : decode cL_law 1415 = .ok (.iload_n 3, 1) := fq1_29 (fl_22 (j := 7) rfl rfl)
theorem dL_law_1416 : decode cL_law 1416 = .ok (.iconst 2, 1) := fq1_5 (fl_22 (j := 8) rfl rfl)
theorem dL_law_1417 : decode cL_law 1417 = .ok (.iadd, 1) := fq1_96 (fl_22 (j := 9) rfl rfl)
theorem dL_law_1418 : decode cL_law 1418 = .ok (.iaload, 1) := fq1_46 (fl_22 (j := 10) rfl rfl)
theorem dL_law_1419 : decode cL_law 1419 = .ok (.aload_n 0, 1) := fq1_42 (fl_22 (j := 11) rfl rfl)
theorem dL_law_1420 : decode cL_law 1420 = .ok (.iload_n 3, 1) := fq1_29 (fl_22 (j := 12) rfl rfl)
theorem dL_law_1421 : decode cL_law 1421 = .ok (.iconst 3, 1) := fq1_6 (fl_22 (j := 13) rfl rfl)
theorem dL_law_1422 : decode cL_law 1422 = .ok (.iadd, 1) := fq1_96 (fl_22 (j := 14) rfl rfl)
theorem dL_law_1423 : decode cL_law 1423 = .ok (.iaload, 1) := fq1_46 (fl_22 (j := 15) rfl rfl)
theorem dL_law_1424 : decode cL_law 1424 = .ok (.invokevirtual 141, 3) := fq3_182 (fl_22 (j := 16) rfl rfl) (fl_22 (j := 17) rfl rfl) (fl_22 (j := 18) rfl rfl) rfl
theorem dL_law_1427 : decode cL_law 1427 = .ok (.pop, 1) := fq1_87 (fl_22 (j := 19) rfl rfl)
theorem dL_law_1428 : decode cL_law 1428 = .ok (.goto 1418, 3) := fq3_167 (fl_22 (j := 20) rfl rfl) (fl_22 (j := 21) rfl rfl) (fl_22 (j := 22) rfl rfl) (s2p rfl (bl rfl))
theorem dL_law_1431 : decode cL_law 1431 = .ok (.aload_n 1, 1) := fq1_43 (fl_22 (j := 23) rfl rfl)
theorem dL_law_1432 : decode cL_law 1432 = .ok (.aload_n 0, 1) := fq1_42 (fl_22 (j := 24) rfl rfl)
theorem dL_law_1433 : decode cL_law 1433 = .ok (.iload_n 3, 1) := fq1_29 (fl_22 (j := 25) rfl rfl)
theorem dL_law_1434 : decode cL_law 1434 = .ok (.iconst 1, 1) := fq1_4 (fl_22 (j := 26) rfl rfl)
theorem dL_law_1435 : decode cL_law 1435 = .ok (.iadd, 1) := fq1_96 (fl_22 (j := 27) rfl rfl)
theorem dL_law_1436 : decode cL_law 1436 = .ok (.iaload, 1) := fq1_46 (fl_22 (j := 28) rfl rfl)
theorem dL_law_1437 : decode cL_law 1437 = .ok (.aload_n 0, 1) := fq1_42 (fl_22 (j := 29) rfl rfl)
theorem dL_law_1438 : decode cL_law 1438 = .ok (.iload_n 3, 1) := fq1_29 (fl_22 (j := 30) rfl rfl)
theorem dL_law_1439 : decode cL_law 1439 = .ok (.iconst 2, 1) := fq1_5 (fl_22 (j := 31) rfl rfl)
theorem dL_law_1440 : decode cL_law 1440 = .ok (.iadd, 1) := fq1_96 (fl_22 (j := 32) rfl rfl)
theorem dL_law_1441 : decode cL_law 1441 = .ok (.iaload, 1) := fq1_46 (fl_22 (j := 33) rfl rfl)
theorem dL_law_1442 : decode cL_law 1442 = .ok (.aload_n 0, 1) := fq1_42 (fl_22 (j := 34) rfl rfl)
theorem dL_law_1443 : decode cL_law 1443 = .ok (.iload_n 3, 1) := fq1_29 (fl_22 (j := 35) rfl rfl)
theorem dL_law_1444 : decode cL_law 1444 = .ok (.iconst 3, 1) := fq1_6 (fl_22 (j := 36) rfl rfl)
theorem dL_law_1445 : decode cL_law 1445 = .ok (.iadd, 1) := fq1_96 (fl_22 (j := 37) rfl rfl)
theorem dL_law_1446 : decode cL_law 1446 = .ok (.iaload, 1) := fq1_46 (fl_22 (j := 38) rfl rfl)
theorem dL_law_1447 : decode cL_law 1447 = .ok (.invokevirtual 142, 3) := fq3_182 (fl_22 (j := 39) rfl rfl) (fl_22 (j := 40) rfl rfl) (fl_22 (j := 41) rfl rfl) rfl
theorem dL_law_1450 : decode cL_law 1450 = .ok (.pop, 1) := fq1_87 (fl_22 (j := 42) rfl rfl)
theorem dL_law_1451 : decode cL_law 1451 = .ok (.aload_n 2, 1) := fq1_44 (fl_22 (j := 43) rfl rfl)
theorem dL_law_1452 : decode cL_law 1452 = .ok (.aload_n 0, 1) := fq1_42 (fl_22 (j := 44) rfl rfl)
theorem dL_law_1453 : decode cL_law 1453 = .ok (.iload_n 3, 1) := fq1_29 (fl_22 (j := 45) rfl rfl)
theorem dL_law_1454 : decode cL_law 1454 = .ok (.iconst 1, 1) := fq1_4 (fl_22 (j := 46) rfl rfl)
theorem dL_law_1455 : decode cL_law 1455 = .ok (.iadd, 1) := fq1_96 (fl_22 (j := 47) rfl rfl)
theorem dL_law_1456 : decode cL_law 1456 = .ok (.iaload, 1) := fq1_46 (fl_22 (j := 48) rfl rfl)
theorem dL_law_1457 : decode cL_law 1457 = .ok (.aload_n 0, 1) := fq1_42 (fl_22 (j := 49) rfl rfl)
theorem dL_law_1458 : decode cL_law 1458 = .ok (.iload_n 3, 1) := fq1_29 (fl_22 (j := 50) rfl rfl)
theorem dL_law_1459 : decode cL_law 1459 = .ok (.iconst 2, 1) := fq1_5 (fl_22 (j := 51) rfl rfl)
theorem dL_law_1460 : decode cL_law 1460 = .ok (.iadd, 1) := fq1_96 (fl_22 (j := 52) rfl rfl)
theorem dL_law_1461 : decode cL_law 1461 = .ok (.iaload, 1) := fq1_46 (fl_22 (j := 53) rfl rfl)
theorem dL_law_1462 : decode cL_law 1462 = .ok (.aload_n 0, 1) := fq1_42 (fl_22 (j := 54) rfl rfl)
theorem dL_law_1463 : decode cL_law 1463 = .ok (.iload_n 3, 1) := fq1_29 (fl_22 (j := 55) rfl rfl)
theorem dL_law_1464 : decode cL_law 1464 = .ok (.iconst 3, 1) := fq1_6 (fl_22 (j := 56) rfl rfl)
theorem dL_law_1465 : decode cL_law 1465 = .ok (.iadd, 1) := fq1_96 (fl_22 (j := 57) rfl rfl)
theorem dL_law_1466 : decode cL_law 1466 = .ok (.iaload, 1) := fq1_46 (fl_22 (j := 58) rfl rfl)
theorem dL_law_1467 : decode cL_law 1467 = .ok (.invokevirtual 145, 3) := fq3_182 (fl_22 (j := 59) rfl rfl) (fl_22 (j := 60) rfl rfl) (fl_22 (j := 61) rfl rfl) rfl
theorem dL_law_1470 : decode cL_law 1470 = .ok (.pop, 1) := fq1_87 (fl_22 (j := 62) rfl rfl)
theorem dL_law_1471 : decode cL_law 1471 = .ok (.goto 1375, 3) := fq3_167 (fl_22 (j := 63) rfl rfl) (fl_23 (j := 0) rfl rfl) (fl_23 (j := 1) rfl rfl) (s2p rfl (bl rfl))
theorem dL_law_1474 : decode cL_law 1474 = .ok (.aload_n 1, 1) := fq1_43 (fl_23 (j := 2) rfl rfl)
theorem dL_law_1475 : decode cL_law 1475 = .ok (.aload_n 0, 1) := fq1_42 (fl_23 (j := 3) rfl rfl)
theorem dL_law_1476 : decode cL_law 1476 = .ok (.iload_n 3, 1) := fq1_29 (fl_23 (j := 4) rfl rfl)
theorem dL_law_1477 : decode cL_law 1477 = .ok (.iconst 1, 1) := fq1_4 (fl_23 (j := 5) rfl rfl)
theorem dL_law_1478 : decode cL_law 1478 = .ok (.iadd, 1) := fq1_96 (fl_23 (j := 6) rfl rfl)
theorem dL_law_1479 : decode cL_law 1479 = .ok (.iaload, 1) := fq1_46 (fl_23 (j := 7) rfl rfl)
theorem dL_law_1480 : decode cL_law 1480 = .ok (.aload_n 0, 1) := fq1_42 (fl_23 (j := 8) rfl rfl)
theorem dL_law_1481 : decode cL_law 1481 = .ok (.iload_n 3, 1) := fq1_29 (fl_23 (j := 9) rfl rfl)
theorem dL_law_1482 : decode cL_law 1482 = .ok (.iconst 2, 1) := fq1_5 (fl_23 (j := 10) rfl rfl)
theorem dL_law_1483 : decode cL_law 1483 = .ok (.iadd, 1) := fq1_96 (fl_23 (j := 11) rfl rfl)
theorem dL_law_1484 : decode cL_law 1484 = .ok (.iaload, 1) := fq1_46 (fl_23 (j := 12) rfl rfl)
theorem dL_law_1485 : decode cL_law 1485 = .ok (.invokevirtual 146, 3) := fq3_182 (fl_23 (j := 13) rfl rfl) (fl_23 (j := 14) rfl rfl) (fl_23 (j := 15) rfl rfl) rfl
theorem dL_law_1488 : decode cL_law 1488 = .ok (.pop, 1) := fq1_87 (fl_23 (j := 16) rfl rfl)
theorem dL_law_1489 : decode cL_law 1489 = .ok (.aload_n 2, 1) := fq1_44 (fl_23 (j := 17) rfl rfl)
theorem dL_law_1490 : decode cL_law 1490 = .ok (.aload_n 0, 1) := fq1_42 (fl_23 (j := 18) rfl rfl)
theorem dL_law_1491 : decode cL_law 1491 = .ok (.iload_n 3, 1) := fq1_29 (fl_23 (j := 19) rfl rfl)
theorem dL_law_1492 : decode cL_law 1492 = .ok (.iconst 1, 1) := fq1_4 (fl_23 (j := 20) rfl rfl)
theorem dL_law_1493 : decode cL_law 1493 = .ok (.iadd, 1) := fq1_96 (fl_23 (j := 21) rfl rfl)
theorem dL_law_1494 : decode cL_law 1494 = .ok (.iaload, 1) := fq1_46 (fl_23 (j := 22) rfl rfl)
theorem dL_law_1495 : decode cL_law 1495 = .ok (.aload_n 0, 1) := fq1_42 (fl_23 (j := 23) rfl rfl)
theorem dL_law_1496 : decode cL_law 1496 = .ok (.iload_n 3, 1) := fq1_29 (fl_23 (j := 24) rfl rfl)
theorem dL_law_1497 : decode cL_law 1497 = .ok (.iconst 2, 1) := fq1_5 (fl_23 (j := 25) rfl rfl)
theorem dL_law_1498 : decode cL_law 1498 = .ok (.iadd, 1) := fq1_96 (fl_23 (j := 26) rfl rfl)
theorem dL_law_1499 : decode cL_law 1499 = .ok (.iaload, 1) := fq1_46 (fl_23 (j := 27) rfl rfl)
theorem dL_law_1500 : decode cL_law 1500 = .ok (.invokevirtual 149, 3) := fq3_182 (fl_23 (j := 28) rfl rfl) (fl_23 (j := 29) rfl rfl) (fl_23 (j := 30) rfl rfl) rfl
theorem dL_law_1503 : decode cL_law 1503 = .ok (.pop, 1) := fq1_87 (fl_23 (j := 31) rfl rfl)
theorem dL_law_1504 : decode cL_law 1504 = .ok (.goto 1342, 3) := fq3_167 (fl_23 (j := 32) rfl rfl) (fl_23 (j := 33) rfl rfl) (fl_23 (j := 34) rfl rfl) (s2p rfl (bl rfl))
theorem dL_law_1507 : decode cL_law 1507 = .ok (.aload_n 1, 1) := fq1_43 (fl_23 (j := 35) rfl rfl)
theorem dL_law_1508 : decode cL_law 1508 = .ok (.aload_n 0, 1) := fq1_42 (fl_23 (j := 36) rfl rfl)
theorem dL_law_1509 : decode cL_law 1509 = .ok (.iload_n 3, 1) := fq1_29 (fl_23 (j := 37) rfl rfl)
theorem dL_law_1510 : decode cL_law 1510 = .ok (.iconst 1, 1) := fq1_4 (fl_23 (j := 38) rfl rfl)
theorem dL_law_1511 : decode cL_law 1511 = .ok (.iadd, 1) := fq1_96 (fl_23 (j := 39) rfl rfl)
theorem dL_law_1512 : decode cL_law 1512 = .ok (.iaload, 1) := fq1_46 (fl_23 (j := 40) rfl rfl)
theorem dL_law_1513 : decode cL_law 1513 = .ok (.aload_n 0, 1) := fq1_42 (fl_23 (j := 41) rfl rfl)
theorem dL_law_1514 : decode cL_law 1514 = .ok (.iload_n 3, 1) := fq1_29 (fl_23 (j := 42) rfl rfl)
theorem dL_law_1515 : decode cL_law 1515 = .ok (.iconst 2, 1) := fq1_5 (fl_23 (j := 43) rfl rfl)
theorem dL_law_1516 : decode cL_law 1516 = .ok (.iadd, 1) := fq1_96 (fl_23 (j := 44) rfl rfl)
theorem dL_law_1517 : decode cL_law 1517 = .ok (.iaload, 1) := fq1_46 (fl_23 (j := 45) rfl rfl)
theorem dL_law_1518 : decode cL_law 1518 = .ok (.aload_n 0, 1) := fq1_42 (fl_23 (j := 46) rfl rfl)
theorem dL_law_1519 : decode cL_law 1519 = .ok (.iload_n 3, 1) := fq1_29 (fl_23 (j := 47) rfl rfl)
theorem dL_law_1520 : decode cL_law 1520 = .ok (.iconst 3, 1) := fq1_6 (fl_23 (j := 48) rfl rfl)
theorem dL_law_1521 : decode cL_law 1521 = .ok (.iadd, 1) := fq1_96 (fl_23 (j := 49) rfl rfl)
theorem dL_law_1522 : decode cL_law 1522 = .ok (.iaload, 1) := fq1_46 (fl_23 (j := 50) rfl rfl)
theorem dL_law_1523 : decode cL_law 1523 = .ok (.invokevirtual 150, 3) := fq3_182 (fl_23 (j := 51) rfl rfl) (fl_23 (j := 52) rfl rfl) (fl_23 (j := 53) rfl rfl) rfl
theorem dL_law_1526 : decode cL_law 1526 = .ok (.pop, 1) := fq1_87 (fl_23 (j := 54) rfl rfl)
theorem dL_law_1527 : decode cL_law 1527 = .ok (.aload_n 2, 1) := fq1_44 (fl_23 (j := 55) rfl rfl)
theorem dL_law_1528 : decode cL_law 1528 = .ok (.aload_n 0, 1) := fq1_42 (fl_23 (j := 56) rfl rfl)
theorem dL_law_1529 : decode cL_law 1529 = .ok (.iload_n 3, 1) := fq1_29 (fl_23 (j := 57) rfl rfl)
theorem dL_law_1530 : decode cL_law 1530 = .ok (.iconst 1, 1) := fq1_4 (fl_23 (j := 58) rfl rfl)
theorem dL_law_1531 : decode cL_law 1531 = .ok (.iadd, 1) := fq1_96 (fl_23 (j := 59) rfl rfl)
theorem dL_law_1532 : decode cL_law 1532 = .ok (.iaload, 1) := fq1_46 (fl_23 (j := 60) rfl rfl)
theorem dL_law_1533 : decode cL_law 1533 = .ok (.aload_n 0, 1) := fq1_42 (fl_23 (j := 61) rfl rfl)
theorem dL_law_1534 : decode cL_law 1534 = .ok (.iload_n 3, 1) := fq1_29 (fl_23 (j := 62) rfl rfl)
theorem dL_law_1535 : decode cL_law 1535 = .ok (.iconst 2, 1) := fq1_5 (fl_23 (j := 63) rfl rfl)
theorem dL_law_1536 : decode cL_law 1536 = .ok (.iadd, 1) := fq1_96 (fl_24 (j := 0) rfl rfl)
theorem dL_law_1537 : decode cL_law 1537 = .ok (.iaload, 1) := fq1_46 (fl_24 (j := 1) rfl rfl)
theorem dL_law_1538 : decode cL_law 1538 = .ok (.aload_n 0, 1) := fq1_42 (fl_24 (j := 2) rfl rfl)
theorem dL_law_1539 : decode cL_law 1539 = .ok (.iload_n 3, 1) := fq1_29 (fl_24 (j := 3) rfl rfl)
theorem dL_law_1540 : decode cL_law 1540 = .ok (.iconst 3, 1) := fq1_6 (fl_24 (j := 4) rfl rfl)
theorem dL_law_1541 : decode cL_law 1541 = .ok (.iadd, 1) := fq1_96 (fl_24 (j := 5) rfl rfl)
theorem dL_law_1542 : decode cL_law 1542 = .ok (.iaload, 1) := fq1_46 (fl_24 (j := 6) rfl rfl)
theorem dL_law_1543 : decode cL_law 1543 = .ok (.invokevirtual 153, 3) := fq3_182 (fl_24 (j := 7) rfl rfl) (fl_24 (j := 8) rfl rfl) (fl_24 (j := 9) rfl rfl) rfl
theorem dL_law_1546 : decode cL_law 1546 = .ok (.pop, 1) := fq1_87 (fl_24 (j := 10) rfl rfl)
theorem dL_law_1547 : decode cL_law 1547 = .ok (.goto 1299, 3) := fq3_167 (fl_24 (j := 11) rfl rfl) (fl_24 (j := 12) rfl rfl) (fl_24 (j := 13) rfl rfl) (s2p rfl (bl rfl))
end

section
set_option maxHeartbeats 40000000 in
set_option maxRecDepth 100000 in
theorem law_c24 {p : Program} {e : Env} {s : State} {m : MethodId} {below : List Frame} {meth : Method} {c : Code} (l : Launch) {b L : Nat} {xs : Nat → Int32} {A : Nat → Prop} {D : va_G} {k : Nat → ClassId} {sa sv : Nat} {i : Int} (C : LFX p s m meth c b L xs A D k sa sv) (hi : 0 ≤ i ∧ i + 6 ≤ (L : Int)) (hk : LAT p l e s m below meth c b A D k 2846 i) : LAT p l e s m below meth c b A D k 1226 i := by
  obtain ⟨hx, hb, hr, hml, hown, hts, hKK, hX, hbl, hbA, hA, hAf, hlocks, hSY, hRR, hL⟩ := id C
  intro a IA LA FA QA VA IB LB FB QB VB IC LC FC QC VC ID LD FD QD VD IR LR FR QR VR r H locs ls hI hRT hP hD hS hl
  have hK := hKK.1
  obtain ⟨hP, hD⟩ : PD D A ((GA k a IA LA FA QA VA r) ++ ((GB k a IB LB FB QB VB r) ++ ((GC k a IC LC FC QC VC r) ++ ((GD k a ID LD FD QD VD r) ++ ((GR k a IR LR FR QR VR r) ++ (r.tl)))))) H := ⟨hP, hD⟩
  obtain ⟨hWI, hWI_0, hWI_1, hWI_2, hrd, htr0, htr1, htr2, htr3, hrgk, hrgt, hdrc, hev, hmk, hM, hMK, hTI, hFS, htd, hlt, rgH, rgS, rgY, hdr, hit, hmmk, heq, htq, hrel, hbf, htb, hkw, hSK, hSK0, hSK1, hSK2, hNE, hNE0, hNE1, hNE2, hLE, hYE, hQE, hLE0, hLE1, hLE2, hYE0, hYE1, hYE2⟩ := id hI
  obtain ⟨gw1, gw2, gw3, gw4, gw5, gw6, gw7, gw8, gw9, gw10, gw11⟩ := id hWI
  have hx0 := gw9
  have hYI := gw11
  have hpf : rgI (FR 3) (-128) 127 900 := fun e h1 h2 => by rw [← htb e h1 h2]; exact hbf e h1 h2
  obtain ⟨z1, hz1, hz1a, hz1b⟩ := i32_z (xs (iZ (i + 1)).toNatClampNeg)
  obtain ⟨z2, hz2, hz2a, hz2b⟩ := i32_z (xs (iZ (i + 2)).toNatClampNeg)
  obtain ⟨z3, hz3, hz3a, hz3b⟩ := i32_z (xs (iZ (i + 3)).toNatClampNeg)
  obtain ⟨z4, hz4, hz4a, hz4b⟩ := i32_z (xs (iZ (i + 4)).toNatClampNeg)
  obtain ⟨z5, hz5, hz5a, hz5b⟩ := i32_z (xs (iZ (i + 5)).toNatClampNeg)
  have hl : lv_has ls 4 [(3, .int (iZ i)), (2, .ref (a 106)), (1, .ref (a 0)), (0, .ref b)] := hl
  have hls := hQE.1
  replace hls : _ := hls
  refine lv_aload_n hx hb dL_law_1226 rfl (lv_at hl 2 rfl) ?_
  refine lv_aload_n hx hb dL_law_1227 rfl (lv_at hl 3 rfl) ?_
  refine lv_iload_n hx hb dL_law_1228 rfl (lv_at hl 0 rfl) ?_
  refine lv_iconst (v := iZ 1) hx hb dL_law_1229 rfl ?_
  refine lv_iadd hx hb dL_law_1230 ?_
  refine lv_topi (fun x_1 ex_1 => ?_)
  obtain rfl : x_1 = iZ (i + 1) := ex_1.trans (iZ_add i 1)
  refine va_sld hx hb hX hbl hbA hS (zi1 hi hL) dL_law_1231 ?_
  refine lv_topi (fun x_2 ex_2 => ?_)
  obtain rfl : x_2 = iZ z1 := ex_2.trans hz1
  obtain ⟨hP, hD⟩ := PD.mid4 ⟨hP, hD⟩
  refine CXM (mid := (GB k a IB LB FB QB VB r) ++ ((GC k a IC LC FC QC VC r) ++ ((GD k a ID LD FD QD VD r) ++ ((GR k a IR LR FR QR VR r))))) (c0 := 123) (s0 := 16705) (r := r) (As := [.int (iZ z1)]) (rest := []) hx hb hml hown hts hKK hP hD hS hA (p_blind l D k (a 0) (a 1) (a 2) (a 3) (a 4) (a 5) (a 6) (a 7) (a 8) (a 9) (a 10) (a 11) (IA 0) (IA 1) (IA 2) (LA 0) (LA 1) ([.ref (a 26), .ref (a 27), .ref (a 28), .int (iZ (IA 3)), .int (iZ (IA 4)), .int (iZ (IA 5)), .int (iZ (IA 6))]) (a 23) (a 27) (a 28) (a 24) (a 25) (IA 3) (IA 4) (IA 5) (FA 0) (FA 1) z1 r hRT rfl rfl rfl rfl rfl (by first | with_reducible assumption | omega) hx0 (by first | with_reducible assumption | omega) (by first | with_reducible assumption | omega) (by first | with_reducible assumption | omega) ⟨hz1a, hz1b⟩) ci_X11_blind qm_L_122 ⟨Nat.le_of_ble_eq_true rfl, Nat.le_of_ble_eq_true rfl⟩ ⟨Nat.le_of_ble_eq_true rfl, Nat.le_of_ble_eq_true rfl⟩ [0, 1, 17, 2, 6, 7] [3, 4, 5, 8, 9, 10, 11, 12, 13, 14, 15, 16, 18, 19, 20, 21, 22, 23, 24, 25] rfl rfl rfl (by decide +kernel) (by decide +kernel) (by decide +kernel) 0 rfl rfl rfl hl.1 rfl (Nat.le_of_ble_eq_true rfl) dL_law_1232 (fun u_3 H locs hφ hP hD hS => ?_)
  obtain ⟨r_4, v_5⟩ := u_3
  have rtr_4 : (RT k) (RX (FA 0) (FA 1) (IA 3) (IA 4)) r_4 := hφ
  obtain ⟨hP, hD⟩ := PD.dim4 ⟨hP, hD⟩
  obtain ⟨hP, hD⟩ := PD.by3 (is := [20, 21, 23, 0, 1, 2, 24, 25, 3, 4, 5, 6, 7, 8, 9, 10, 11, 22, 12, 13, 14, 15, 16, 17, 18, 19]) (y := (GA k a (u9 IA 2 v_5.1.2) LA FA QA VA r_4)) ⟨hP, hD⟩ (by decide +kernel) rfl rfl
  refine W.ceq (cells' := 123 + cz true r_4.b) (slots' := 16705 + sz true r_4.b) rfl rfl ?_
  refine W.eq (g2 := F0 m 1235 ls [.int (iZ v_5.1.1)]) rfl ?_
  refine lv_pop hx hb dL_law_1235 rfl ?_
  refine lv_aload_n hx hb dL_law_1236 rfl (lv_at hl 1 rfl) ?_
  refine lv_aload_n hx hb dL_law_1237 rfl (lv_at hl 3 rfl) ?_
  refine lv_iload_n hx hb dL_law_1238 rfl (lv_at hl 0 rfl) ?_
  refine lv_iconst (v := iZ 1) hx hb dL_law_1239 rfl ?_
  refine lv_iadd hx hb dL_law_1240 ?_
  refine lv_topi (fun x_6 ex_6 => ?_)
  obtain rfl : x_6 = iZ (i + 1) := ex_6.trans (iZ_add i 1)
  refine va_sld hx hb hX hbl hbA hS (zi1 hi hL) dL_law_1241 ?_
  refine lv_topi (fun x_7 ex_7 => ?_)
  obtain rfl : x_7 = iZ z1 := ex_7.trans hz1
  obtain ⟨hP, hD⟩ := PD.fr5 ⟨hP, hD⟩
  refine CKV2 (As := [.int (iZ z1)]) (rest := []) (tl := (GA k a (u9 IA 2 v_5.1.2) LA FA QA VA r_4) ++ ((GB k a IB LB FB QB VB r) ++ ((GC k a IC LC FC QC VC r) ++ ((GD k a ID LD FD QD VD r) ++ (r_4.tl))))) hx hb hml hown hts hKK hP hD hS hA (q_blind l D k (a 106) (a 107) (a 108) (a 109) (a 110) (a 111) (a 112) (a 113) (a 114) (a 115) (a 116) (a 117) (a 118) (a 119) (a 120) (a 121) (a 122) (IR 0) (IR 1) (IR 2) (IR 3) (IR 4) (IR 5) (IR 6) (IR 7) (IR 8) (IR 9) (IR 10) (IR 11) (IR 12) (IR 13) (IR 14) (IR 15) (IR 16) (IR 17) (LR 0) (LR 1) (FR 0) z1 hM ⟨hz1a, hz1b⟩) ci_X12_blind qm_L_125 ⟨Nat.le_of_ble_eq_true rfl, Nat.le_of_ble_eq_true rfl⟩ (lroom _) [0, 1] [2, 3, 4, 5, 6, 7, 8, 9, 10, 11, 12, 13, 14, 15, 16] rfl rfl rfl (by decide +kernel) (by decide +kernel) (by decide +kernel) 0 rfl rfl rfl hl.1 rfl (Nat.le_of_ble_eq_true rfl) dL_law_1242 (fun u_8 H locs hφ hP hD hS => ?_)
  obtain ⟨hP, hD⟩ := PD.by3 (is := [15, 16, 0, 1, 2, 3, 4, 5, 6, 7, 8, 9, 10, 11, 12, 13, 14]) (y := (GR k a (u9 IR 0 u_8.1.2) LR FR QR VR r_4)) ⟨hP, hD⟩ (by decide +kernel) rfl rfl
  refine W.eq (g2 := F0 m 1245 ls [.int (iZ u_8.1.1)]) rfl ?_
  refine lv_pop hx hb dL_law_1245 rfl ?_
  refine lv_goto (tgt := 2846) hx hb dL_law_1246 rfl ?_
  obtain ⟨hP, hD⟩ := PD.fr5 ⟨hP, hD⟩
  obtain ⟨hP, hD⟩ := PD.fr5 ⟨hP, hD⟩
  obtain ⟨hP, hD⟩ := PD.fr5 ⟨hP, hD⟩
  obtain ⟨hP, hD⟩ := PD.fr5 ⟨hP, hD⟩
  exact hk a (u9 IA 2 v_5.1.2) LA FA QA VA IB LB FB QB VB IC LC FC QC VC ID LD FD QD VD (u9 IR 0 u_8.1.2) LR FR QR VR r_4 H locs ls (show INV _ _ _ _ _ _ _ _ _ _ _ _ _ _ _ from ⟨hWI, hWI_0, hWI_1, hWI_2, hrd, htr0, htr1, htr2, htr3, hrgk, hrgt, hdrc, hev, hmk, hM, hMK, hTI, hFS, htd, hlt, rgH, rgS, rgY, hdr, hit, hmmk, heq, htq, hrel, hbf, htb, hkw, hSK, hSK0, hSK1, hSK2, hNE, hNE0, hNE1, hNE2, hLE, hYE, hQE, hLE0, hLE1, hLE2, hYE0, hYE1, hYE2⟩) rtr_4 hP hD hS (lv_sub hl [0, 1, 2, 3] rfl)
set_option maxHeartbeats 40000000 in
set_option maxRecDepth 100000 in
theorem law_c25 {p : Program} {e : Env} {s : State} {m : MethodId} {below : List Frame} {meth : Method} {c : Code} (l : Launch) {b L : Nat} {xs : Nat → Int32} {A : Nat → Prop} {D : va_G} {k : Nat → ClassId} {sa sv : Nat} {i : Int} (C : LFX p s m meth c b L xs A D k sa sv) (hi : 0 ≤ i ∧ i + 6 ≤ (L : Int)) (hk : LAT p l e s m below meth c b A D k 2846 i) : LAT p l e s m below meth c b A D k 1249 i := by
  obtain ⟨hx, hb, hr, hml, hown, hts, hKK, hX, hbl, hbA, hA, hAf, hlocks, hSY, hRR, hL⟩ := id C
  intro a IA LA FA QA VA IB LB FB QB VB IC LC FC QC VC ID LD FD QD VD IR LR FR QR VR r H locs ls hI hRT hP hD hS hl
  have hK := hKK.1
  obtain ⟨hP, hD⟩ : PD D A ((GA k a IA LA FA QA VA r) ++ ((GB k a IB LB FB QB VB r) ++ ((GC k a IC LC FC QC VC r) ++ ((GD k a ID LD FD QD VD r) ++ ((GR k a IR LR FR QR VR r) ++ (r.tl)))))) H := ⟨hP, hD⟩
  obtain ⟨hWI, hWI_0, hWI_1, hWI_2, hrd, htr0, htr1, htr2, htr3, hrgk, hrgt, hdrc, hev, hmk, hM, hMK, hTI, hFS, htd, hlt, rgH, rgS, rgY, hdr, hit, hmmk, heq, htq, hrel, hbf, htb, hkw, hSK, hSK0, hSK1, hSK2, hNE, hNE0, hNE1, hNE2, hLE, hYE, hQE, hLE0, hLE1, hLE2, hYE0, hYE1, hYE2⟩ := id hI
  obtain ⟨gw1, gw2, gw3, gw4, gw5, gw6, gw7, gw8, gw9, gw10, gw11⟩ := id hWI
  have hx0 := gw9
  have hYI := gw11
  have hpf : rgI (FR 3) (-128) 127 900 := fun e h1 h2 => by rw [← htb e h1 h2]; exact hbf e h1 h2
  obtain ⟨z1, hz1, hz1a, hz1b⟩ := i32_z (xs (iZ (i + 1)).toNatClampNeg)
  obtain ⟨z2, hz2, hz2a, hz2b⟩ := i32_z (xs (iZ (i + 2)).toNatClampNeg)
  obtain ⟨z3, hz3, hz3a, hz3b⟩ := i32_z (xs (iZ (i + 3)).toNatClampNeg)
  obtain ⟨z4, hz4, hz4a, hz4b⟩ := i32_z (xs (iZ (i + 4)).toNatClampNeg)
  obtain ⟨z5, hz5, hz5a, hz5b⟩ := i32_z (xs (iZ (i + 5)).toNatClampNeg)
  have hl : lv_has ls 4 [(3, .int (iZ i)), (2, .ref (a 106)), (1, .ref (a 0)), (0, .ref b)] := hl
  have hls := hQE.1
  replace hls : _ := hls
  refine lv_aload_n hx hb dL_law_1249 rfl (lv_at hl 2 rfl) ?_
  refine lv_aload_n hx hb dL_law_1250 rfl (lv_at hl 3 rfl) ?_
  refine lv_iload_n hx hb dL_law_1251 rfl (lv_at hl 0 rfl) ?_
  refine lv_iconst (v := iZ 1) hx hb dL_law_1252 rfl ?_
  refine lv_iadd hx hb dL_law_1253 ?_
  refine lv_topi (fun x_1 ex_1 => ?_)
  obtain rfl : x_1 = iZ (i + 1) := ex_1.trans (iZ_add i 1)
  refine va_sld hx hb hX hbl hbA hS (zi1 hi hL) dL_law_1254 ?_
  refine lv_topi (fun x_2 ex_2 => ?_)
  obtain rfl : x_2 = iZ z1 := ex_2.trans hz1
  refine lv_aload_n hx hb dL_law_1255 rfl (lv_at hl 3 rfl) ?_
  refine lv_iload_n hx hb dL_law_1256 rfl (lv_at hl 0 rfl) ?_
  refine lv_iconst (v := iZ 2) hx hb dL_law_1257 rfl ?_
  refine lv_iadd hx hb dL_law_1258 ?_
  refine lv_topi (fun x_3 ex_3 => ?_)
  obtain rfl : x_3 = iZ (i + 2) := ex_3.trans (iZ_add i 2)
  refine va_sld hx hb hX hbl hbA hS (zi2 hi hL) dL_law_1259 ?_
  refine lv_topi (fun x_4 ex_4 => ?_)
  obtain rfl : x_4 = iZ z2 := ex_4.trans hz2
  refine lv_aload_n hx hb dL_law_1260 rfl (lv_at hl 3 rfl) ?_
  refine lv_iload_n hx hb dL_law_1261 rfl (lv_at hl 0 rfl) ?_
  refine lv_iconst (v := iZ 3) hx hb dL_law_1262 rfl ?_
  refine lv_iadd hx hb dL_law_1263 ?_
  refine lv_topi (fun x_5 ex_5 => ?_)
  obtain rfl : x_5 = iZ (i + 3) := ex_5.trans (iZ_add i 3)
  refine va_sld hx hb hX hbl hbA hS (zi3 hi hL) dL_law_1264 ?_
  refine lv_topi (fun x_6 ex_6 => ?_)
  obtain rfl : x_6 = iZ z3 := ex_6.trans hz3
  refine lv_aload_n hx hb dL_law_1265 rfl (lv_at hl 3 rfl) ?_
  refine lv_iload_n hx hb dL_law_1266 rfl (lv_at hl 0 rfl) ?_
  refine lv_iconst (v := iZ 4) hx hb dL_law_1267 rfl ?_
  refine lv_iadd hx hb dL_law_1268 ?_
  refine lv_topi (fun x_7 ex_7 => ?_)
  obtain rfl : x_7 = iZ (i + 4) := ex_7.trans (iZ_add i 4)
  refine va_sld hx hb hX hbl hbA hS (zi4 hi hL) dL_law_1269 ?_
  refine lv_topi (fun x_8 ex_8 => ?_)
  obtain rfl : x_8 = iZ z4 := ex_8.trans hz4
  refine CKV2 (As := [.int (iZ z1), .int (iZ z2), .int (iZ z3), .int (iZ z4)]) (rest := []) (tl := (GB k a IB LB FB QB VB r) ++ ((GC k a IC LC FC QC VC r) ++ ((GD k a ID LD FD QD VD r) ++ ((GR k a IR LR FR QR VR r) ++ (r.tl))))) hx hb hml hown hts hKK hP hD hS hA (p_closest l D k (a 0) (a 1) (a 2) (a 3) (a 4) (a 5) (a 6) (a 7) (a 8) (a 9) (a 10) (a 11) (IA 0) (IA 1) (IA 2) (LA 0) (LA 1) ([.ref (a 26), .ref (a 27), .ref (a 28), .int (iZ (IA 3)), .int (iZ (IA 4)), .int (iZ (IA 5)), .int (iZ (IA 6))]) (a 23) (a 27) (a 28) (a 24) (a 25) (IA 3) (IA 4) (IA 5) (FA 0) (FA 1) z1 z2 z3 z4 rfl rfl rfl rfl rfl (by first | with_reducible assumption | omega) hx0 (by first | with_reducible assumption | omega) (by first | with_reducible assumption | omega) (by first | with_reducible assumption | omega) ⟨hz1a, hz1b⟩ ⟨hz2a, hz2b⟩ ⟨hz3a, hz3b⟩ ⟨hz4a, hz4b⟩) ci_X11_closest qm_L_126 ⟨Nat.le_of_ble_eq_true rfl, Nat.le_of_ble_eq_true rfl⟩ (lroom _) [0, 1, 2, 6, 7] [3, 4, 5, 8, 9, 10, 11, 12, 13, 14, 15, 16, 17, 18, 19, 20, 21, 22, 23, 24, 25] rfl rfl rfl (by decide +kernel) (by decide +kernel) (by decide +kernel) 0 rfl rfl rfl hl.1 rfl (Nat.le_of_ble_eq_true rfl) dL_law_1270 (fun u_9 H locs hφ hP hD hS => ?_)
  have p_10 : (((0 ≤ z1 ∧ z1 < (IA 3)) ∧ (0 ≤ z2 ∧ z2 < (IA 3)) ∧ ¬ z1 = z2 ∧ (0 ≤ z3 ∧ z3 ≤ 400) ∧ (0 ≤ z4 ∧ z4 ≤ 40)) ∧ isCs (FA 0) z1 z2 z3 z4 u_9.1.1) ∨ (¬ ((0 ≤ z1 ∧ z1 < (IA 3)) ∧ (0 ≤ z2 ∧ z2 < (IA 3)) ∧ ¬ z1 = z2 ∧ (0 ≤ z3 ∧ z3 ≤ 400) ∧ (0 ≤ z4 ∧ z4 ≤ 40)) ∧ (u_9.1.1 : Int) = -1) := hφ
  obtain ⟨hP, hD⟩ := PD.by3 (is := [21, 22, 23, 0, 1, 2, 24, 25, 3, 4, 5, 6, 7, 8, 9, 10, 11, 12, 13, 14, 15, 16, 17, 18, 19, 20]) (y := (GA k a (u9 IA 2 u_9.1.2) LA FA QA VA r)) ⟨hP, hD⟩ (by decide +kernel) rfl rfl
  refine W.eq (g2 := F0 m 1273 ls [.int (iZ u_9.1.1)]) rfl ?_
  refine lv_pop hx hb dL_law_1273 rfl ?_
  refine lv_aload_n hx hb dL_law_1274 rfl (lv_at hl 1 rfl) ?_
  refine lv_aload_n hx hb dL_law_1275 rfl (lv_at hl 3 rfl) ?_
  refine lv_iload_n hx hb dL_law_1276 rfl (lv_at hl 0 rfl) ?_
  refine lv_iconst (v := iZ 1) hx hb dL_law_1277 rfl ?_
  refine lv_iadd hx hb dL_law_1278 ?_
  refine lv_topi (fun x_11 ex_11 => ?_)
  obtain rfl : x_11 = iZ (i + 1) := ex_11.trans (iZ_add i 1)
  refine va_sld hx hb hX hbl hbA hS (zi1 hi hL) dL_law_1279 ?_
  refine lv_topi (fun x_12 ex_12 => ?_)
  obtain rfl : x_12 = iZ z1 := ex_12.trans hz1
  refine lv_aload_n hx hb dL_law_1280 rfl (lv_at hl 3 rfl) ?_
  refine lv_iload_n hx hb dL_law_1281 rfl (lv_at hl 0 rfl) ?_
  refine lv_iconst (v := iZ 2) hx hb dL_law_1282 rfl ?_
  refine lv_iadd hx hb dL_law_1283 ?_
  refine lv_topi (fun x_13 ex_13 => ?_)
  obtain rfl : x_13 = iZ (i + 2) := ex_13.trans (iZ_add i 2)
  refine va_sld hx hb hX hbl hbA hS (zi2 hi hL) dL_law_1284 ?_
  refine lv_topi (fun x_14 ex_14 => ?_)
  obtain rfl : x_14 = iZ z2 := ex_14.trans hz2
  refine lv_aload_n hx hb dL_law_1285 rfl (lv_at hl 3 rfl) ?_
  refine lv_iload_n hx hb dL_law_1286 rfl (lv_at hl 0 rfl) ?_
  refine lv_iconst (v := iZ 3) hx hb dL_law_1287 rfl ?_
  refine lv_iadd hx hb dL_law_1288 ?_
  refine lv_topi (fun x_15 ex_15 => ?_)
  obtain rfl : x_15 = iZ (i + 3) := ex_15.trans (iZ_add i 3)
  refine va_sld hx hb hX hbl hbA hS (zi3 hi hL) dL_law_1289 ?_
  refine lv_topi (fun x_16 ex_16 => ?_)
  obtain rfl : x_16 = iZ z3 := ex_16.trans hz3
  refine lv_aload_n hx hb dL_law_1290 rfl (lv_at hl 3 rfl) ?_
  refine lv_iload_n hx hb dL_law_1291 rfl (lv_at hl 0 rfl) ?_
  refine lv_iconst (v := iZ 4) hx hb dL_law_1292 rfl ?_
  refine lv_iadd hx hb dL_law_1293 ?_
  refine lv_topi (fun x_17 ex_17 => ?_)
  obtain rfl : x_17 = iZ (i + 4) := ex_17.trans (iZ_add i 4)
  refine va_sld hx hb hX hbl hbA hS (zi4 hi hL) dL_law_1294 ?_
  refine lv_topi (fun x_18 ex_18 => ?_)
  obtain rfl : x_18 = iZ z4 := ex_18.trans hz4
  obtain ⟨hP, hD⟩ := PD.fr5 ⟨hP, hD⟩
  refine CKV2 (As := [.int (iZ z1), .int (iZ z2), .int (iZ z3), .int (iZ z4)]) (rest := []) (tl := (GA k a (u9 IA 2 u_9.1.2) LA FA QA VA r) ++ ((GB k a IB LB FB QB VB r) ++ ((GC k a IC LC FC QC VC r) ++ ((GD k a ID LD FD QD VD r) ++ (r.tl))))) hx hb hml hown hts hKK hP hD hS hA (q_closest l D k (a 106) (a 107) (a 108) (a 109) (a 110) (a 111) (a 112) (a 113) (a 114) (a 115) (a 116) (a 117) (a 118) (a 119) (a 120) (a 121) (a 122) (IR 0) (IR 1) (IR 2) (IR 3) (IR 4) (IR 5) (IR 6) (IR 7) (IR 8) (IR 9) (IR 10) (IR 11) (IR 12) (IR 13) (IR 14) (IR 15) (IR 16) (IR 17) (LR 0) (LR 1) (FR 0) z1 z2 z3 z4 hM ⟨hz1a, hz1b⟩ ⟨hz2a, hz2b⟩ ⟨hz3a, hz3b⟩ ⟨hz4a, hz4b⟩) ci_X12_closest qm_L_129 ⟨Nat.le_of_ble_eq_true rfl, Nat.le_of_ble_eq_true rfl⟩ (lroom _) [0, 1] [2, 3, 4, 5, 6, 7, 8, 9, 10, 11, 12, 13, 14, 15, 16] rfl rfl rfl (by decide +kernel) (by decide +kernel) (by decide +kernel) 0 rfl rfl rfl hl.1 rfl (Nat.le_of_ble_eq_true rfl) dL_law_1295 (fun u_19 H locs hφ hP hD hS => ?_)
  have p_20 : (((0 ≤ z1 ∧ z1 < (gz (FR 0) 0)) ∧ (0 ≤ z2 ∧ z2 < (gz (FR 0) 0)) ∧ ¬ z1 = z2 ∧ (0 ≤ z3 ∧ z3 ≤ 400) ∧ (0 ≤ z4 ∧ z4 ≤ 40)) ∧ isCs (sh (FR 0) 10) z1 z2 z3 z4 u_19.1.1) ∨ (¬ ((0 ≤ z1 ∧ z1 < (gz (FR 0) 0)) ∧ (0 ≤ z2 ∧ z2 < (gz (FR 0) 0)) ∧ ¬ z1 = z2 ∧ (0 ≤ z3 ∧ z3 ≤ 400) ∧ (0 ≤ z4 ∧ z4 ≤ 40)) ∧ (u_19.1.1 : Int) = -1) := hφ
  obtain ⟨hP, hD⟩ := PD.by3 (is := [15, 16, 0, 1, 2, 3, 4, 5, 6, 7, 8, 9, 10, 11, 12, 13, 14]) (y := (GR k a (u9 IR 0 u_19.1.2) LR FR QR VR r)) ⟨hP, hD⟩ (by decide +kernel) rfl rfl
  refine W.eq (g2 := F0 m 1298 ls [.int (iZ u_19.1.1)]) rfl ?_
  refine lv_pop hx hb dL_law_1298 rfl ?_
  refine lv_goto (tgt := 2846) hx hb dL_law_1299 rfl ?_
  obtain ⟨hP, hD⟩ := PD.fr5 ⟨hP, hD⟩
  obtain ⟨hP, hD⟩ := PD.fr5 ⟨hP, hD⟩
  obtain ⟨hP, hD⟩ := PD.fr5 ⟨hP, hD⟩
  obtain ⟨hP, hD⟩ := PD.fr5 ⟨hP, hD⟩
  exact hk a (u9 IA 2 u_9.1.2) LA FA QA VA IB LB FB QB VB IC LC FC QC VC ID LD FD QD VD (u9 IR 0 u_19.1.2) LR FR QR VR r H locs ls (show INV _ _ _ _ _ _ _ _ _ _ _ _ _ _ _ from ⟨hWI, hWI_0, hWI_1, hWI_2, hrd, htr0, htr1, htr2, htr3, hrgk, hrgt, hdrc, hev, hmk, hM, hMK, hTI, hFS, htd, hlt, rgH, rgS, rgY, hdr, hit, hmmk, heq, htq, hrel, hbf, htb, hkw, hSK, hSK0, hSK1, hSK2, hNE, hNE0, hNE1, hNE2, hLE, hYE, hQE, hLE0, hLE1, hLE2, hYE0, hYE1, hYE2⟩) hRT hP hD hS (lv_sub hl [0, 1, 2, 3] rfl)
set_option maxHeartbeats 40000000 in
set_option maxRecDepth 100000 in
theorem law_c26 {p : Program} {e : Env} {s : State} {m : MethodId} {below : List Frame} {meth : Method} {c : Code} (l : Launch) {b L : Nat} {xs : Nat → Int32} {A : Nat → Prop} {D : va_G} {k : Nat → ClassId} {sa sv : Nat} {i : Int} (C : LFX p s m meth c b L xs A D k sa sv) (hi : 0 ≤ i ∧ i + 6 ≤ (L : Int)) (hk : LAT p l e s m below meth c b A D k 2846 i) : LAT p l e s m below meth c b A D k 1302 i := by
  obtain ⟨hx, hb, hr, hml, hown, hts, hKK, hX, hbl, hbA, hA, hAf, hlocks, hSY, hRR, hL⟩ := id C
  intro a IA LA FA QA VA IB LB FB QB VB IC LC FC QC VC ID LD FD QD VD IR LR FR QR VR r H locs ls hI hRT hP hD hS hl
  have hK := hKK.1
  obtain ⟨hP, hD⟩ : PD D A ((GA k a IA LA FA QA VA r) ++ ((GB k a IB LB FB QB VB r) ++ ((GC k a IC LC FC QC VC r) ++ ((GD k a ID LD FD QD VD r) ++ ((GR k a IR LR FR QR VR r) ++ (r.tl)))))) H := ⟨hP, hD⟩
  obtain ⟨hWI, hWI_0, hWI_1, hWI_2, hrd, htr0, htr1, htr2, htr3, hrgk, hrgt, hdrc, hev, hmk, hM, hMK, hTI, hFS, htd, hlt, rgH, rgS, rgY, hdr, hit, hmmk, heq, htq, hrel, hbf, htb, hkw, hSK, hSK0, hSK1, hSK2, hNE, hNE0, hNE1, hNE2, hLE, hYE, hQE, hLE0, hLE1, hLE2, hYE0, hYE1, hYE2⟩ := id hI
  obtain ⟨gw1, gw2, gw3, gw4, gw5, gw6, gw7, gw8, gw9, gw10, gw11⟩ := id hWI
  have hx0 := gw9
  have hYI := gw11
  have hpf : rgI (FR 3) (-128) 127 900 := fun e h1 h2 => by rw [← htb e h1 h2]; exact hbf e h1 h2
  obtain ⟨z1, hz1, hz1a, hz1b⟩ := i32_z (xs (iZ (i + 1)).toNatClampNeg)
  obtain ⟨z2, hz2, hz2a, hz2b⟩ := i32_z (xs (iZ (i + 2)).toNatClampNeg)
  obtain ⟨z3, hz3, hz3a, hz3b⟩ := i32_z (xs (iZ (i + 3)).toNatClampNeg)
  obtain ⟨z4, hz4, hz4a, hz4b⟩ := i32_z (xs (iZ (i + 4)).toNatClampNeg)
  obtain ⟨z5, hz5, hz5a, hz5b⟩ := i32_z (xs (iZ (i + 5)).toNatClampNeg)
  have hl : lv_has ls 4 [(3, .int (iZ i)), (2, .ref (a 106)), (1, .ref (a 0)), (0, .ref b)] := hl
  have hls := hQE.1
  replace hls : _ := hls
  refine lv_aload_n hx hb dL_law_1302 rfl (lv_at hl 2 rfl) ?_
  refine lv_aload_n hx hb dL_law_1303 rfl (lv_at hl 3 rfl) ?_
  refine lv_iload_n hx hb dL_law_1304 rfl (lv_at hl 0 rfl) ?_
  refine lv_iconst (v := iZ 1) hx hb dL_law_1305 rfl ?_
  refine lv_iadd hx hb dL_law_1306 ?_
  refine lv_topi (fun x_1 ex_1 => ?_)
  obtain rfl : x_1 = iZ (i + 1) := ex_1.trans (iZ_add i 1)
  refine va_sld hx hb hX hbl hbA hS (zi1 hi hL) dL_law_1307 ?_
  refine lv_topi (fun x_2 ex_2 => ?_)
  obtain rfl : x_2 = iZ z1 := ex_2.trans hz1
  refine lv_aload_n hx hb dL_law_1308 rfl (lv_at hl 3 rfl) ?_
  refine lv_iload_n hx hb dL_law_1309 rfl (lv_at hl 0 rfl) ?_
  refine lv_iconst (v := iZ 2) hx hb dL_law_1310 rfl ?_
  refine lv_iadd hx hb dL_law_1311 ?_
  refine lv_topi (fun x_3 ex_3 => ?_)
  obtain rfl : x_3 = iZ (i + 2) := ex_3.trans (iZ_add i 2)
  refine va_sld hx hb hX hbl hbA hS (zi2 hi hL) dL_law_1312 ?_
  refine lv_topi (fun x_4 ex_4 => ?_)
  obtain rfl : x_4 = iZ z2 := ex_4.trans hz2
  refine lv_aload_n hx hb dL_law_1313 rfl (lv_at hl 3 rfl) ?_
  refine lv_iload_n hx hb dL_law_1314 rfl (lv_at hl 0 rfl) ?_
  refine lv_iconst (v := iZ 3) hx hb dL_law_1315 rfl ?_
  refine lv_iadd hx hb dL_law_1316 ?_
  refine lv_topi (fun x_5 ex_5 => ?_)
  obtain rfl : x_5 = iZ (i + 3) := ex_5.trans (iZ_add i 3)
  refine va_sld hx hb hX hbl hbA hS (zi3 hi hL) dL_law_1317 ?_
  refine lv_topi (fun x_6 ex_6 => ?_)
  obtain rfl : x_6 = iZ z3 := ex_6.trans hz3
  obtain ⟨hP, hD⟩ := PD.mid4 ⟨hP, hD⟩
  refine CXM (mid := (GB k a IB LB FB QB VB r) ++ ((GC k a IC LC FC QC VC r) ++ ((GD k a ID LD FD QD VD r) ++ ((GR k a IR LR FR QR VR r))))) (c0 := 123) (s0 := 16705) (r := r) (As := [.int (iZ z1), .int (iZ z2), .int (iZ z3)]) (rest := []) hx hb hml hown hts hKK hP hD hS hA (p_knows l D k (a 0) (a 1) (a 2) (a 3) (a 4) (a 5) (a 6) (a 7) (a 8) (a 9) (a 10) (a 11) (IA 0) (IA 1) (IA 2) (LA 0) (LA 1) ([.ref (a 26), .ref (a 27), .ref (a 28), .int (iZ (IA 3)), .int (iZ (IA 4)), .int (iZ (IA 5)), .int (iZ (IA 6))]) (a 23) (a 27) (a 28) (a 24) (a 25) (IA 3) (IA 4) (IA 5) (FA 0) (FA 1) (a 101) (a 102) (a 103) (a 104) (FA 11) (FA 12) (FA 13) (FA 14) z1 z2 z3 r hRT rfl rfl rfl rfl rfl (by first | with_reducible assumption | omega) hx0 (by first | with_reducible assumption | omega) (by first | with_reducible assumption | omega) (by first | with_reducible assumption | omega) hrgk hrgt ⟨hz1a, hz1b⟩ ⟨hz2a, hz2b⟩ ⟨hz3a, hz3b⟩) ci_X11_knows qm_L_130 ⟨Nat.le_of_ble_eq_true rfl, Nat.le_of_ble_eq_true rfl⟩ ⟨Nat.le_of_ble_eq_true rfl, Nat.le_of_ble_eq_true rfl⟩ [0, 1, 18, 17, 19, 20, 21, 22, 2, 6, 7] [3, 4, 5, 8, 9, 10, 11, 12, 13, 14, 15, 16, 23, 24, 25] rfl rfl rfl (by decide +kernel) (by decide +kernel) (by decide +kernel) 0 rfl rfl rfl hl.1 rfl (Nat.le_of_ble_eq_true rfl) dL_law_1318 (fun u_7 H locs hφ hP hD hS => ?_)
  obtain ⟨r_8, v_9⟩ := u_7
  obtain ⟨p_10, p_11, p_12, rtr_8⟩ : (rgI v_9.2.2.1.1 (-1) 420 6) ∧ (rgI v_9.2.2.1.2.1 (-1) 5 6) ∧ ((((0 ≤ z1 ∧ z1 < (IA 3)) ∧ (0 ≤ z2 ∧ z2 ≤ 400) ∧ (0 ≤ z3 ∧ z3 < (IA 3))) ∧ (∃ K L B : Int → Int, isNW (arF (FA 0) (FA 1) (IA 4)) (IA 3) z1 z2 K L B ∧ ((K z3 = 1000000 ∧ (v_9.1.1 : Int) = -1) ∨ (K z3 < 1000000 ∧ (v_9.1.1 : Int) = K z3)))) ∨ (¬ ((0 ≤ z1 ∧ z1 < (IA 3)) ∧ (0 ≤ z2 ∧ z2 ≤ 400) ∧ (0 ≤ z3 ∧ z3 < (IA 3))) ∧ (v_9.1.1 : Int) = -1)) ∧ ((RT k) (RX (FA 0) (FA 1) (IA 3) (IA 4)) r_8) := hφ
  obtain ⟨hP, hD⟩ := PD.dim4 ⟨hP, hD⟩
  obtain ⟨hP, hD⟩ := PD.by3 (is := [15, 16, 23, 0, 1, 2, 24, 25, 3, 4, 5, 6, 7, 8, 9, 10, 11, 18, 17, 19, 20, 21, 22, 12, 13, 14]) (y := (GA k a (u9 IA 2 v_9.1.2) LA (u9 (u9 (u9 (u9 FA 11 v_9.2.2.1.1) 12 v_9.2.2.1.2.1) 13 v_9.2.2.1.2.2.1) 14 v_9.2.2.1.2.2.2) QA VA r_8)) ⟨hP, hD⟩ (by decide +kernel) rfl rfl
  refine W.ceq (cells' := 123 + cz true r_8.b) (slots' := 16705 + sz true r_8.b) rfl rfl ?_
  refine W.eq (g2 := F0 m 1321 ls [.int (iZ v_9.1.1)]) rfl ?_
  refine lv_pop hx hb dL_law_1321 rfl ?_
  refine lv_aload_n hx hb dL_law_1322 rfl (lv_at hl 1 rfl) ?_
  refine lv_aload_n hx hb dL_law_1323 rfl (lv_at hl 3 rfl) ?_
  refine lv_iload_n hx hb dL_law_1324 rfl (lv_at hl 0 rfl) ?_
  refine lv_iconst (v := iZ 1) hx hb dL_law_1325 rfl ?_
  refine lv_iadd hx hb dL_law_1326 ?_
  refine lv_topi (fun x_13 ex_13 => ?_)
  obtain rfl : x_13 = iZ (i + 1) := ex_13.trans (iZ_add i 1)
  refine va_sld hx hb hX hbl hbA hS (zi1 hi hL) dL_law_1327 ?_
  refine lv_topi (fun x_14 ex_14 => ?_)
  obtain rfl : x_14 = iZ z1 := ex_14.trans hz1
  refine lv_aload_n hx hb dL_law_1328 rfl (lv_at hl 3 rfl) ?_
  refine lv_iload_n hx hb dL_law_1329 rfl (lv_at hl 0 rfl) ?_
  refine lv_iconst (v := iZ 2) hx hb dL_law_1330 rfl ?_
  refine lv_iadd hx hb dL_law_1331 ?_
  refine lv_topi (fun x_15 ex_15 => ?_)
  obtain rfl : x_15 = iZ (i + 2) := ex_15.trans (iZ_add i 2)
  refine va_sld hx hb hX hbl hbA hS (zi2 hi hL) dL_law_1332 ?_
  refine lv_topi (fun x_16 ex_16 => ?_)
  obtain rfl : x_16 = iZ z2 := ex_16.trans hz2
  refine lv_aload_n hx hb dL_law_1333 rfl (lv_at hl 3 rfl) ?_
  refine lv_iload_n hx hb dL_law_1334 rfl (lv_at hl 0 rfl) ?_
  refine lv_iconst (v := iZ 3) hx hb dL_law_1335 rfl ?_
  refine lv_iadd hx hb dL_law_1336 ?_
  refine lv_topi (fun x_17 ex_17 => ?_)
  obtain rfl : x_17 = iZ (i + 3) := ex_17.trans (iZ_add i 3)
  refine va_sld hx hb hX hbl hbA hS (zi3 hi hL) dL_law_1337 ?_
  refine lv_topi (fun x_18 ex_18 => ?_)
  obtain rfl : x_18 = iZ z3 := ex_18.trans hz3
  obtain ⟨hP, hD⟩ := PD.fr5 ⟨hP, hD⟩
  refine CKV2 (As := [.int (iZ z1), .int (iZ z2), .int (iZ z3)]) (rest := []) (tl := (GA k a (u9 IA 2 v_9.1.2) LA (u9 (u9 (u9 (u9 FA 11 v_9.2.2.1.1) 12 v_9.2.2.1.2.1) 13 v_9.2.2.1.2.2.1) 14 v_9.2.2.1.2.2.2) QA VA r_8) ++ ((GB k a IB LB FB QB VB r) ++ ((GC k a IC LC FC QC VC r) ++ ((GD k a ID LD FD QD VD r) ++ (r_8.tl))))) hx hb hml hown hts hKK hP hD hS hA (q_knows l D k (a 106) (a 107) (a 108) (a 109) (a 110) (a 111) (a 112) (a 113) (a 114) (a 115) (a 116) (a 117) (a 118) (a 119) (a 120) (a 121) (a 122) (IR 0) (IR 1) (IR 2) (IR 3) (IR 4) (IR 5) (IR 6) (IR 7) (IR 8) (IR 9) (IR 10) (IR 11) (IR 12) (IR 13) (IR 14) (IR 15) (IR 16) (IR 17) (LR 0) (LR 1) (FR 0) (FR 6) (FR 7) (FR 8) z1 z2 z3 hM ⟨hz1a, hz1b⟩ ⟨hz2a, hz2b⟩ ⟨hz3a, hz3b⟩) ci_X12_knows qm_L_133 ⟨Nat.le_of_ble_eq_true rfl, Nat.le_of_ble_eq_true rfl⟩ (lroom _) [0, 1, 9, 10, 11] [2, 3, 4, 5, 6, 7, 8, 12, 13, 14, 15, 16] rfl rfl rfl (by decide +kernel) (by decide +kernel) (by decide +kernel) 0 rfl rfl rfl hl.1 rfl (Nat.le_of_ble_eq_true rfl) dL_law_1338 (fun u_19 H locs hφ hP hD hS => ?_)
  have p_20 : (((0 ≤ z1 ∧ z1 < (gz (FR 0) 0)) ∧ (0 ≤ z2 ∧ z2 ≤ 400) ∧ (0 ≤ z3 ∧ z3 < (gz (FR 0) 0))) ∧ (∃ K L B : Int → Int, isNW (arF (sh (FR 0) 10) (sh (FR 0) 46) (gz (FR 0) 1)) (gz (FR 0) 0) z1 z2 K L B ∧ ((K z3 = 1000000 ∧ (u_19.1.1 : Int) = -1) ∨ (K z3 < 1000000 ∧ (u_19.1.1 : Int) = K z3)))) ∨ (¬ ((0 ≤ z1 ∧ z1 < (gz (FR 0) 0)) ∧ (0 ≤ z2 ∧ z2 ≤ 400) ∧ (0 ≤ z3 ∧ z3 < (gz (FR 0) 0))) ∧ (u_19.1.1 : Int) = -1) := hφ
  obtain ⟨hP, hD⟩ := PD.by3 (is := [12, 13, 0, 1, 2, 3, 4, 5, 6, 14, 15, 16, 7, 8, 9, 10, 11]) (y := (GR k a (u9 IR 0 u_19.1.2) LR (u9 (u9 (u9 FR 6 u_19.2.2.1.1) 7 u_19.2.2.1.2.1) 8 u_19.2.2.1.2.2) QR VR r_8)) ⟨hP, hD⟩ (by decide +kernel) rfl rfl
  refine W.eq (g2 := F0 m 1341 ls [.int (iZ u_19.1.1)]) rfl ?_
  refine lv_pop hx hb dL_law_1341 rfl ?_
  refine lv_goto (tgt := 2846) hx hb dL_law_1342 rfl ?_
  obtain ⟨hP, hD⟩ := PD.fr5 ⟨hP, hD⟩
  obtain ⟨hP, hD⟩ := PD.fr5 ⟨hP, hD⟩
  obtain ⟨hP, hD⟩ := PD.fr5 ⟨hP, hD⟩
  obtain ⟨hP, hD⟩ := PD.fr5 ⟨hP, hD⟩
  exact hk a (u9 IA 2 v_9.1.2) LA (u9 (u9 (u9 (u9 FA 11 v_9.2.2.1.1) 12 v_9.2.2.1.2.1) 13 v_9.2.2.1.2.2.1) 14 v_9.2.2.1.2.2.2) QA VA IB LB FB QB VB IC LC FC QC VC ID LD FD QD VD (u9 IR 0 u_19.1.2) LR (u9 (u9 (u9 FR 6 u_19.2.2.1.1) 7 u_19.2.2.1.2.1) 8 u_19.2.2.1.2.2) QR VR r_8 H locs ls (show INV _ _ _ _ _ _ _ _ _ _ _ _ _ _ _ from ⟨hWI, hWI_0, hWI_1, hWI_2, hrd, htr0, htr1, htr2, htr3, (show rgI v_9.2.2.1.1 (-1) 420 6 from (by assumption)), (show rgI v_9.2.2.1.2.1 (-1) 5 6 from (by assumption)), hdrc, hev, hmk, hM, hMK, hTI, hFS, htd, hlt, rgH, rgS, rgY, hdr, hit, hmmk, heq, htq, hrel, hbf, htb, hkw, hSK, hSK0, hSK1, hSK2, hNE, hNE0, hNE1, hNE2, hLE, hYE, hQE, hLE0, hLE1, hLE2, hYE0, hYE1, hYE2⟩) rtr_8 hP hD hS (lv_sub hl [0, 1, 2, 3] rfl)
set_option maxHeartbeats 40000000 in
set_option maxRecDepth 100000 in
theorem law_c27 {p : Program} {e : Env} {s : State} {m : MethodId} {below : List Frame} {meth : Method} {c : Code} (l : Launch) {b L : Nat} {xs : Nat → Int32} {A : Nat → Prop} {D : va_G} {k : Nat → ClassId} {sa sv : Nat} {i : Int} (C : LFX p s m meth c b L xs A D k sa sv) (hi : 0 ≤ i ∧ i + 6 ≤ (L : Int)) (hk : LAT p l e s m below meth c b A D k 2846 i) : LAT p l e s m below meth c b A D k 1345 i := by
  obtain ⟨hx, hb, hr, hml, hown, hts, hKK, hX, hbl, hbA, hA, hAf, hlocks, hSY, hRR, hL⟩ := id C
  intro a IA LA FA QA VA IB LB FB QB VB IC LC FC QC VC ID LD FD QD VD IR LR FR QR VR r H locs ls hI hRT hP hD hS hl
  have hK := hKK.1
  obtain ⟨hP, hD⟩ : PD D A ((GA k a IA LA FA QA VA r) ++ ((GB k a IB LB FB QB VB r) ++ ((GC k a IC LC FC QC VC r) ++ ((GD k a ID LD FD QD VD r) ++ ((GR k a IR LR FR QR VR r) ++ (r.tl)))))) H := ⟨hP, hD⟩
  obtain ⟨hWI, hWI_0, hWI_1, hWI_2, hrd, htr0, htr1, htr2, htr3, hrgk, hrgt, hdrc, hev, hmk, hM, hMK, hTI, hFS, htd, hlt, rgH, rgS, rgY, hdr, hit, hmmk, heq, htq, hrel, hbf, htb, hkw, hSK, hSK0, hSK1, hSK2, hNE, hNE0, hNE1, hNE2, hLE, hYE, hQE, hLE0, hLE1, hLE2, hYE0, hYE1, hYE2⟩ := id hI
  obtain ⟨gw1, gw2, gw3, gw4, gw5, gw6, gw7, gw8, gw9, gw10, gw11⟩ := id hWI
  have hx0 := gw9
  have hYI := gw11
  have hpf : rgI (FR 3) (-128) 127 900 := fun e h1 h2 => by rw [← htb e h1 h2]; exact hbf e h1 h2
  obtain ⟨z1, hz1, hz1a, hz1b⟩ := i32_z (xs (iZ (i + 1)).toNatClampNeg)
  obtain ⟨z2, hz2, hz2a, hz2b⟩ := i32_z (xs (iZ (i + 2)).toNatClampNeg)
  obtain ⟨z3, hz3, hz3a, hz3b⟩ := i32_z (xs (iZ (i + 3)).toNatClampNeg)
  obtain ⟨z4, hz4, hz4a, hz4b⟩ := i32_z (xs (iZ (i + 4)).toNatClampNeg)
  obtain ⟨z5, hz5, hz5a, hz5b⟩ := i32_z (xs (iZ (i + 5)).toNatClampNeg)
  have hl : lv_has ls 4 [(3, .int (iZ i)), (2, .ref (a 106)), (1, .ref (a 0)), (0, .ref b)] := hl
  have hls := hQE.1
  replace hls : _ := hls
  refine lv_aload_n hx hb dL_law_1345 rfl (lv_at hl 2 rfl) ?_
  refine lv_aload_n hx hb dL_law_1346 rfl (lv_at hl 3 rfl) ?_
  refine lv_iload_n hx hb dL_law_1347 rfl (lv_at hl 0 rfl) ?_
  refine lv_iconst (v := iZ 1) hx hb dL_law_1348 rfl ?_
  refine lv_iadd hx hb dL_law_1349 ?_
  refine lv_topi (fun x_1 ex_1 => ?_)
  obtain rfl : x_1 = iZ (i + 1) := ex_1.trans (iZ_add i 1)
  refine va_sld hx hb hX hbl hbA hS (zi1 hi hL) dL_law_1350 ?_
  refine lv_topi (fun x_2 ex_2 => ?_)
  obtain rfl : x_2 = iZ z1 := ex_2.trans hz1
  refine lv_aload_n hx hb dL_law_1351 rfl (lv_at hl 3 rfl) ?_
  refine lv_iload_n hx hb dL_law_1352 rfl (lv_at hl 0 rfl) ?_
  refine lv_iconst (v := iZ 2) hx hb dL_law_1353 rfl ?_
  refine lv_iadd hx hb dL_law_1354 ?_
  refine lv_topi (fun x_3 ex_3 => ?_)
  obtain rfl : x_3 = iZ (i + 2) := ex_3.trans (iZ_add i 2)
  refine va_sld hx hb hX hbl hbA hS (zi2 hi hL) dL_law_1355 ?_
  refine lv_topi (fun x_4 ex_4 => ?_)
  obtain rfl : x_4 = iZ z2 := ex_4.trans hz2
  refine lv_aload_n hx hb dL_law_1356 rfl (lv_at hl 3 rfl) ?_
  refine lv_iload_n hx hb dL_law_1357 rfl (lv_at hl 0 rfl) ?_
  refine lv_iconst (v := iZ 3) hx hb dL_law_1358 rfl ?_
  refine lv_iadd hx hb dL_law_1359 ?_
  refine lv_topi (fun x_5 ex_5 => ?_)
  obtain rfl : x_5 = iZ (i + 3) := ex_5.trans (iZ_add i 3)
  refine va_sld hx hb hX hbl hbA hS (zi3 hi hL) dL_law_1360 ?_
  refine lv_topi (fun x_6 ex_6 => ?_)
  obtain rfl : x_6 = iZ z3 := ex_6.trans hz3
  obtain ⟨hP, hD⟩ := PD.mid4 ⟨hP, hD⟩
  refine CXM (mid := (GB k a IB LB FB QB VB r) ++ ((GC k a IC LC FC QC VC r) ++ ((GD k a ID LD FD QD VD r) ++ ((GR k a IR LR FR QR VR r))))) (c0 := 123) (s0 := 16705) (r := r) (As := [.int (iZ z1), .int (iZ z2), .int (iZ z3)]) (rest := []) hx hb hml hown hts hKK hP hD hS hA (p_teller l D k (a 0) (a 1) (a 2) (a 3) (a 4) (a 5) (a 6) (a 7) (a 8) (a 9) (a 10) (a 11) (IA 0) (IA 1) (IA 2) (LA 0) (LA 1) ([.ref (a 26), .ref (a 27), .ref (a 28), .int (iZ (IA 3)), .int (iZ (IA 4)), .int (iZ (IA 5)), .int (iZ (IA 6))]) (a 23) (a 27) (a 28) (a 24) (a 25) (IA 3) (IA 4) (IA 5) (FA 0) (FA 1) (a 101) (a 102) (a 103) (a 104) (FA 11) (FA 12) (FA 13) (FA 14) z1 z2 z3 r hRT rfl rfl rfl rfl rfl (by first | with_reducible assumption | omega) hx0 (by first | with_reducible assumption | omega) (by first | with_reducible assumption | omega) (by first | with_reducible assumption | omega) hrgk hrgt ⟨hz1a, hz1b⟩ ⟨hz2a, hz2b⟩ ⟨hz3a, hz3b⟩) ci_X11_teller qm_L_134 ⟨Nat.le_of_ble_eq_true rfl, Nat.le_of_ble_eq_true rfl⟩ ⟨Nat.le_of_ble_eq_true rfl, Nat.le_of_ble_eq_true rfl⟩ [0, 1, 18, 17, 19, 20, 21, 22, 2, 6, 7] [3, 4, 5, 8, 9, 10, 11, 12, 13, 14, 15, 16, 23, 24, 25] rfl rfl rfl (by decide +kernel) (by decide +kernel) (by decide +kernel) 0 rfl rfl rfl hl.1 rfl (Nat.le_of_ble_eq_true rfl) dL_law_1361 (fun u_7 H locs hφ hP hD hS => ?_)
  obtain ⟨r_8, v_9⟩ := u_7
  obtain ⟨p_10, p_11, p_12, rtr_8⟩ : (rgI v_9.2.2.1.1 (-1) 420 6) ∧ (rgI v_9.2.2.1.2.1 (-1) 5 6) ∧ ((((0 ≤ z1 ∧ z1 < (IA 3)) ∧ (0 ≤ z2 ∧ z2 ≤ 400) ∧ (0 ≤ z3 ∧ z3 < (IA 3))) ∧ (∃ K L B : Int → Int, isNW (arF (FA 0) (FA 1) (IA 4)) (IA 3) z1 z2 K L B ∧ (v_9.1.1 : Int) = L z3)) ∨ (¬ ((0 ≤ z1 ∧ z1 < (IA 3)) ∧ (0 ≤ z2 ∧ z2 ≤ 400) ∧ (0 ≤ z3 ∧ z3 < (IA 3))) ∧ (v_9.1.1 : Int) = -1)) ∧ ((RT k) (RX (FA 0) (FA 1) (IA 3) (IA 4)) r_8) := hφ
  obtain ⟨hP, hD⟩ := PD.dim4 ⟨hP, hD⟩
  obtain ⟨hP, hD⟩ := PD.by3 (is := [15, 16, 23, 0, 1, 2, 24, 25, 3, 4, 5, 6, 7, 8, 9, 10, 11, 18, 17, 19, 20, 21, 22, 12, 13, 14]) (y := (GA k a (u9 IA 2 v_9.1.2) LA (u9 (u9 (u9 (u9 FA 11 v_9.2.2.1.1) 12 v_9.2.2.1.2.1) 13 v_9.2.2.1.2.2.1) 14 v_9.2.2.1.2.2.2) QA VA r_8)) ⟨hP, hD⟩ (by decide +kernel) rfl rfl
  refine W.ceq (cells' := 123 + cz true r_8.b) (slots' := 16705 + sz true r_8.b) rfl rfl ?_
  refine W.eq (g2 := F0 m 1364 ls [.int (iZ v_9.1.1)]) rfl ?_
  refine lv_pop hx hb dL_law_1364 rfl ?_
  refine lv_aload_n hx hb dL_law_1365 rfl (lv_at hl 1 rfl) ?_
  refine lv_aload_n hx hb dL_law_1366 rfl (lv_at hl 3 rfl) ?_
  refine lv_iload_n hx hb dL_law_1367 rfl (lv_at hl 0 rfl) ?_
  refine lv_iconst (v := iZ 1) hx hb dL_law_1368 rfl ?_
  refine lv_iadd hx hb dL_law_1369 ?_
  refine lv_topi (fun x_13 ex_13 => ?_)
  obtain rfl : x_13 = iZ (i + 1) := ex_13.trans (iZ_add i 1)
  refine va_sld hx hb hX hbl hbA hS (zi1 hi hL) dL_law_1370 ?_
  refine lv_topi (fun x_14 ex_14 => ?_)
  obtain rfl : x_14 = iZ z1 := ex_14.trans hz1
  refine lv_aload_n hx hb dL_law_1371 rfl (lv_at hl 3 rfl) ?_
  refine lv_iload_n hx hb dL_law_1372 rfl (lv_at hl 0 rfl) ?_
  refine lv_iconst (v := iZ 2) hx hb dL_law_1373 rfl ?_
  refine lv_iadd hx hb dL_law_1374 ?_
  refine lv_topi (fun x_15 ex_15 => ?_)
  obtain rfl : x_15 = iZ (i + 2) := ex_15.trans (iZ_add i 2)
  refine va_sld hx hb hX hbl hbA hS (zi2 hi hL) dL_law_1375 ?_
  refine lv_topi (fun x_16 ex_16 => ?_)
  obtain rfl : x_16 = iZ z2 := ex_16.trans hz2
  refine lv_aload_n hx hb dL_law_1376 rfl (lv_at hl 3 rfl) ?_
  refine lv_iload_n hx hb dL_law_1377 rfl (lv_at hl 0 rfl) ?_
  refine lv_iconst (v := iZ 3) hx hb dL_law_1378 rfl ?_
  refine lv_iadd hx hb dL_law_1379 ?_
  refine lv_topi (fun x_17 ex_17 => ?_)
  obtain rfl : x_17 = iZ (i + 3) := ex_17.trans (iZ_add i 3)
  refine va_sld hx hb hX hbl hbA hS (zi3 hi hL) dL_law_1380 ?_
  refine lv_topi (fun x_18 ex_18 => ?_)
  obtain rfl : x_18 = iZ z3 := ex_18.trans hz3
  obtain ⟨hP, hD⟩ := PD.fr5 ⟨hP, hD⟩
  refine CKV2 (As := [.int (iZ z1), .int (iZ z2), .int (iZ z3)]) (rest := []) (tl := (GA k a (u9 IA 2 v_9.1.2) LA (u9 (u9 (u9 (u9 FA 11 v_9.2.2.1.1) 12 v_9.2.2.1.2.1) 13 v_9.2.2.1.2.2.1) 14 v_9.2.2.1.2.2.2) QA VA r_8) ++ ((GB k a IB LB FB QB VB r) ++ ((GC k a IC LC FC QC VC r) ++ ((GD k a ID LD FD QD VD r) ++ (r_8.tl))))) hx hb hml hown hts hKK hP hD hS hA (q_teller l D k (a 106) (a 107) (a 108) (a 109) (a 110) (a 111) (a 112) (a 113) (a 114) (a 115) (a 116) (a 117) (a 118) (a 119) (a 120) (a 121) (a 122) (IR 0) (IR 1) (IR 2) (IR 3) (IR 4) (IR 5) (IR 6) (IR 7) (IR 8) (IR 9) (IR 10) (IR 11) (IR 12) (IR 13) (IR 14) (IR 15) (IR 16) (IR 17) (LR 0) (LR 1) (FR 0) (FR 6) (FR 7) (FR 8) z1 z2 z3 hM ⟨hz1a, hz1b⟩ ⟨hz2a, hz2b⟩ ⟨hz3a, hz3b⟩) ci_X12_teller qm_L_137 ⟨Nat.le_of_ble_eq_true rfl, Nat.le_of_ble_eq_true rfl⟩ (lroom _) [0, 1, 9, 10, 11] [2, 3, 4, 5, 6, 7, 8, 12, 13, 14, 15, 16] rfl rfl rfl (by decide +kernel) (by decide +kernel) (by decide +kernel) 0 rfl rfl rfl hl.1 rfl (Nat.le_of_ble_eq_true rfl) dL_law_1381 (fun u_19 H locs hφ hP hD hS => ?_)
  have p_20 : (((0 ≤ z1 ∧ z1 < (gz (FR 0) 0)) ∧ (0 ≤ z2 ∧ z2 ≤ 400) ∧ (0 ≤ z3 ∧ z3 < (gz (FR 0) 0))) ∧ (∃ K L B : Int → Int, isNW (arF (sh (FR 0) 10) (sh (FR 0) 46) (gz (FR 0) 1)) (gz (FR 0) 0) z1 z2 K L B ∧ (u_19.1.1 : Int) = L z3)) ∨ (¬ ((0 ≤ z1 ∧ z1 < (gz (FR 0) 0)) ∧ (0 ≤ z2 ∧ z2 ≤ 400) ∧ (0 ≤ z3 ∧ z3 < (gz (FR 0) 0))) ∧ (u_19.1.1 : Int) = -1) := hφ
  obtain ⟨hP, hD⟩ := PD.by3 (is := [12, 13, 0, 1, 2, 3, 4, 5, 6, 14, 15, 16, 7, 8, 9, 10, 11]) (y := (GR k a (u9 IR 0 u_19.1.2) LR (u9 (u9 (u9 FR 6 u_19.2.2.1.1) 7 u_19.2.2.1.2.1) 8 u_19.2.2.1.2.2) QR VR r_8)) ⟨hP, hD⟩ (by decide +kernel) rfl rfl
  refine W.eq (g2 := F0 m 1384 ls [.int (iZ u_19.1.1)]) rfl ?_
  refine lv_pop hx hb dL_law_1384 rfl ?_
  refine lv_goto (tgt := 2846) hx hb dL_law_1385 rfl ?_
  obtain ⟨hP, hD⟩ := PD.fr5 ⟨hP, hD⟩
  obtain ⟨hP, hD⟩ := PD.fr5 ⟨hP, hD⟩
  obtain ⟨hP, hD⟩ := PD.fr5 ⟨hP, hD⟩
  obtain ⟨hP, hD⟩ := PD.fr5 ⟨hP, hD⟩
  exact hk a (u9 IA 2 v_9.1.2) LA (u9 (u9 (u9 (u9 FA 11 v_9.2.2.1.1) 12 v_9.2.2.1.2.1) 13 v_9.2.2.1.2.2.1) 14 v_9.2.2.1.2.2.2) QA VA IB LB FB QB VB IC LC FC QC VC ID LD FD QD VD (u9 IR 0 u_19.1.2) LR (u9 (u9 (u9 FR 6 u_19.2.2.1.1) 7 u_19.2.2.1.2.1) 8 u_19.2.2.1.2.2) QR VR r_8 H locs ls (show INV _ _ _ _ _ _ _ _ _ _ _ _ _ _ _ from ⟨hWI, hWI_0, hWI_1, hWI_2, hrd, htr0, htr1, htr2, htr3, (show rgI v_9.2.2.1.1 (-1) 420 6 from (by assumption)), (show rgI v_9.2.2.1.2.1 (-1) 5 6 from (by assumption)), hdrc, hev, hmk, hM, hMK, hTI, hFS, htd, hlt, rgH, rgS, rgY, hdr, hit, hmmk, heq, htq, hrel, hbf, htb, hkw, hSK, hSK0, hSK1, hSK2, hNE, hNE0, hNE1, hNE2, hLE, hYE, hQE, hLE0, hLE1, hLE2, hYE0, hYE1, hYE2⟩) rtr_8 hP hD hS (lv_sub hl [0, 1, 2, 3] rfl)
set_option maxHeartbeats 40000000 in
set_option maxRecDepth 100000 in
theorem law_c28 {p : Program} {e : Env} {s : State} {m : MethodId} {below : List Frame} {meth : Method} {c : Code} (l : Launch) {b L : Nat} {xs : Nat → Int32} {A : Nat → Prop} {D : va_G} {k : Nat → ClassId} {sa sv : Nat} {i : Int} (C : LFX p s m meth c b L xs A D k sa sv) (hi : 0 ≤ i ∧ i + 6 ≤ (L : Int)) (hk : LAT p l e s m below meth c b A D k 2846 i) : LAT p l e s m below meth c b A D k 1388 i := by
  obtain ⟨hx, hb, hr, hml, hown, hts, hKK, hX, hbl, hbA, hA, hAf, hlocks, hSY, hRR, hL⟩ := id C
  intro a IA LA FA QA VA IB LB FB QB VB IC LC FC QC VC ID LD FD QD VD IR LR FR QR VR r H locs ls hI hRT hP hD hS hl
  have hK := hKK.1
  obtain ⟨hP, hD⟩ : PD D A ((GA k a IA LA FA QA VA r) ++ ((GB k a IB LB FB QB VB r) ++ ((GC k a IC LC FC QC VC r) ++ ((GD k a ID LD FD QD VD r) ++ ((GR k a IR LR FR QR VR r) ++ (r.tl)))))) H := ⟨hP, hD⟩
  obtain ⟨hWI, hWI_0, hWI_1, hWI_2, hrd, htr0, htr1, htr2, htr3, hrgk, hrgt, hdrc, hev, hmk, hM, hMK, hTI, hFS, htd, hlt, rgH, rgS, rgY, hdr, hit, hmmk, heq, htq, hrel, hbf, htb, hkw, hSK, hSK0, hSK1, hSK2, hNE, hNE0, hNE1, hNE2, hLE, hYE, hQE, hLE0, hLE1, hLE2, hYE0, hYE1, hYE2⟩ := id hI
  obtain ⟨gw1, gw2, gw3, gw4, gw5, gw6, gw7, gw8, gw9, gw10, gw11⟩ := id hWI
  have hx0 := gw9
  have hYI := gw11
  have hpf : rgI (FR 3) (-128) 127 900 := fun e h1 h2 => by rw [← htb e h1 h2]; exact hbf e h1 h2
  obtain ⟨z1, hz1, hz1a, hz1b⟩ := i32_z (xs (iZ (i + 1)).toNatClampNeg)
  obtain ⟨z2, hz2, hz2a, hz2b⟩ := i32_z (xs (iZ (i + 2)).toNatClampNeg)
  obtain ⟨z3, hz3, hz3a, hz3b⟩ := i32_z (xs (iZ (i + 3)).toNatClampNeg)
  obtain ⟨z4, hz4, hz4a, hz4b⟩ := i32_z (xs (iZ (i + 4)).toNatClampNeg)
  obtain ⟨z5, hz5, hz5a, hz5b⟩ := i32_z (xs (iZ (i + 5)).toNatClampNeg)
  have hl : lv_has ls 4 [(3, .int (iZ i)), (2, .ref (a 106)), (1, .ref (a 0)), (0, .ref b)] := hl
  have hls := hQE.1
  replace hls : _ := hls
  refine lv_aload_n hx hb dL_law_1388 rfl (lv_at hl 2 rfl) ?_
  refine lv_aload_n hx hb dL_law_1389 rfl (lv_at hl 3 rfl) ?_
  refine lv_iload_n hx hb dL_law_1390 rfl (lv_at hl 0 rfl) ?_
  refine lv_iconst (v := iZ 1) hx hb dL_law_1391 rfl ?_
  refine lv_iadd hx hb dL_law_1392 ?_
  refine lv_topi (fun x_1 ex_1 => ?_)
  obtain rfl : x_1 = iZ (i + 1) := ex_1.trans (iZ_add i 1)
  refine va_sld hx hb hX hbl hbA hS (zi1 hi hL) dL_law_1393 ?_
  refine lv_topi (fun x_2 ex_2 => ?_)
  obtain rfl : x_2 = iZ z1 := ex_2.trans hz1
  refine lv_aload_n hx hb dL_law_1394 rfl (lv_at hl 3 rfl) ?_
  refine lv_iload_n hx hb dL_law_1395 rfl (lv_at hl 0 rfl) ?_
  refine lv_iconst (v := iZ 2) hx hb dL_law_1396 rfl ?_
  refine lv_iadd hx hb dL_law_1397 ?_
  refine lv_topi (fun x_3 ex_3 => ?_)
  obtain rfl : x_3 = iZ (i + 2) := ex_3.trans (iZ_add i 2)
  refine va_sld hx hb hX hbl hbA hS (zi2 hi hL) dL_law_1398 ?_
  refine lv_topi (fun x_4 ex_4 => ?_)
  obtain rfl : x_4 = iZ z2 := ex_4.trans hz2
  refine lv_aload_n hx hb dL_law_1399 rfl (lv_at hl 3 rfl) ?_
  refine lv_iload_n hx hb dL_law_1400 rfl (lv_at hl 0 rfl) ?_
  refine lv_iconst (v := iZ 3) hx hb dL_law_1401 rfl ?_
  refine lv_iadd hx hb dL_law_1402 ?_
  refine lv_topi (fun x_5 ex_5 => ?_)
  obtain rfl : x_5 = iZ (i + 3) := ex_5.trans (iZ_add i 3)
  refine va_sld hx hb hX hbl hbA hS (zi3 hi hL) dL_law_1403 ?_
  refine lv_topi (fun x_6 ex_6 => ?_)
  obtain rfl : x_6 = iZ z3 := ex_6.trans hz3
  obtain ⟨hP, hD⟩ := PD.mid4 ⟨hP, hD⟩
  refine CXM (mid := (GB k a IB LB FB QB VB r) ++ ((GC k a IC LC FC QC VC r) ++ ((GD k a ID LD FD QD VD r) ++ ((GR k a IR LR FR QR VR r))))) (c0 := 123) (s0 := 16705) (r := r) (As := [.int (iZ z1), .int (iZ z2), .int (iZ z3)]) (rest := []) hx hb hml hown hts hKK hP hD hS hA (p_hops l D k (a 0) (a 1) (a 2) (a 3) (a 4) (a 5) (a 6) (a 7) (a 8) (a 9) (a 10) (a 11) (IA 0) (IA 1) (IA 2) (LA 0) (LA 1) ([.ref (a 26), .ref (a 27), .ref (a 28), .int (iZ (IA 3)), .int (iZ (IA 4)), .int (iZ (IA 5)), .int (iZ (IA 6))]) (a 23) (a 27) (a 28) (a 24) (a 25) (IA 3) (IA 4) (IA 5) (FA 0) (FA 1) (a 101) (a 102) (a 103) (a 104) (FA 11) (FA 12) (FA 13) (FA 14) z1 z2 z3 r hRT rfl rfl rfl rfl rfl (by first | with_reducible assumption | omega) hx0 (by first | with_reducible assumption | omega) (by first | with_reducible assumption | omega) (by first | with_reducible assumption | omega) hrgk hrgt ⟨hz1a, hz1b⟩ ⟨hz2a, hz2b⟩ ⟨hz3a, hz3b⟩) ci_X11_hops qm_L_138 ⟨Nat.le_of_ble_eq_true rfl, Nat.le_of_ble_eq_true rfl⟩ ⟨Nat.le_of_ble_eq_true rfl, Nat.le_of_ble_eq_true rfl⟩ [0, 1, 18, 17, 19, 20, 21, 22, 2, 6, 7] [3, 4, 5, 8, 9, 10, 11, 12, 13, 14, 15, 16, 23, 24, 25] rfl rfl rfl (by decide +kernel) (by decide +kernel) (by decide +kernel) 0 rfl rfl rfl hl.1 rfl (Nat.le_of_ble_eq_true rfl) dL_law_1404 (fun u_7 H locs hφ hP hD hS => ?_)
  obtain ⟨r_8, v_9⟩ := u_7
  obtain ⟨p_10, p_11, p_12, rtr_8⟩ : (rgI v_9.2.2.1.1 (-1) 420 6) ∧ (rgI v_9.2.2.1.2.1 (-1) 5 6) ∧ ((((0 ≤ z1 ∧ z1 < (IA 3)) ∧ (0 ≤ z2 ∧ z2 ≤ 400) ∧ (0 ≤ z3 ∧ z3 < (IA 3))) ∧ (∃ K L B : Int → Int, isNW (arF (FA 0) (FA 1) (IA 4)) (IA 3) z1 z2 K L B ∧ ((K z3 = 1000000 ∧ (v_9.1.1 : Int) = -1) ∨ (K z3 < 1000000 ∧ (v_9.1.1 : Int) = B z3)))) ∨ (¬ ((0 ≤ z1 ∧ z1 < (IA 3)) ∧ (0 ≤ z2 ∧ z2 ≤ 400) ∧ (0 ≤ z3 ∧ z3 < (IA 3))) ∧ (v_9.1.1 : Int) = -1)) ∧ ((RT k) (RX (FA 0) (FA 1) (IA 3) (IA 4)) r_8) := hφ
  obtain ⟨hP, hD⟩ := PD.dim4 ⟨hP, hD⟩
  obtain ⟨hP, hD⟩ := PD.by3 (is := [15, 16, 23, 0, 1, 2, 24, 25, 3, 4, 5, 6, 7, 8, 9, 10, 11, 18, 17, 19, 20, 21, 22, 12, 13, 14]) (y := (GA k a (u9 IA 2 v_9.1.2) LA (u9 (u9 (u9 (u9 FA 11 v_9.2.2.1.1) 12 v_9.2.2.1.2.1) 13 v_9.2.2.1.2.2.1) 14 v_9.2.2.1.2.2.2) QA VA r_8)) ⟨hP, hD⟩ (by decide +kernel) rfl rfl
  refine W.ceq (cells' := 123 + cz true r_8.b) (slots' := 16705 + sz true r_8.b) rfl rfl ?_
  refine W.eq (g2 := F0 m 1407 ls [.int (iZ v_9.1.1)]) rfl ?_
  refine lv_pop hx hb dL_law_1407 rfl ?_
  refine lv_aload_n hx hb dL_law_1408 rfl (lv_at hl 1 rfl) ?_
  refine lv_aload_n hx hb dL_law_1409 rfl (lv_at hl 3 rfl) ?_
  refine lv_iload_n hx hb dL_law_1410 rfl (lv_at hl 0 rfl) ?_
  refine lv_iconst (v := iZ 1) hx hb dL_law_1411 rfl ?_
  refine lv_iadd hx hb dL_law_1412 ?_
  refine lv_topi (fun x_13 ex_13 => ?_)
  obtain rfl : x_13 = iZ (i + 1) := ex_13.trans (iZ_add i 1)
  refine va_sld hx hb hX hbl hbA hS (zi1 hi hL) dL_law_1413 ?_
  refine lv_topi (fun x_14 ex_14 => ?_)
  obtain rfl : x_14 = iZ z1 := ex_14.trans hz1
  refine lv_aload_n hx hb dL_law_1414 rfl (lv_at hl 3 rfl) ?_
  refine lv_iload_n hx hb dL_law_1415 rfl (lv_at hl 0 rfl) ?_
  refine lv_iconst (v := iZ 2) hx hb dL_law_1416 rfl ?_
  refine lv_iadd hx hb dL_law_1417 ?_
  refine lv_topi (fun x_15 ex_15 => ?_)
  obtain rfl : x_15 = iZ (i + 2) := ex_15.trans (iZ_add i 2)
  refine va_sld hx hb hX hbl hbA hS (zi2 hi hL) dL_law_1418 ?_
  refine lv_topi (fun x_16 ex_16 => ?_)
  obtain rfl : x_16 = iZ z2 := ex_16.trans hz2
  refine lv_aload_n hx hb dL_law_1419 rfl (lv_at hl 3 rfl) ?_
  refine lv_iload_n hx hb dL_law_1420 rfl (lv_at hl 0 rfl) ?_
  refine lv_iconst (v := iZ 3) hx hb dL_law_1421 rfl ?_
  refine lv_iadd hx hb dL_law_1422 ?_
  refine lv_topi (fun x_17 ex_17 => ?_)
  obtain rfl : x_17 = iZ (i + 3) := ex_17.trans (iZ_add i 3)
  refine va_sld hx hb hX hbl hbA hS (zi3 hi hL) dL_law_1423 ?_
  refine lv_topi (fun x_18 ex_18 => ?_)
  obtain rfl : x_18 = iZ z3 := ex_18.trans hz3
  obtain ⟨hP, hD⟩ := PD.fr5 ⟨hP, hD⟩
  refine CKV2 (As := [.int (iZ z1), .int (iZ z2), .int (iZ z3)]) (rest := []) (tl := (GA k a (u9 IA 2 v_9.1.2) LA (u9 (u9 (u9 (u9 FA 11 v_9.2.2.1.1) 12 v_9.2.2.1.2.1) 13 v_9.2.2.1.2.2.1) 14 v_9.2.2.1.2.2.2) QA VA r_8) ++ ((GB k a IB LB FB QB VB r) ++ ((GC k a IC LC FC QC VC r) ++ ((GD k a ID LD FD QD VD r) ++ (r_8.tl))))) hx hb hml hown hts hKK hP hD hS hA (q_hops l D k (a 106) (a 107) (a 108) (a 109) (a 110) (a 111) (a 112) (a 113) (a 114) (a 115) (a 116) (a 117) (a 118) (a 119) (a 120) (a 121) (a 122) (IR 0) (IR 1) (IR 2) (IR 3) (IR 4) (IR 5) (IR 6) (IR 7) (IR 8) (IR 9) (IR 10) (IR 11) (IR 12) (IR 13) (IR 14) (IR 15) (IR 16) (IR 17) (LR 0) (LR 1) (FR 0) (FR 6) (FR 7) (FR 8) z1 z2 z3 hM ⟨hz1a, hz1b⟩ ⟨hz2a, hz2b⟩ ⟨hz3a, hz3b⟩) ci_X12_hops qm_L_141 ⟨Nat.le_of_ble_eq_true rfl, Nat.le_of_ble_eq_true rfl⟩ (lroom _) [0, 1, 9, 10, 11] [2, 3, 4, 5, 6, 7, 8, 12, 13, 14, 15, 16] rfl rfl rfl (by decide +kernel) (by decide +kernel) (by decide +kernel) 0 rfl rfl rfl hl.1 rfl (Nat.le_of_ble_eq_true rfl) dL_law_1424 (fun u_19 H locs hφ hP hD hS => ?_)
  have p_20 : (((0 ≤ z1 ∧ z1 < (gz (FR 0) 0)) ∧ (0 ≤ z2 ∧ z2 ≤ 400) ∧ (0 ≤ z3 ∧ z3 < (gz (FR 0) 0))) ∧ (∃ K L B : Int → Int, isNW (arF (sh (FR 0) 10) (sh (FR 0) 46) (gz (FR 0) 1)) (gz (FR 0) 0) z1 z2 K L B ∧ ((K z3 = 1000000 ∧ (u_19.1.1 : Int) = -1) ∨ (K z3 < 1000000 ∧ (u_19.1.1 : Int) = B z3)))) ∨ (¬ ((0 ≤ z1 ∧ z1 < (gz (FR 0) 0)) ∧ (0 ≤ z2 ∧ z2 ≤ 400) ∧ (0 ≤ z3 ∧ z3 < (gz (FR 0) 0))) ∧ (u_19.1.1 : Int) = -1) := hφ
  obtain ⟨hP, hD⟩ := PD.by3 (is := [12, 13, 0, 1, 2, 3, 4, 5, 6, 14, 15, 16, 7, 8, 9, 10, 11]) (y := (GR k a (u9 IR 0 u_19.1.2) LR (u9 (u9 (u9 FR 6 u_19.2.2.1.1) 7 u_19.2.2.1.2.1) 8 u_19.2.2.1.2.2) QR VR r_8)) ⟨hP, hD⟩ (by decide +kernel) rfl rfl
  refine W.eq (g2 := F0 m 1427 ls [.int (iZ u_19.1.1)]) rfl ?_
  refine lv_pop hx hb dL_law_1427 rfl ?_
  refine lv_goto (tgt := 2846) hx hb dL_law_1428 rfl ?_
  obtain ⟨hP, hD⟩ := PD.fr5 ⟨hP, hD⟩
  obtain ⟨hP, hD⟩ := PD.fr5 ⟨hP, hD⟩
  obtain ⟨hP, hD⟩ := PD.fr5 ⟨hP, hD⟩
  obtain ⟨hP, hD⟩ := PD.fr5 ⟨hP, hD⟩
  exact hk a (u9 IA 2 v_9.1.2) LA (u9 (u9 (u9 (u9 FA 11 v_9.2.2.1.1) 12 v_9.2.2.1.2.1) 13 v_9.2.2.1.2.2.1) 14 v_9.2.2.1.2.2.2) QA VA IB LB FB QB VB IC LC FC QC VC ID LD FD QD VD (u9 IR 0 u_19.1.2) LR (u9 (u9 (u9 FR 6 u_19.2.2.1.1) 7 u_19.2.2.1.2.1) 8 u_19.2.2.1.2.2) QR VR r_8 H locs ls (show INV _ _ _ _ _ _ _ _ _ _ _ _ _ _ _ from ⟨hWI, hWI_0, hWI_1, hWI_2, hrd, htr0, htr1, htr2, htr3, (show rgI v_9.2.2.1.1 (-1) 420 6 from (by assumption)), (show rgI v_9.2.2.1.2.1 (-1) 5 6 from (by assumption)), hdrc, hev, hmk, hM, hMK, hTI, hFS, htd, hlt, rgH, rgS, rgY, hdr, hit, hmmk, heq, htq, hrel, hbf, htb, hkw, hSK, hSK0, hSK1, hSK2, hNE, hNE0, hNE1, hNE2, hLE, hYE, hQE, hLE0, hLE1, hLE2, hYE0, hYE1, hYE2⟩) rtr_8 hP hD hS (lv_sub hl [0, 1, 2, 3] rfl)
set_option maxHeartbeats 40000000 in
set_option maxRecDepth 100000 in
theorem law_c29 {p : Program} {e : Env} {s : State} {m : MethodId} {below : List Frame} {meth : Method} {c : Code} (l : Launch) {b L : Nat} {xs : Nat → Int32} {A : Nat → Prop} {D : va_G} {k : Nat → ClassId} {sa sv : Nat} {i : Int} (C : LFX p s m meth c b L xs A D k sa sv) (hi : 0 ≤ i ∧ i + 6 ≤ (L : Int)) (hk : LAT p l e s m below meth c b A D k 2846 i) : LAT p l e s m below meth c b A D k 1431 i := by
  obtain ⟨hx, hb, hr, hml, hown, hts, hKK, hX, hbl, hbA, hA, hAf, hlocks, hSY, hRR, hL⟩ := id C
  intro a IA LA FA QA VA IB LB FB QB VB IC LC FC QC VC ID LD FD QD VD IR LR FR QR VR r H locs ls hI hRT hP hD hS hl
  have hK := hKK.1
  obtain ⟨hP, hD⟩ : PD D A ((GA k a IA LA FA QA VA r) ++ ((GB k a IB LB FB QB VB r) ++ ((GC k a IC LC FC QC VC r) ++ ((GD k a ID LD FD QD VD r) ++ ((GR k a IR LR FR QR VR r) ++ (r.tl)))))) H := ⟨hP, hD⟩
  obtain ⟨hWI, hWI_0, hWI_1, hWI_2, hrd, htr0, htr1, htr2, htr3, hrgk, hrgt, hdrc, hev, hmk, hM, hMK, hTI, hFS, htd, hlt, rgH, rgS, rgY, hdr, hit, hmmk, heq, htq, hrel, hbf, htb, hkw, hSK, hSK0, hSK1, hSK2, hNE, hNE0, hNE1, hNE2, hLE, hYE, hQE, hLE0, hLE1, hLE2, hYE0, hYE1, hYE2⟩ := id hI
  obtain ⟨gw1, gw2, gw3, gw4, gw5, gw6, gw7, gw8, gw9, gw10, gw11⟩ := id hWI
  have hx0 := gw9
  have hYI := gw11
  have hpf : rgI (FR 3) (-128) 127 900 := fun e h1 h2 => by rw [← htb e h1 h2]; exact hbf e h1 h2
  obtain ⟨z1, hz1, hz1a, hz1b⟩ := i32_z (xs (iZ (i + 1)).toNatClampNeg)
  obtain ⟨z2, hz2, hz2a, hz2b⟩ := i32_z (xs (iZ (i + 2)).toNatClampNeg)
  obtain ⟨z3, hz3, hz3a, hz3b⟩ := i32_z (xs (iZ (i + 3)).toNatClampNeg)
  obtain ⟨z4, hz4, hz4a, hz4b⟩ := i32_z (xs (iZ (i + 4)).toNatClampNeg)
  obtain ⟨z5, hz5, hz5a, hz5b⟩ := i32_z (xs (iZ (i + 5)).toNatClampNeg)
  have hl : lv_has ls 4 [(3, .int (iZ i)), (2, .ref (a 106)), (1, .ref (a 0)), (0, .ref b)] := hl
  have hls := hQE.1
  replace hls : _ := hls
  refine lv_aload_n hx hb dL_law_1431 rfl (lv_at hl 2 rfl) ?_
  refine lv_aload_n hx hb dL_law_1432 rfl (lv_at hl 3 rfl) ?_
  refine lv_iload_n hx hb dL_law_1433 rfl (lv_at hl 0 rfl) ?_
  refine lv_iconst (v := iZ 1) hx hb dL_law_1434 rfl ?_
  refine lv_iadd hx hb dL_law_1435 ?_
  refine lv_topi (fun x_1 ex_1 => ?_)
  obtain rfl : x_1 = iZ (i + 1) := ex_1.trans (iZ_add i 1)
  refine va_sld hx hb hX hbl hbA hS (zi1 hi hL) dL_law_1436 ?_
  refine lv_topi (fun x_2 ex_2 => ?_)
  obtain rfl : x_2 = iZ z1 := ex_2.trans hz1
  refine lv_aload_n hx hb dL_law_1437 rfl (lv_at hl 3 rfl) ?_
  refine lv_iload_n hx hb dL_law_1438 rfl (lv_at hl 0 rfl) ?_
  refine lv_iconst (v := iZ 2) hx hb dL_law_1439 rfl ?_
  refine lv_iadd hx hb dL_law_1440 ?_
  refine lv_topi (fun x_3 ex_3 => ?_)
  obtain rfl : x_3 = iZ (i + 2) := ex_3.trans (iZ_add i 2)
  refine va_sld hx hb hX hbl hbA hS (zi2 hi hL) dL_law_1441 ?_
  refine lv_topi (fun x_4 ex_4 => ?_)
  obtain rfl : x_4 = iZ z2 := ex_4.trans hz2
  refine lv_aload_n hx hb dL_law_1442 rfl (lv_at hl 3 rfl) ?_
  refine lv_iload_n hx hb dL_law_1443 rfl (lv_at hl 0 rfl) ?_
  refine lv_iconst (v := iZ 3) hx hb dL_law_1444 rfl ?_
  refine lv_iadd hx hb dL_law_1445 ?_
  refine lv_topi (fun x_5 ex_5 => ?_)
  obtain rfl : x_5 = iZ (i + 3) := ex_5.trans (iZ_add i 3)
  refine va_sld hx hb hX hbl hbA hS (zi3 hi hL) dL_law_1446 ?_
  refine lv_topi (fun x_6 ex_6 => ?_)
  obtain rfl : x_6 = iZ z3 := ex_6.trans hz3
  obtain ⟨hP, hD⟩ := PD.mid4 ⟨hP, hD⟩
  refine CXM (mid := (GB k a IB LB FB QB VB r) ++ ((GC k a IC LC FC QC VC r) ++ ((GD k a ID LD FD QD VD r) ++ ((GR k a IR LR FR QR VR r))))) (c0 := 123) (s0 := 16705) (r := r) (As := [.int (iZ z1), .int (iZ z2), .int (iZ z3)]) (rest := []) hx hb hml hown hts hKK hP hD hS hA (p_knowing l D k (a 0) (a 1) (a 2) (a 3) (a 4) (a 5) (a 6) (a 7) (a 8) (a 9) (a 10) (a 11) (IA 0) (IA 1) (IA 2) (LA 0) (LA 1) ([.ref (a 26), .ref (a 27), .ref (a 28), .int (iZ (IA 3)), .int (iZ (IA 4)), .int (iZ (IA 5)), .int (iZ (IA 6))]) (a 23) (a 27) (a 28) (a 24) (a 25) (IA 3) (IA 4) (IA 5) (FA 0) (FA 1) (a 101) (a 102) (a 103) (a 104) (FA 11) (FA 12) (FA 13) (FA 14) z1 z2 z3 r hRT rfl rfl rfl rfl rfl (by first | with_reducible assumption | omega) hx0 (by first | with_reducible assumption | omega) (by first | with_reducible assumption | omega) (by first | with_reducible assumption | omega) hrgk hrgt ⟨hz1a, hz1b⟩ ⟨hz2a, hz2b⟩ ⟨hz3a, hz3b⟩) ci_X11_knowing qm_L_142 ⟨Nat.le_of_ble_eq_true rfl, Nat.le_of_ble_eq_true rfl⟩ ⟨Nat.le_of_ble_eq_true rfl, Nat.le_of_ble_eq_true rfl⟩ [0, 1, 18, 17, 19, 20, 21, 22, 2, 6, 7] [3, 4, 5, 8, 9, 10, 11, 12, 13, 14, 15, 16, 23, 24, 25] rfl rfl rfl (by decide +kernel) (by decide +kernel) (by decide +kernel) 0 rfl rfl rfl hl.1 rfl (Nat.le_of_ble_eq_true rfl) dL_law_1447 (fun u_7 H locs hφ hP hD hS => ?_)
  obtain ⟨r_8, v_9⟩ := u_7
  obtain ⟨p_10, p_11, rtr_8⟩ : (rgI v_9.2.2.1.1 (-1) 420 6) ∧ (rgI v_9.2.2.1.2.1 (-1) 5 6) ∧ ((RT k) (RX (FA 0) (FA 1) (IA 3) (IA 4)) r_8) := hφ
  obtain ⟨hP, hD⟩ := PD.dim4 ⟨hP, hD⟩
  obtain ⟨hP, hD⟩ := PD.by3 (is := [15, 16, 23, 0, 1, 2, 24, 25, 3, 4, 5, 6, 7, 8, 9, 10, 11, 18, 17, 19, 20, 21, 22, 12, 13, 14]) (y := (GA k a (u9 IA 2 v_9.1.2) LA (u9 (u9 (u9 (u9 FA 11 v_9.2.2.1.1) 12 v_9.2.2.1.2.1) 13 v_9.2.2.1.2.2.1) 14 v_9.2.2.1.2.2.2) QA VA r_8)) ⟨hP, hD⟩ (by decide +kernel) rfl rfl
  refine W.ceq (cells' := 123 + cz true r_8.b) (slots' := 16705 + sz true r_8.b) rfl rfl ?_
  refine W.eq (g2 := F0 m 1450 ls [.int (iZ v_9.1.1)]) rfl ?_
  refine lv_pop hx hb dL_law_1450 rfl ?_
  refine lv_aload_n hx hb dL_law_1451 rfl (lv_at hl 1 rfl) ?_
  refine lv_aload_n hx hb dL_law_1452 rfl (lv_at hl 3 rfl) ?_
  refine lv_iload_n hx hb dL_law_1453 rfl (lv_at hl 0 rfl) ?_
  refine lv_iconst (v := iZ 1) hx hb dL_law_1454 rfl ?_
  refine lv_iadd hx hb dL_law_1455 ?_
  refine lv_topi (fun x_12 ex_12 => ?_)
  obtain rfl : x_12 = iZ (i + 1) := ex_12.trans (iZ_add i 1)
  refine va_sld hx hb hX hbl hbA hS (zi1 hi hL) dL_law_1456 ?_
  refine lv_topi (fun x_13 ex_13 => ?_)
  obtain rfl : x_13 = iZ z1 := ex_13.trans hz1
  refine lv_aload_n hx hb dL_law_1457 rfl (lv_at hl 3 rfl) ?_
  refine lv_iload_n hx hb dL_law_1458 rfl (lv_at hl 0 rfl) ?_
  refine lv_iconst (v := iZ 2) hx hb dL_law_1459 rfl ?_
  refine lv_iadd hx hb dL_law_1460 ?_
  refine lv_topi (fun x_14 ex_14 => ?_)
  obtain rfl : x_14 = iZ (i + 2) := ex_14.trans (iZ_add i 2)
  refine va_sld hx hb hX hbl hbA hS (zi2 hi hL) dL_law_1461 ?_
  refine lv_topi (fun x_15 ex_15 => ?_)
  obtain rfl : x_15 = iZ z2 := ex_15.trans hz2
  refine lv_aload_n hx hb dL_law_1462 rfl (lv_at hl 3 rfl) ?_
  refine lv_iload_n hx hb dL_law_1463 rfl (lv_at hl 0 rfl) ?_
  refine lv_iconst (v := iZ 3) hx hb dL_law_1464 rfl ?_
  refine lv_iadd hx hb dL_law_1465 ?_
  refine lv_topi (fun x_16 ex_16 => ?_)
  obtain rfl : x_16 = iZ (i + 3) := ex_16.trans (iZ_add i 3)
  refine va_sld hx hb hX hbl hbA hS (zi3 hi hL) dL_law_1466 ?_
  refine lv_topi (fun x_17 ex_17 => ?_)
  obtain rfl : x_17 = iZ z3 := ex_17.trans hz3
  obtain ⟨hP, hD⟩ := PD.fr5 ⟨hP, hD⟩
  refine CKV2 (As := [.int (iZ z1), .int (iZ z2), .int (iZ z3)]) (rest := []) (tl := (GA k a (u9 IA 2 v_9.1.2) LA (u9 (u9 (u9 (u9 FA 11 v_9.2.2.1.1) 12 v_9.2.2.1.2.1) 13 v_9.2.2.1.2.2.1) 14 v_9.2.2.1.2.2.2) QA VA r_8) ++ ((GB k a IB LB FB QB VB r) ++ ((GC k a IC LC FC QC VC r) ++ ((GD k a ID LD FD QD VD r) ++ (r_8.tl))))) hx hb hml hown hts hKK hP hD hS hA (q_knowing l D k (a 106) (a 107) (a 108) (a 109) (a 110) (a 111) (a 112) (a 113) (a 114) (a 115) (a 116) (a 117) (a 118) (a 119) (a 120) (a 121) (a 122) (IR 0) (IR 1) (IR 2) (IR 3) (IR 4) (IR 5) (IR 6) (IR 7) (IR 8) (IR 9) (IR 10) (IR 11) (IR 12) (IR 13) (IR 14) (IR 15) (IR 16) (IR 17) (LR 0) (LR 1) (FR 0) (FR 6) (FR 7) (FR 8) z1 z2 z3 hM ⟨hz1a, hz1b⟩ ⟨hz2a, hz2b⟩ ⟨hz3a, hz3b⟩) ci_X12_knowing qm_L_145 ⟨Nat.le_of_ble_eq_true rfl, Nat.le_of_ble_eq_true rfl⟩ (lroom _) [0, 1, 9, 10, 11] [2, 3, 4, 5, 6, 7, 8, 12, 13, 14, 15, 16] rfl rfl rfl (by decide +kernel) (by decide +kernel) (by decide +kernel) 0 rfl rfl rfl hl.1 rfl (Nat.le_of_ble_eq_true rfl) dL_law_1467 (fun u_18 H locs hφ hP hD hS => ?_)
  obtain ⟨hP, hD⟩ := PD.by3 (is := [12, 13, 0, 1, 2, 3, 4, 5, 6, 14, 15, 16, 7, 8, 9, 10, 11]) (y := (GR k a (u9 IR 0 u_18.1.2) LR (u9 (u9 (u9 FR 6 u_18.2.2.1.1) 7 u_18.2.2.1.2.1) 8 u_18.2.2.1.2.2) QR VR r_8)) ⟨hP, hD⟩ (by decide +kernel) rfl rfl
  refine W.eq (g2 := F0 m 1470 ls [.int (iZ u_18.1.1)]) rfl ?_
  refine lv_pop hx hb dL_law_1470 rfl ?_
  refine lv_goto (tgt := 2846) hx hb dL_law_1471 rfl ?_
  obtain ⟨hP, hD⟩ := PD.fr5 ⟨hP, hD⟩
  obtain ⟨hP, hD⟩ := PD.fr5 ⟨hP, hD⟩
  obtain ⟨hP, hD⟩ := PD.fr5 ⟨hP, hD⟩
  obtain ⟨hP, hD⟩ := PD.fr5 ⟨hP, hD⟩
  exact hk a (u9 IA 2 v_9.1.2) LA (u9 (u9 (u9 (u9 FA 11 v_9.2.2.1.1) 12 v_9.2.2.1.2.1) 13 v_9.2.2.1.2.2.1) 14 v_9.2.2.1.2.2.2) QA VA IB LB FB QB VB IC LC FC QC VC ID LD FD QD VD (u9 IR 0 u_18.1.2) LR (u9 (u9 (u9 FR 6 u_18.2.2.1.1) 7 u_18.2.2.1.2.1) 8 u_18.2.2.1.2.2) QR VR r_8 H locs ls (show INV _ _ _ _ _ _ _ _ _ _ _ _ _ _ _ from ⟨hWI, hWI_0, hWI_1, hWI_2, hrd, htr0, htr1, htr2, htr3, (show rgI v_9.2.2.1.1 (-1) 420 6 from (by assumption)), (show rgI v_9.2.2.1.2.1 (-1) 5 6 from (by assumption)), hdrc, hev, hmk, hM, hMK, hTI, hFS, htd, hlt, rgH, rgS, rgY, hdr, hit, hmmk, heq, htq, hrel, hbf, htb, hkw, hSK, hSK0, hSK1, hSK2, hNE, hNE0, hNE1, hNE2, hLE, hYE, hQE, hLE0, hLE1, hLE2, hYE0, hYE1, hYE2⟩) rtr_8 hP hD hS (lv_sub hl [0, 1, 2, 3] rfl)
set_option maxHeartbeats 40000000 in
set_option maxRecDepth 100000 in
theorem law_c30 {p : Program} {e : Env} {s : State} {m : MethodId} {below : List Frame} {meth : Method} {c : Code} (l : Launch) {b L : Nat} {xs : Nat → Int32} {A : Nat → Prop} {D : va_G} {k : Nat → ClassId} {sa sv : Nat} {i : Int} (C : LFX p s m meth c b L xs A D k sa sv) (hi : 0 ≤ i ∧ i + 6 ≤ (L : Int)) (hk : LAT p l e s m below meth c b A D k 2846 i) : LAT p l e s m below meth c b A D k 1474 i := by
  obtain ⟨hx, hb, hr, hml, hown, hts, hKK, hX, hbl, hbA, hA, hAf, hlocks, hSY, hRR, hL⟩ := id C
  intro a IA LA FA QA VA IB LB FB QB VB IC LC FC QC VC ID LD FD QD VD IR LR FR QR VR r H locs ls hI hRT hP hD hS hl
  have hK := hKK.1
  obtain ⟨hP, hD⟩ : PD D A ((GA k a IA LA FA QA VA r) ++ ((GB k a IB LB FB QB VB r) ++ ((GC k a IC LC FC QC VC r) ++ ((GD k a ID LD FD QD VD r) ++ ((GR k a IR LR FR QR VR r) ++ (r.tl)))))) H := ⟨hP, hD⟩
  obtain ⟨hWI, hWI_0, hWI_1, hWI_2, hrd, htr0, htr1, htr2, htr3, hrgk, hrgt, hdrc, hev, hmk, hM, hMK, hTI, hFS, htd, hlt, rgH, rgS, rgY, hdr, hit, hmmk, heq, htq, hrel, hbf, htb, hkw, hSK, hSK0, hSK1, hSK2, hNE, hNE0, hNE1, hNE2, hLE, hYE, hQE, hLE0, hLE1, hLE2, hYE0, hYE1, hYE2⟩ := id hI
  obtain ⟨gw1, gw2, gw3, gw4, gw5, gw6, gw7, gw8, gw9, gw10, gw11⟩ := id hWI
  have hx0 := gw9
  have hYI := gw11
  have hpf : rgI (FR 3) (-128) 127 900 := fun e h1 h2 => by rw [← htb e h1 h2]; exact hbf e h1 h2
  obtain ⟨z1, hz1, hz1a, hz1b⟩ := i32_z (xs (iZ (i + 1)).toNatClampNeg)
  obtain ⟨z2, hz2, hz2a, hz2b⟩ := i32_z (xs (iZ (i + 2)).toNatClampNeg)
  obtain ⟨z3, hz3, hz3a, hz3b⟩ := i32_z (xs (iZ (i + 3)).toNatClampNeg)
  obtain ⟨z4, hz4, hz4a, hz4b⟩ := i32_z (xs (iZ (i + 4)).toNatClampNeg)
  obtain ⟨z5, hz5, hz5a, hz5b⟩ := i32_z (xs (iZ (i + 5)).toNatClampNeg)
  have hl : lv_has ls 4 [(3, .int (iZ i)), (2, .ref (a 106)), (1, .ref (a 0)), (0, .ref b)] := hl
  have hls := hQE.1
  replace hls : _ := hls
  refine lv_aload_n hx hb dL_law_1474 rfl (lv_at hl 2 rfl) ?_
  refine lv_aload_n hx hb dL_law_1475 rfl (lv_at hl 3 rfl) ?_
  refine lv_iload_n hx hb dL_law_1476 rfl (lv_at hl 0 rfl) ?_
  refine lv_iconst (v := iZ 1) hx hb dL_law_1477 rfl ?_
  refine lv_iadd hx hb dL_law_1478 ?_
  refine lv_topi (fun x_1 ex_1 => ?_)
  obtain rfl : x_1 = iZ (i + 1) := ex_1.trans (iZ_add i 1)
  refine va_sld hx hb hX hbl hbA hS (zi1 hi hL) dL_law_1479 ?_
  refine lv_topi (fun x_2 ex_2 => ?_)
  obtain rfl : x_2 = iZ z1 := ex_2.trans hz1
  refine lv_aload_n hx hb dL_law_1480 rfl (lv_at hl 3 rfl) ?_
  refine lv_iload_n hx hb dL_law_1481 rfl (lv_at hl 0 rfl) ?_
  refine lv_iconst (v := iZ 2) hx hb dL_law_1482 rfl ?_
  refine lv_iadd hx hb dL_law_1483 ?_
  refine lv_topi (fun x_3 ex_3 => ?_)
  obtain rfl : x_3 = iZ (i + 2) := ex_3.trans (iZ_add i 2)
  refine va_sld hx hb hX hbl hbA hS (zi2 hi hL) dL_law_1484 ?_
  refine lv_topi (fun x_4 ex_4 => ?_)
  obtain rfl : x_4 = iZ z2 := ex_4.trans hz2
  obtain ⟨hP, hD⟩ := PD.mid4 ⟨hP, hD⟩
  refine CXM (mid := (GB k a IB LB FB QB VB r) ++ ((GC k a IC LC FC QC VC r) ++ ((GD k a ID LD FD QD VD r) ++ ((GR k a IR LR FR QR VR r))))) (c0 := 123) (s0 := 16705) (r := r) (As := [.int (iZ z1), .int (iZ z2)]) (rest := []) hx hb hml hown hts hKK hP hD hS hA (p_overtaken l D k (a 0) (a 1) (a 2) (a 3) (a 4) (a 5) (a 6) (a 7) (a 8) (a 9) (a 10) (a 11) (IA 0) (IA 1) (IA 2) (LA 0) (LA 1) ([.ref (a 26), .ref (a 27), .ref (a 28), .int (iZ (IA 3)), .int (iZ (IA 4)), .int (iZ (IA 5)), .int (iZ (IA 6))]) (a 23) (a 27) (a 28) (a 24) (a 25) (IA 3) (IA 4) (IA 5) (FA 0) (FA 1) (a 101) (a 102) (a 103) (a 104) (FA 11) (FA 12) (FA 13) (FA 14) z1 z2 r hRT rfl rfl rfl rfl rfl (by first | with_reducible assumption | omega) hx0 (by first | with_reducible assumption | omega) (by first | with_reducible assumption | omega) (by first | with_reducible assumption | omega) hrgk hrgt ⟨hz1a, hz1b⟩ ⟨hz2a, hz2b⟩) ci_X11_overtaken qm_L_146 ⟨Nat.le_of_ble_eq_true rfl, Nat.le_of_ble_eq_true rfl⟩ ⟨Nat.le_of_ble_eq_true rfl, Nat.le_of_ble_eq_true rfl⟩ [0, 1, 18, 17, 19, 20, 21, 22, 2, 6, 7] [3, 4, 5, 8, 9, 10, 11, 12, 13, 14, 15, 16, 23, 24, 25] rfl rfl rfl (by decide +kernel) (by decide +kernel) (by decide +kernel) 0 rfl rfl rfl hl.1 rfl (Nat.le_of_ble_eq_true rfl) dL_law_1485 (fun u_5 H locs hφ hP hD hS => ?_)
  obtain ⟨r_6, v_7⟩ := u_5
  obtain ⟨p_8, p_9, rtr_6⟩ : (rgI v_7.2.2.1.1 (-1) 420 6) ∧ (rgI v_7.2.2.1.2.1 (-1) 5 6) ∧ ((RT k) (RX (FA 0) (FA 1) (IA 3) (IA 4)) r_6) := hφ
  obtain ⟨hP, hD⟩ := PD.dim4 ⟨hP, hD⟩
  obtain ⟨hP, hD⟩ := PD.by3 (is := [15, 16, 23, 0, 1, 2, 24, 25, 3, 4, 5, 6, 7, 8, 9, 10, 11, 18, 17, 19, 20, 21, 22, 12, 13, 14]) (y := (GA k a (u9 IA 2 v_7.1.2) LA (u9 (u9 (u9 (u9 FA 11 v_7.2.2.1.1) 12 v_7.2.2.1.2.1) 13 v_7.2.2.1.2.2.1) 14 v_7.2.2.1.2.2.2) QA VA r_6)) ⟨hP, hD⟩ (by decide +kernel) rfl rfl
  refine W.ceq (cells' := 123 + cz true r_6.b) (slots' := 16705 + sz true r_6.b) rfl rfl ?_
  refine W.eq (g2 := F0 m 1488 ls [.int (iZ v_7.1.1)]) rfl ?_
  refine lv_pop hx hb dL_law_1488 rfl ?_
  refine lv_aload_n hx hb dL_law_1489 rfl (lv_at hl 1 rfl) ?_
  refine lv_aload_n hx hb dL_law_1490 rfl (lv_at hl 3 rfl) ?_
  refine lv_iload_n hx hb dL_law_1491 rfl (lv_at hl 0 rfl) ?_
  refine lv_iconst (v := iZ 1) hx hb dL_law_1492 rfl ?_
  refine lv_iadd hx hb dL_law_1493 ?_
  refine lv_topi (fun x_10 ex_10 => ?_)
  obtain rfl : x_10 = iZ (i + 1) := ex_10.trans (iZ_add i 1)
  refine va_sld hx hb hX hbl hbA hS (zi1 hi hL) dL_law_1494 ?_
  refine lv_topi (fun x_11 ex_11 => ?_)
  obtain rfl : x_11 = iZ z1 := ex_11.trans hz1
  refine lv_aload_n hx hb dL_law_1495 rfl (lv_at hl 3 rfl) ?_
  refine lv_iload_n hx hb dL_law_1496 rfl (lv_at hl 0 rfl) ?_
  refine lv_iconst (v := iZ 2) hx hb dL_law_1497 rfl ?_
  refine lv_iadd hx hb dL_law_1498 ?_
  refine lv_topi (fun x_12 ex_12 => ?_)
  obtain rfl : x_12 = iZ (i + 2) := ex_12.trans (iZ_add i 2)
  refine va_sld hx hb hX hbl hbA hS (zi2 hi hL) dL_law_1499 ?_
  refine lv_topi (fun x_13 ex_13 => ?_)
  obtain rfl : x_13 = iZ z2 := ex_13.trans hz2
  obtain ⟨hP, hD⟩ := PD.fr5 ⟨hP, hD⟩
  refine CKV2 (As := [.int (iZ z1), .int (iZ z2)]) (rest := []) (tl := (GA k a (u9 IA 2 v_7.1.2) LA (u9 (u9 (u9 (u9 FA 11 v_7.2.2.1.1) 12 v_7.2.2.1.2.1) 13 v_7.2.2.1.2.2.1) 14 v_7.2.2.1.2.2.2) QA VA r_6) ++ ((GB k a IB LB FB QB VB r) ++ ((GC k a IC LC FC QC VC r) ++ ((GD k a ID LD FD QD VD r) ++ (r_6.tl))))) hx hb hml hown hts hKK hP hD hS hA (q_overtaken l D k (a 106) (a 107) (a 108) (a 109) (a 110) (a 111) (a 112) (a 113) (a 114) (a 115) (a 116) (a 117) (a 118) (a 119) (a 120) (a 121) (a 122) (IR 0) (IR 1) (IR 2) (IR 3) (IR 4) (IR 5) (IR 6) (IR 7) (IR 8) (IR 9) (IR 10) (IR 11) (IR 12) (IR 13) (IR 14) (IR 15) (IR 16) (IR 17) (LR 0) (LR 1) (FR 0) (FR 6) (FR 7) (FR 8) z1 z2 hM ⟨hz1a, hz1b⟩ ⟨hz2a, hz2b⟩) ci_X12_overtaken qm_L_149 ⟨Nat.le_of_ble_eq_true rfl, Nat.le_of_ble_eq_true rfl⟩ (lroom _) [0, 1, 9, 10, 11] [2, 3, 4, 5, 6, 7, 8, 12, 13, 14, 15, 16] rfl rfl rfl (by decide +kernel) (by decide +kernel) (by decide +kernel) 0 rfl rfl rfl hl.1 rfl (Nat.le_of_ble_eq_true rfl) dL_law_1500 (fun u_14 H locs hφ hP hD hS => ?_)
  obtain ⟨hP, hD⟩ := PD.by3 (is := [12, 13, 0, 1, 2, 3, 4, 5, 6, 14, 15, 16, 7, 8, 9, 10, 11]) (y := (GR k a (u9 IR 0 u_14.1.2) LR (u9 (u9 (u9 FR 6 u_14.2.2.1.1) 7 u_14.2.2.1.2.1) 8 u_14.2.2.1.2.2) QR VR r_6)) ⟨hP, hD⟩ (by decide +kernel) rfl rfl
  refine W.eq (g2 := F0 m 1503 ls [.int (iZ u_14.1.1)]) rfl ?_
  refine lv_pop hx hb dL_law_1503 rfl ?_
  refine lv_goto (tgt := 2846) hx hb dL_law_1504 rfl ?_
  obtain ⟨hP, hD⟩ := PD.fr5 ⟨hP, hD⟩
  obtain ⟨hP, hD⟩ := PD.fr5 ⟨hP, hD⟩
  obtain ⟨hP, hD⟩ := PD.fr5 ⟨hP, hD⟩
  obtain ⟨hP, hD⟩ := PD.fr5 ⟨hP, hD⟩
  exact hk a (u9 IA 2 v_7.1.2) LA (u9 (u9 (u9 (u9 FA 11 v_7.2.2.1.1) 12 v_7.2.2.1.2.1) 13 v_7.2.2.1.2.2.1) 14 v_7.2.2.1.2.2.2) QA VA IB LB FB QB VB IC LC FC QC VC ID LD FD QD VD (u9 IR 0 u_14.1.2) LR (u9 (u9 (u9 FR 6 u_14.2.2.1.1) 7 u_14.2.2.1.2.1) 8 u_14.2.2.1.2.2) QR VR r_6 H locs ls (show INV _ _ _ _ _ _ _ _ _ _ _ _ _ _ _ from ⟨hWI, hWI_0, hWI_1, hWI_2, hrd, htr0, htr1, htr2, htr3, (show rgI v_7.2.2.1.1 (-1) 420 6 from (by assumption)), (show rgI v_7.2.2.1.2.1 (-1) 5 6 from (by assumption)), hdrc, hev, hmk, hM, hMK, hTI, hFS, htd, hlt, rgH, rgS, rgY, hdr, hit, hmmk, heq, htq, hrel, hbf, htb, hkw, hSK, hSK0, hSK1, hSK2, hNE, hNE0, hNE1, hNE2, hLE, hYE, hQE, hLE0, hLE1, hLE2, hYE0, hYE1, hYE2⟩) rtr_6 hP hD hS (lv_sub hl [0, 1, 2, 3] rfl)
set_option maxHeartbeats 40000000 in
set_option maxRecDepth 100000 in
theorem law_c31 {p : Program} {e : Env} {s : State} {m : MethodId} {below : List Frame} {meth : Method} {c : Code} (l : Launch) {b L : Nat} {xs : Nat → Int32} {A : Nat → Prop} {D : va_G} {k : Nat → ClassId} {sa sv : Nat} {i : Int} (C : LFX p s m meth c b L xs A D k sa sv) (hi : 0 ≤ i ∧ i + 6 ≤ (L : Int)) (hk : LAT p l e s m below meth c b A D k 2846 i) : LAT p l e s m below meth c b A D k 1507 i := by
  obtain ⟨hx, hb, hr, hml, hown, hts, hKK, hX, hbl, hbA, hA, hAf, hlocks, hSY, hRR, hL⟩ := id C
  intro a IA LA FA QA VA IB LB FB QB VB IC LC FC QC VC ID LD FD QD VD IR LR FR QR VR r H locs ls hI hRT hP hD hS hl
  have hK := hKK.1
  obtain ⟨hP, hD⟩ : PD D A ((GA k a IA LA FA QA VA r) ++ ((GB k a IB LB FB QB VB r) ++ ((GC k a IC LC FC QC VC r) ++ ((GD k a ID LD FD QD VD r) ++ ((GR k a IR LR FR QR VR r) ++ (r.tl)))))) H := ⟨hP, hD⟩
  obtain ⟨hWI, hWI_0, hWI_1, hWI_2, hrd, htr0, htr1, htr2, htr3, hrgk, hrgt, hdrc, hev, hmk, hM, hMK, hTI, hFS, htd, hlt, rgH, rgS, rgY, hdr, hit, hmmk, heq, htq, hrel, hbf, htb, hkw, hSK, hSK0, hSK1, hSK2, hNE, hNE0, hNE1, hNE2, hLE, hYE, hQE, hLE0, hLE1, hLE2, hYE0, hYE1, hYE2⟩ := id hI
  obtain ⟨gw1, gw2, gw3, gw4, gw5, gw6, gw7, gw8, gw9, gw10, gw11⟩ := id hWI
  have hx0 := gw9
  have hYI := gw11
  have hpf : rgI (FR 3) (-128) 127 900 := fun e h1 h2 => by rw [← htb e h1 h2]; exact hbf e h1 h2
  obtain ⟨z1, hz1, hz1a, hz1b⟩ := i32_z (xs (iZ (i + 1)).toNatClampNeg)
  obtain ⟨z2, hz2, hz2a, hz2b⟩ := i32_z (xs (iZ (i + 2)).toNatClampNeg)
  obtain ⟨z3, hz3, hz3a, hz3b⟩ := i32_z (xs (iZ (i + 3)).toNatClampNeg)
  obtain ⟨z4, hz4, hz4a, hz4b⟩ := i32_z (xs (iZ (i + 4)).toNatClampNeg)
  obtain ⟨z5, hz5, hz5a, hz5b⟩ := i32_z (xs (iZ (i + 5)).toNatClampNeg)
  have hl : lv_has ls 4 [(3, .int (iZ i)), (2, .ref (a 106)), (1, .ref (a 0)), (0, .ref b)] := hl
  have hls := hQE.1
  replace hls : _ := hls
  refine lv_aload_n hx hb dL_law_1507 rfl (lv_at hl 2 rfl) ?_
  refine lv_aload_n hx hb dL_law_1508 rfl (lv_at hl 3 rfl) ?_
  refine lv_iload_n hx hb dL_law_1509 rfl (lv_at hl 0 rfl) ?_
  refine lv_iconst (v := iZ 1) hx hb dL_law_1510 rfl ?_
  refine lv_iadd hx hb dL_law_1511 ?_
  refine lv_topi (fun x_1 ex_1 => ?_)
  obtain rfl : x_1 = iZ (i + 1) := ex_1.trans (iZ_add i 1)
  refine va_sld hx hb hX hbl hbA hS (zi1 hi hL) dL_law_1512 ?_
  refine lv_topi (fun x_2 ex_2 => ?_)
  obtain rfl : x_2 = iZ z1 := ex_2.trans hz1
  refine lv_aload_n hx hb dL_law_1513 rfl (lv_at hl 3 rfl) ?_
  refine lv_iload_n hx hb dL_law_1514 rfl (lv_at hl 0 rfl) ?_
  refine lv_iconst (v := iZ 2) hx hb dL_law_1515 rfl ?_
  refine lv_iadd hx hb dL_law_1516 ?_
  refine lv_topi (fun x_3 ex_3 => ?_)
  obtain rfl : x_3 = iZ (i + 2) := ex_3.trans (iZ_add i 2)
  refine va_sld hx hb hX hbl hbA hS (zi2 hi hL) dL_law_1517 ?_
  refine lv_topi (fun x_4 ex_4 => ?_)
  obtain rfl : x_4 = iZ z2 := ex_4.trans hz2
  refine lv_aload_n hx hb dL_law_1518 rfl (lv_at hl 3 rfl) ?_
  refine lv_iload_n hx hb dL_law_1519 rfl (lv_at hl 0 rfl) ?_
  refine lv_iconst (v := iZ 3) hx hb dL_law_1520 rfl ?_
  refine lv_iadd hx hb dL_law_1521 ?_
  refine lv_topi (fun x_5 ex_5 => ?_)
  obtain rfl : x_5 = iZ (i + 3) := ex_5.trans (iZ_add i 3)
  refine va_sld hx hb hX hbl hbA hS (zi3 hi hL) dL_law_1522 ?_
  refine lv_topi (fun x_6 ex_6 => ?_)
  obtain rfl : x_6 = iZ z3 := ex_6.trans hz3
  obtain ⟨hP, hD⟩ := PD.swap ⟨hP, hD⟩
  obtain ⟨hP, hD⟩ := PD.swap ⟨hP, hD⟩
  obtain ⟨hP, hD⟩ := PD.sa2 ⟨hP, hD⟩
  obtain ⟨hP, hD⟩ := PD.mid3 ⟨hP, hD⟩
  refine CXM (mid := (GC k a IC LC FC QC VC r) ++ ((GD k a ID LD FD QD VD r) ++ ((GR k a IR LR FR QR VR r)))) (c0 := 123) (s0 := 16705) (r := r) (As := [.int (iZ z1), .int (iZ z2), .int (iZ z3)]) (rest := []) hx hb hml hown hts hKK hP hD hS hA (p_early l D k (a 0) (a 1) (a 2) (a 3) (a 4) (a 5) (a 6) (a 7) (a 8) (a 9) (a 10) (a 11) (IA 0) (IA 1) (IA 2) (LA 0) (LA 1) ([.ref (a 26), .ref (a 27), .ref (a 28), .int (iZ (IA 3)), .int (iZ (IA 4)), .int (iZ (IA 5)), .int (iZ (IA 6))]) (a 23) (a 27) (a 28) (a 24) (a 25) (IA 3) (IA 4) (IA 5) (FA 0) (FA 1) (a 101) (a 102) (a 103) (a 104) (FA 11) (FA 12) (FA 13) (FA 14) (fun i => some (a (12 + i))) (a 12) (a 13) (a 14) (a 15) (a 19) (a 20) (a 21) (a 22) (IB 0) (IB 2) (IB 4) (IB 6) (IB 1) (IB 3) (IB 5) (IB 7) (QB 0) (QB 1) (QB 2) (QB 3) z1 z2 z3 r hRT rfl rfl rfl rfl rfl (by first | with_reducible assumption | omega) hx0 (by first | with_reducible assumption | omega) (by first | with_reducible assumption | omega) (by first | with_reducible assumption | omega) hrgk hrgt rfl rfl rfl rfl ⟨⟨by omega, by omega⟩, ⟨by omega, by omega⟩⟩ ⟨⟨by omega, by omega⟩, ⟨by omega, by omega⟩⟩ ⟨⟨by omega, by omega⟩, ⟨by omega, by omega⟩⟩ ⟨⟨by omega, by omega⟩, ⟨by omega, by omega⟩⟩ ⟨hz1a, hz1b⟩ ⟨hz2a, hz2b⟩ ⟨hz3a, hz3b⟩) ci_X11_early qm_L_150 ⟨Nat.le_of_ble_eq_true rfl, Nat.le_of_ble_eq_true rfl⟩ ⟨Nat.le_of_ble_eq_true rfl, Nat.le_of_ble_eq_true rfl⟩ [0, 1, 18, 17, 19, 20, 21, 22, 2, 6, 7, 26, 27, 28, 29, 30, 31, 32, 33, 34] [3, 4, 5, 8, 9, 10, 11, 12, 13, 14, 15, 16, 23, 24, 25] rfl rfl rfl (by decide +kernel) (by decide +kernel) (by decide +kernel) 0 rfl rfl rfl hl.1 rfl (Nat.le_of_ble_eq_true rfl) dL_law_1523 (fun u_7 H locs hφ hP hD hS => ?_)
  obtain ⟨r_8, v_9⟩ := u_7
  obtain ⟨p_10, p_11, rtr_8⟩ : (rgI v_9.2.2.1.1 (-1) 420 6) ∧ (rgI v_9.2.2.1.2.1 (-1) 5 6) ∧ ((RT k) (RX (FA 0) (FA 1) (IA 3) (IA 4)) r_8) := hφ
  obtain ⟨hP, hD⟩ := PD.dim3 ⟨hP, hD⟩
  obtain ⟨hP, hD⟩ := PD.by3 (is := [15, 16, 23, 0, 1, 2, 24, 25, 3, 4, 5, 6, 7, 8, 9, 10, 11, 18, 17, 19, 20, 21, 22, 12, 13, 14, 26, 27, 28, 29, 30, 31, 32, 33, 34]) (y := (GA k a (u9 IA 2 v_9.1.2) LA (u9 (u9 (u9 (u9 FA 11 v_9.2.2.1.1) 12 v_9.2.2.1.2.1) 13 v_9.2.2.1.2.2.1) 14 v_9.2.2.1.2.2.2) QA VA r_8) ++ ((GB k a IB LB FB QB VB r_8))) ⟨hP, hD⟩ (by decide +kernel) rfl rfl
  obtain ⟨hP, hD⟩ := PD.as2 ⟨hP, hD⟩
  refine W.ceq (cells' := 123 + cz true r_8.b) (slots' := 16705 + sz true r_8.b) rfl rfl ?_
  refine W.eq (g2 := F0 m 1526 ls [.int (iZ v_9.1.1)]) rfl ?_
  refine lv_pop hx hb dL_law_1526 rfl ?_
  refine lv_aload_n hx hb dL_law_1527 rfl (lv_at hl 1 rfl) ?_
  refine lv_aload_n hx hb dL_law_1528 rfl (lv_at hl 3 rfl) ?_
  refine lv_iload_n hx hb dL_law_1529 rfl (lv_at hl 0 rfl) ?_
  refine lv_iconst (v := iZ 1) hx hb dL_law_1530 rfl ?_
  refine lv_iadd hx hb dL_law_1531 ?_
  refine lv_topi (fun x_12 ex_12 => ?_)
  obtain rfl : x_12 = iZ (i + 1) := ex_12.trans (iZ_add i 1)
  refine va_sld hx hb hX hbl hbA hS (zi1 hi hL) dL_law_1532 ?_
  refine lv_topi (fun x_13 ex_13 => ?_)
  obtain rfl : x_13 = iZ z1 := ex_13.trans hz1
  refine lv_aload_n hx hb dL_law_1533 rfl (lv_at hl 3 rfl) ?_
  refine lv_iload_n hx hb dL_law_1534 rfl (lv_at hl 0 rfl) ?_
  refine lv_iconst (v := iZ 2) hx hb dL_law_1535 rfl ?_
  refine lv_iadd hx hb dL_law_1536 ?_
  refine lv_topi (fun x_14 ex_14 => ?_)
  obtain rfl : x_14 = iZ (i + 2) := ex_14.trans (iZ_add i 2)
  refine va_sld hx hb hX hbl hbA hS (zi2 hi hL) dL_law_1537 ?_
  refine lv_topi (fun x_15 ex_15 => ?_)
  obtain rfl : x_15 = iZ z2 := ex_15.trans hz2
  refine lv_aload_n hx hb dL_law_1538 rfl (lv_at hl 3 rfl) ?_
  refine lv_iload_n hx hb dL_law_1539 rfl (lv_at hl 0 rfl) ?_
  refine lv_iconst (v := iZ 3) hx hb dL_law_1540 rfl ?_
  refine lv_iadd hx hb dL_law_1541 ?_
  refine lv_topi (fun x_16 ex_16 => ?_)
  obtain rfl : x_16 = iZ (i + 3) := ex_16.trans (iZ_add i 3)
  refine va_sld hx hb hX hbl hbA hS (zi3 hi hL) dL_law_1542 ?_
  refine lv_topi (fun x_17 ex_17 => ?_)
  obtain rfl : x_17 = iZ z3 := ex_17.trans hz3
  obtain ⟨hP, hD⟩ := PD.fr5 ⟨hP, hD⟩
  refine CKV2 (As := [.int (iZ z1), .int (iZ z2), .int (iZ z3)]) (rest := []) (tl := (GA k a (u9 IA 2 v_9.1.2) LA (u9 (u9 (u9 (u9 FA 11 v_9.2.2.1.1) 12 v_9.2.2.1.2.1) 13 v_9.2.2.1.2.2.1) 14 v_9.2.2.1.2.2.2) QA VA r_8) ++ ((GB k a IB LB FB QB VB r_8) ++ ((GC k a IC LC FC QC VC r) ++ ((GD k a ID LD FD QD VD r) ++ (r_8.tl))))) hx hb hml hown hts hKK hP hD hS hA (q_early l D k (a 106) (a 107) (a 108) (a 109) (a 110) (a 111) (a 112) (a 113) (a 114) (a 115) (a 116) (a 117) (a 118) (a 119) (a 120) (a 121) (a 122) (IR 0) (IR 1) (IR 2) (IR 3) (IR 4) (IR 5) (IR 6) (IR 7) (IR 8) (IR 9) (IR 10) (IR 11) (IR 12) (IR 13) (IR 14) (IR 15) (IR 16) (IR 17) (LR 0) (LR 1) (FR 0) (FR 6) (FR 7) (FR 8) (FR 1) (FR 2) (QR 1) z1 z2 z3 hM rgY ⟨hz1a, hz1b⟩ ⟨hz2a, hz2b⟩ ⟨hz3a, hz3b⟩) ci_X12_early qm_L_153 ⟨Nat.le_of_ble_eq_true rfl, Nat.le_of_ble_eq_true rfl⟩ (lroom _) [0, 1, 9, 10, 11, 3, 4, 5] [2, 6, 7, 8, 12, 13, 14, 15, 16] rfl rfl rfl (by decide +kernel) (by decide +kernel) (by decide +kernel) 0 rfl rfl rfl hl.1 rfl (Nat.le_of_ble_eq_true rfl) dL_law_1543 (fun u_18 H locs hφ hP hD hS => ?_)
  obtain ⟨hP, hD⟩ := PD.by3 (is := [9, 10, 0, 14, 15, 16, 1, 2, 3, 11, 12, 13, 4, 5, 6, 7, 8]) (y := (GR k a (u9 IR 0 u_18.1.2) LR (u9 (u9 (u9 FR 6 u_18.2.2.1.1) 7 u_18.2.2.1.2.1) 8 u_18.2.2.1.2.2) QR VR r_8)) ⟨hP, hD⟩ (by decide +kernel) rfl rfl
  refine W.eq (g2 := F0 m 1546 ls [.int (iZ u_18.1.1)]) rfl ?_
  refine lv_pop hx hb dL_law_1546 rfl ?_
  refine lv_goto (tgt := 2846) hx hb dL_law_1547 rfl ?_
  obtain ⟨hP, hD⟩ := PD.fr5 ⟨hP, hD⟩
  obtain ⟨hP, hD⟩ := PD.fr5 ⟨hP, hD⟩
  obtain ⟨hP, hD⟩ := PD.fr5 ⟨hP, hD⟩
  obtain ⟨hP, hD⟩ := PD.fr5 ⟨hP, hD⟩
  exact hk a (u9 IA 2 v_9.1.2) LA (u9 (u9 (u9 (u9 FA 11 v_9.2.2.1.1) 12 v_9.2.2.1.2.1) 13 v_9.2.2.1.2.2.1) 14 v_9.2.2.1.2.2.2) QA VA IB LB FB QB VB IC LC FC QC VC ID LD FD QD VD (u9 IR 0 u_18.1.2) LR (u9 (u9 (u9 FR 6 u_18.2.2.1.1) 7 u_18.2.2.1.2.1) 8 u_18.2.2.1.2.2) QR VR r_8 H locs ls (show INV _ _ _ _ _ _ _ _ _ _ _ _ _ _ _ from ⟨hWI, hWI_0, hWI_1, hWI_2, hrd, htr0, htr1, htr2, htr3, (show rgI v_9.2.2.1.1 (-1) 420 6 from (by assumption)), (show rgI v_9.2.2.1.2.1 (-1) 5 6 from (by assumption)), hdrc, hev, hmk, hM, hMK, hTI, hFS, htd, hlt, rgH, rgS, rgY, hdr, hit, hmmk, heq, htq, hrel, hbf, htb, hkw, hSK, hSK0, hSK1, hSK2, hNE, hNE0, hNE1, hNE2, hLE, hYE, hQE, hLE0, hLE1, hLE2, hYE0, hYE1, hYE2⟩) rtr_8 hP hD hS (lv_sub hl [0, 1, 2, 3] rfl)
end
