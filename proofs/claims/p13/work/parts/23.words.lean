theorem qc_X2_spread : Cond.code yX2_spread cX2_spread 6 none ∈ gw := tbt (tb4 (List.mem_of_getElem? (i := 155) rfl)) rfl
theorem qi_yX2_spread : Cond.instanceMethod yX2_spread ∈ gw := tbt (tb4 (List.mem_of_getElem? (i := 153) rfl)) rfl
theorem qs_X2_spread : Cond.selects (yX2_spread).cls yX2_spread yX2_spread ∈ gw := tbt (tb4 (List.mem_of_getElem? (i := 154) rfl)) rfl
theorem ci_X2_spread : CIv yX2_spread cX2_spread 6 none 2 := ⟨qc_X2_spread, qi_yX2_spread, qs_X2_spread, qz_X2, by decide +kernel⟩