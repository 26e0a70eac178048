theorem qy_X11 : Cond.instantiable RX11 16 ∈ gw := tbt (tb1 (List.mem_of_getElem? (i := 23) rfl)) rfl
theorem qy_X12 : Cond.instantiable RX12 36 ∈ gw := tbt (tb6 (List.mem_of_getElem? (i := 35) rfl)) rfl
theorem ql_L_7 : Cond.classLink RL 7 RX11 ∈ gw := tbt (tb1 (List.mem_of_getElem? (i := 22) rfl)) rfl
theorem ql_L_10 : Cond.classLink RL 10 RX12 ∈ gw := tbt (tb6 (List.mem_of_getElem? (i := 34) rfl)) rfl
theorem qc_X11_init : Cond.code yX11_init cX11_init 2 none ∈ gw := tbt (tb1 (List.mem_of_getElem? (i := 26) rfl)) rfl
theorem qi_yX11_init : Cond.instanceMethod yX11_init ∈ gw := tbt (tb1 (List.mem_of_getElem? (i := 25) rfl)) rfl
theorem ci_X11_init : CIi yX11_init cX11_init 2 0 := ⟨qc_X11_init, qi_yX11_init, qz_X11, rfl, by decide +kernel⟩
theorem qc_X12_init : Cond.code yX12_init cX12_init 1 none ∈ gw := tbt (tb6 (List.mem_of_getElem? (i := 38) rfl)) rfl
theorem qi_yX12_init : Cond.instanceMethod yX12_init ∈ gw := tbt (tb6 (List.mem_of_getElem? (i := 37) rfl)) rfl
theorem ci_X12_init : CIi yX12_init cX12_init 1 0 := ⟨qc_X12_init, qi_yX12_init, qz_X12, rfl, by decide +kernel⟩
theorem qm_L_9 : Cond.methodLink RL 9 yX11_init ∈ gw := tbt (tb1 (List.mem_of_getElem? (i := 24) rfl)) rfl
theorem qm_L_12 : Cond.methodLink RL 12 yX12_init ∈ gw := tbt (tb6 (List.mem_of_getElem? (i := 36) rfl)) rfl
