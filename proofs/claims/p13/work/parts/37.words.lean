theorem qc_X11_isCouple : Cond.code yX11_isCouple cX11_isCouple 3 (some .boolean) ∈ gw := tbt (tb4 (List.mem_of_getElem? (i := 69) rfl)) rfl
theorem qi_yX11_isCouple : Cond.instanceMethod yX11_isCouple ∈ gw := tbt (tb4 (List.mem_of_getElem? (i := 68) rfl)) rfl
theorem qs_X11_isCouple : Cond.selects (yX11_isCouple).cls yX11_isCouple yX11_isCouple ∈ gw := tb0 (List.mem_of_getElem? (i := 18) rfl) rfl
theorem ci_X11_isCouple : CIv yX11_isCouple cX11_isCouple 3 (some .boolean) 2 := ⟨qc_X11_isCouple, qi_yX11_isCouple, qs_X11_isCouple, qz_X11, by decide +kernel⟩
theorem qm_X11_237 : Cond.methodLink RX11 237 yX11_isCouple ∈ gw := tbt (tb4 (List.mem_of_getElem? (i := 66) rfl)) rfl
theorem qc_X11_answerIfAny : Cond.code yX11_answerIfAny cX11_answerIfAny 2 (some .int) ∈ gw := tbt (tb4 (List.mem_of_getElem? (i := 95) rfl)) rfl
theorem qi_yX11_answerIfAny : Cond.instanceMethod yX11_answerIfAny ∈ gw := tbt (tb4 (List.mem_of_getElem? (i := 94) rfl)) rfl
theorem qs_X11_answerIfAny : Cond.selects (yX11_answerIfAny).cls yX11_answerIfAny yX11_answerIfAny ∈ gw := tb0 (List.mem_of_getElem? (i := 20) rfl) rfl
theorem ci_X11_answerIfAny : CIv yX11_answerIfAny cX11_answerIfAny 2 (some .int) 1 := ⟨qc_X11_answerIfAny, qi_yX11_answerIfAny, qs_X11_answerIfAny, qz_X11, by decide +kernel⟩
theorem qm_X11_251 : Cond.methodLink RX11 251 yX11_answerIfAny ∈ gw := tbt (tb4 (List.mem_of_getElem? (i := 92) rfl)) rfl