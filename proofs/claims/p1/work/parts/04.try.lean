theorem try_q : Cond.methodLink RX11 103 yX11_isWithin ∈ gw := tbt (tb3 (List.mem_of_getElem? (i := 24) rfl)) rfl
