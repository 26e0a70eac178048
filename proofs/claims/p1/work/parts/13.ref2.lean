set_option maxHeartbeats 4000000 in
set_option maxRecDepth 100000 in
theorem m_wrongPlace (l : Launch) (D : va_G) (k : Nat → ClassId) (q : Nat → Nat) (a b : Int32) : RD l yX12_wrongPlace cX12_wrongPlace 3 (some .int) 1 D k [.ref (q 200), .int a, .int b] [((q 200), .inr (12, [.ref (q 201), .ref (q 202), .int 0, .long 0, .long 1, .ref (q 203), .ref (q 204), .ref (q 205), .ref (q 206), .ref (q 207), .int 0, .int 0, .int 0, .int 0, .int 0, .int 0, .int (-1), .int (-1), .int 0, .int 0, .int 0, .ref (q 208), .int 0, .int 0, .ref (q 209), .ref (q 210), .ref (q 211), .ref (q 212), .ref (q 213), .int 0, .int 0, .ref (q 214), .ref (q 215), .ref (q 216), .int 0, .int 0])), ((q 204), .inl (k 1, 4, .inl (fun _ => -1)))] (wip a) := by
  refine MR (by decide) (Nat.le_of_ble_eq_true rfl) (fun p e s m below meth c ls hx hb hml hr hlocks hts hown hKK hP hl => ?_)
  have hK := hKK.1
  have hl : lv_has ls 3 [(0, .ref (q 200)), (1, .int a), (2, .int b)] := hl
  refine lv_iload_n hx hb dX12_wrongPlace_0 rfl (lv_at hl 1 rfl) ?_
  refine CRS (As := [.int a]) (rest := []) hx hb hml hown hts hKK (hP.sub (ws' := []) [] rfl) (m_isTray l D k a) ci_X12_isTray qm_X12_93 ⟨Nat.le_of_ble_eq_true rfl, Nat.le_of_ble_eq_true rfl⟩ ⟨Nat.le_of_ble_eq_true rfl, Nat.le_of_ble_eq_true rfl⟩ rfl hl.1 rfl (Nat.le_of_ble_eq_true rfl) dX12_wrongPlace_1 ?_
  refine lv_if_ne (tgt := 11) hx hb dX12_wrongPlace_4 (by decide) (fun c_1 => ?_) (fun c_1 => ?_)
  ·
    obtain rfl | rfl | rfl | rfl := bw4 c_1
    ·
      refine lv_aload_n hx hb dX12_wrongPlace_11 rfl (lv_at hl 0 rfl) ?_
      refine va_get (D := D) (ci := 12) (v := .ref (q 204)) (C := RX12) (T := TX12) (N := 36) hx hb hts iX12 hown hK hP 0 rfl rfl 6 (by decide) (hts _ qf_X12_24) (fun _ h => h) rfl dX12_wrongPlace_12 ?_
      refine lv_iload_n hx hb dX12_wrongPlace_15 rfl (lv_at hl 1 rfl) ?_
      refine va_iald hx hb hK hP 1 1 rfl rfl (xin 0 4 rfl (by decide) (by decide)) dX12_wrongPlace_16 ?_
      refine lv_topi (fun x_2 ex_2 => ?_)
      obtain rfl : x_2 = (-1) := ex_2.trans (by decide +kernel)
      refine lv_iconst (v := (-1)) hx hb dX12_wrongPlace_17 (by decide) ?_
      refine lv_icmp_ne (tgt := 25) hx hb dX12_wrongPlace_18 (by decide) (fun c => absurd (by decide) c) (fun _ => ?_)
      refine lv_iconst (v := 2) hx hb dX12_wrongPlace_21 (by decide) ?_
      refine lv_goto (tgt := 44) hx hb dX12_wrongPlace_22 (by decide) ?_
      exact ERi hx hb hr hlocks (by simp [wip, c_1]) dX12_wrongPlace_44
    ·
      refine lv_aload_n hx hb dX12_wrongPlace_11 rfl (lv_at hl 0 rfl) ?_
      refine va_get (D := D) (ci := 12) (v := .ref (q 204)) (C := RX12) (T := TX12) (N := 36) hx hb hts iX12 hown hK hP 0 rfl rfl 6 (by decide) (hts _ qf_X12_24) (fun _ h => h) rfl dX12_wrongPlace_12 ?_
      refine lv_iload_n hx hb dX12_wrongPlace_15 rfl (lv_at hl 1 rfl) ?_
      refine va_iald hx hb hK hP 1 1 rfl rfl (xin 1 4 rfl (by decide) (by decide)) dX12_wrongPlace_16 ?_
      refine lv_topi (fun x_3 ex_3 => ?_)
      obtain rfl : x_3 = (-1) := ex_3.trans (by decide +kernel)
      refine lv_iconst (v := (-1)) hx hb dX12_wrongPlace_17 (by decide) ?_
      refine lv_icmp_ne (tgt := 25) hx hb dX12_wrongPlace_18 (by decide) (fun c => absurd (by decide) c) (fun _ => ?_)
      refine lv_iconst (v := 2) hx hb dX12_wrongPlace_21 (by decide) ?_
      refine lv_goto (tgt := 44) hx hb dX12_wrongPlace_22 (by decide) ?_
      exact ERi hx hb hr hlocks (by simp [wip, c_1]) dX12_wrongPlace_44
    ·
      refine lv_aload_n hx hb dX12_wrongPlace_11 rfl (lv_at hl 0 rfl) ?_
      refine va_get (D := D) (ci := 12) (v := .ref (q 204)) (C := RX12) (T := TX12) (N := 36) hx hb hts iX12 hown hK hP 0 rfl rfl 6 (by decide) (hts _ qf_X12_24) (fun _ h => h) rfl dX12_wrongPlace_12 ?_
      refine lv_iload_n hx hb dX12_wrongPlace_15 rfl (lv_at hl 1 rfl) ?_
      refine va_iald hx hb hK hP 1 1 rfl rfl (xin 2 4 rfl (by decide) (by decide)) dX12_wrongPlace_16 ?_
      refine lv_topi (fun x_4 ex_4 => ?_)
      obtain rfl : x_4 = (-1) := ex_4.trans (by decide +kernel)
      refine lv_iconst (v := (-1)) hx hb dX12_wrongPlace_17 (by decide) ?_
      refine lv_icmp_ne (tgt := 25) hx hb dX12_wrongPlace_18 (by decide) (fun c => absurd (by decide) c) (fun _ => ?_)
      refine lv_iconst (v := 2) hx hb dX12_wrongPlace_21 (by decide) ?_
      refine lv_goto (tgt := 44) hx hb dX12_wrongPlace_22 (by decide) ?_
      exact ERi hx hb hr hlocks (by simp [wip, c_1]) dX12_wrongPlace_44
    ·
      refine lv_aload_n hx hb dX12_wrongPlace_11 rfl (lv_at hl 0 rfl) ?_
      refine va_get (D := D) (ci := 12) (v := .ref (q 204)) (C := RX12) (T := TX12) (N := 36) hx hb hts iX12 hown hK hP 0 rfl rfl 6 (by decide) (hts _ qf_X12_24) (fun _ h => h) rfl dX12_wrongPlace_12 ?_
      refine lv_iload_n hx hb dX12_wrongPlace_15 rfl (lv_at hl 1 rfl) ?_
      refine va_iald hx hb hK hP 1 1 rfl rfl (xin 3 4 rfl (by decide) (by decide)) dX12_wrongPlace_16 ?_
      refine lv_topi (fun x_5 ex_5 => ?_)
      obtain rfl : x_5 = (-1) := ex_5.trans (by decide +kernel)
      refine lv_iconst (v := (-1)) hx hb dX12_wrongPlace_17 (by decide) ?_
      refine lv_icmp_ne (tgt := 25) hx hb dX12_wrongPlace_18 (by decide) (fun c => absurd (by decide) c) (fun _ => ?_)
      refine lv_iconst (v := 2) hx hb dX12_wrongPlace_21 (by decide) ?_
      refine lv_goto (tgt := 44) hx hb dX12_wrongPlace_22 (by decide) ?_
      exact ERi hx hb hr hlocks (by simp [wip, c_1]) dX12_wrongPlace_44
  ·
    refine lv_iconst (v := 1) hx hb dX12_wrongPlace_7 (by decide) ?_
    refine lv_goto (tgt := 44) hx hb dX12_wrongPlace_8 (by decide) ?_
    exact ERi hx hb hr hlocks (by simp [wip, c_1]) dX12_wrongPlace_44
theorem wip_pos (t : Int32) : ¬ wip t ≤ 0 := by
  unfold wip
  by_cases h : bw t 3 = 0
  · rw [if_pos h]; decide
  · rw [if_neg h]; decide
set_option maxHeartbeats 4000000 in
set_option maxRecDepth 100000 in
theorem r_write (l : Launch) (D : va_G) (k : Nat → ClassId) (q : Nat → Nat) (a : Int32) (b : Int32) (c1 : Int64) : WD (σ := Unit) l yX12_write cX12_write 6 (some .boolean) 8 0 0 D k [.ref (q 200), .int a, .int b, .long c1] [((q 200), .inr (12, [.ref (q 201), .ref (q 202), .int 0, .long 0, .long 1, .ref (q 203), .ref (q 204), .ref (q 205), .ref (q 206), .ref (q 207), .int 0, .int 0, .int 0, .int 0, .int 0, .int 0, .int (-1), .int (-1), .int 0, .int 0, .int 0, .ref (q 208), .int 0, .int 0, .ref (q 209), .ref (q 210), .ref (q 211), .ref (q 212), .ref (q 213), .int 0, .int 0, .ref (q 214), .ref (q 215), .ref (q 216), .int 0, .int 0])), ((q 204), .inl (k 1, 4, .inl (fun _ => -1)))] (fun _ => some (.int 0)) (fun _ => True) (fun _ => []) := by
  refine MW (by decide) (Nat.le_of_ble_eq_true rfl) (fun p e s m below meth c ls A hx hb hml hr hlocks hin hts hown hKK hP hD hS hA hl => ?_)
  have hK := hKK.1
  have hl : lv_has ls 6 [(0, .ref (q 200)), (1, .int a), (2, .int b), (3, .long c1)] := hl
  refine lv_aload_n hx hb dX12_write_0 rfl (lv_at hl 0 rfl) ?_
  refine lv_iload_n hx hb dX12_write_1 rfl (lv_at hl 1 rfl) ?_
  refine lv_iload_n hx hb dX12_write_2 rfl (lv_at hl 2 rfl) ?_
  refine CRV (As := [.int a, .int b]) (rest := []) hx hb hml hown hts hKK hP (m_wrongPlace l D k q a b) ci_X12_wrongPlace qm_X12_96 ⟨Nat.le_of_ble_eq_true rfl, Nat.le_of_ble_eq_true rfl⟩ ⟨Nat.le_of_ble_eq_true rfl, Nat.le_of_ble_eq_true rfl⟩ 0 rfl rfl rfl hl.1 rfl (Nat.le_of_ble_eq_true rfl) dX12_write_3 ?_
  refine lv_istore (lv' := [(5, .int (wip a)), (0, .ref (q 200)), (1, .int a), (2, .int b), (3, .long c1)]) hx hb dX12_write_6 hl (by decide) rfl (fun ls hl => ?_)
  refine lv_iload hx hb dX12_write_8 (lv_at hl 0 rfl) ?_
  refine lv_if_ne (tgt := 34) hx hb dX12_write_10 (by decide) (fun _ => ?_) (fun c => absurd c (wip_ne a))
  refine lv_aload_n hx hb dX12_write_34 rfl (lv_at hl 1 rfl) ?_
  refine lv_iload hx hb dX12_write_35 (lv_at hl 0 rfl) ?_
  refine CWV (As := [.int (wip a)]) (rest := []) (wc := [((q 200), .inr (12, [.ref (q 201), .ref (q 202), .int 0, .long 0, .long 1, .ref (q 203), .ref (q 204), .ref (q 205), .ref (q 206), .ref (q 207), .int 0, .int 0, .int 0, .int 0, .int 0, .int 0, .int (-1), .int (-1), .int 0, .int 0, .int 0, .ref (q 208), .int 0, .int 0, .ref (q 209), .ref (q 210), .ref (q 211), .ref (q 212), .ref (q 213), .int 0, .int 0, .ref (q 214), .ref (q 215), .ref (q 216), .int 0, .int 0]))]) (wr := [((q 204), .inl (k 1, 4, .inl (fun _ => -1)))]) hx hb hml hown hts hKK hP hD hS hA (m_is1 l D k (q 200) [.ref (q 201), .ref (q 202), .int 0, .long 0, .long 1, .ref (q 203), .ref (q 204), .ref (q 205), .ref (q 206), .ref (q 207), .int 0, .int 0, .int 0, .int 0, .int 0, .int 0, .int (-1), .int (-1), .int 0, .int 0, .int 0, .ref (q 208), .int 0, .int 0, .ref (q 209), .ref (q 210), .ref (q 211), .ref (q 212), .ref (q 213), .int 0, .int 0, .ref (q 214), .ref (q 215), .ref (q 216), .int 0, .int 0] (Nat.le_of_ble_eq_true rfl) (wip a) (wip_ne a)) ci_X12_is qm_X12_89 ⟨Nat.le_of_ble_eq_true rfl, Nat.le_of_ble_eq_true rfl⟩ ⟨Nat.le_of_ble_eq_true rfl, Nat.le_of_ble_eq_true rfl⟩ [0] [1] rfl rfl rfl rfl rfl (by decide) 0 rfl rfl rfl hl.1 rfl (Nat.le_of_ble_eq_true rfl) dX12_write_37 (fun u_1 H locs hφ hP hD hS => ?_)
  have hP : va_P D vwCl [((q 204), .inl (k 1, 4, .inl (fun _ => -1)))] H := hP
  have hD : va_D A [((q 204), .inl (k 1, 4, .inl (fun _ => -1)))] := hD
  refine W.eq (g2 := F0 m 40 ls [.int 0]) rfl ?_
  exact EWz hx hb hr hlocks hS () rfl rfl trivial nil_P nil_D dX12_write_40
set_option maxHeartbeats 4000000 in
set_option maxRecDepth 100000 in
theorem r_read (l : Launch) (D : va_G) (k : Nat → ClassId) (q : Nat → Nat) (a : Int32) (b : Int32) : WD (σ := Unit) l yX12_read cX12_read 3 (some .long) 8 0 0 D k [.ref (q 200), .int a, .int b] [((q 200), .inr (12, [.ref (q 201), .ref (q 202), .int 0, .long 0, .long 1, .ref (q 203), .ref (q 204), .ref (q 205), .ref (q 206), .ref (q 207), .int 0, .int 0, .int 0, .int 0, .int 0, .int 0, .int (-1), .int (-1), .int 0, .int 0, .int 0, .ref (q 208), .int 0, .int 0, .ref (q 209), .ref (q 210), .ref (q 211), .ref (q 212), .ref (q 213), .int 0, .int 0, .ref (q 214), .ref (q 215), .ref (q 216), .int 0, .int 0])), ((q 204), .inl (k 1, 4, .inl (fun _ => -1)))] (fun _ => some (.long (-1))) (fun _ => True) (fun _ => []) := by
  refine MW (by decide) (Nat.le_of_ble_eq_true rfl) (fun p e s m below meth c ls A hx hb hml hr hlocks hin hts hown hKK hP hD hS hA hl => ?_)
  have hK := hKK.1
  have hl : lv_has ls 3 [(0, .ref (q 200)), (1, .int a), (2, .int b)] := hl
  refine lv_aload_n hx hb dX12_read_0 rfl (lv_at hl 0 rfl) ?_
  refine lv_aload_n hx hb dX12_read_1 rfl (lv_at hl 0 rfl) ?_
  refine lv_iload_n hx hb dX12_read_2 rfl (lv_at hl 1 rfl) ?_
  refine lv_iload_n hx hb dX12_read_3 rfl (lv_at hl 2 rfl) ?_
  refine CRV (As := [.int a, .int b]) (rest := [.ref (q 200)]) hx hb hml hown hts hKK hP (m_wrongPlace l D k q a b) ci_X12_wrongPlace qm_X12_96 ⟨Nat.le_of_ble_eq_true rfl, Nat.le_of_ble_eq_true rfl⟩ ⟨Nat.le_of_ble_eq_true rfl, Nat.le_of_ble_eq_true rfl⟩ 0 rfl rfl rfl hl.1 rfl (Nat.le_of_ble_eq_true rfl) dX12_read_4 ?_
  refine va_put (D := D) (ci := 12) (v := .int (wip a)) (ty := .int) (C := RX12) (T := TX12) (N := 36) hx hb hts iX12 tyX12 tyX12_ok nmX12 hown hK hP hD hS 0 rfl rfl 2 (by decide) (hts _ qf_X12_75) (fun _ h => h) rfl (by decide +kernel) rfl rfl (Nat.le_of_ble_eq_true rfl) dX12_read_7 (fun H locs hP hD hS => ?_)
  have hP : va_P D vwCl [((q 200), .inr (12, [.ref (q 201), .ref (q 202), .int (wip a), .long 0, .long 1, .ref (q 203), .ref (q 204), .ref (q 205), .ref (q 206), .ref (q 207), .int 0, .int 0, .int 0, .int 0, .int 0, .int 0, .int (-1), .int (-1), .int 0, .int 0, .int 0, .ref (q 208), .int 0, .int 0, .ref (q 209), .ref (q 210), .ref (q 211), .ref (q 212), .ref (q 213), .int 0, .int 0, .ref (q 214), .ref (q 215), .ref (q 216), .int 0, .int 0])), ((q 204), .inl (k 1, 4, .inl (fun _ => -1)))] H := hP
  have hD : va_D A [((q 200), .inr (12, [.ref (q 201), .ref (q 202), .int (wip a), .long 0, .long 1, .ref (q 203), .ref (q 204), .ref (q 205), .ref (q 206), .ref (q 207), .int 0, .int 0, .int 0, .int 0, .int 0, .int 0, .int (-1), .int (-1), .int 0, .int 0, .int 0, .ref (q 208), .int 0, .int 0, .ref (q 209), .ref (q 210), .ref (q 211), .ref (q 212), .ref (q 213), .int 0, .int 0, .ref (q 214), .ref (q 215), .ref (q 216), .int 0, .int 0])), ((q 204), .inl (k 1, 4, .inl (fun _ => -1)))] := hD
  refine lv_aload_n hx hb dX12_read_10 rfl (lv_at hl 0 rfl) ?_
  refine va_get (D := D) (ci := 12) (v := .int (wip a)) (C := RX12) (T := TX12) (N := 36) hx hb hts iX12 hown hK hP 0 rfl rfl 2 (by decide) (hts _ qf_X12_75) (fun _ h => h) rfl dX12_read_11 ?_
  refine lv_if_le (tgt := 23) hx hb dX12_read_14 (by decide) (fun c => absurd c (wip_pos a)) (fun _ => ?_)
  refine lv_ldc2 (own := RX12) (v := (-1)) hx hb hown (hts _ qk_X12_104) dX12_read_17 ?_
  refine lv_goto (tgt := 34) hx hb dX12_read_20 (by decide) ?_
  exact EWl hx hb hr hlocks hS () rfl trivial nil_P nil_D dX12_read_34
set_option maxHeartbeats 4000000 in
set_option maxRecDepth 100000 in
theorem r_pour (l : Launch) (D : va_G) (k : Nat → ClassId) (q : Nat → Nat) (a : Int32) (b : Int32) (c1 : Int32) (d1 : Int32) (e1 : Int32) : WD (σ := Unit) l yX12_pour cX12_pour 8 (some .boolean) 8 0 0 D k [.ref (q 200), .int a, .int b, .int c1, .int d1, .int e1] [((q 200), .inr (12, [.ref (q 201), .ref (q 202), .int 0, .long 0, .long 1, .ref (q 203), .ref (q 204), .ref (q 205), .ref (q 206), .ref (q 207), .int 0, .int 0, .int 0, .int 0, .int 0, .int 0, .int (-1), .int (-1), .int 0, .int 0, .int 0, .ref (q 208), .int 0, .int 0, .ref (q 209), .ref (q 210), .ref (q 211), .ref (q 212), .ref (q 213), .int 0, .int 0, .ref (q 214), .ref (q 215), .ref (q 216), .int 0, .int 0])), ((q 204), .inl (k 1, 4, .inl (fun _ => -1)))] (fun _ => some (.int 0)) (fun _ => True) (fun _ => []) := by
  refine MW (by decide) (Nat.le_of_ble_eq_true rfl) (fun p e s m below meth c ls A hx hb hml hr hlocks hin hts hown hKK hP hD hS hA hl => ?_)
  have hK := hKK.1
  have hl : lv_has ls 8 [(0, .ref (q 200)), (1, .int a), (2, .int b), (3, .int c1), (4, .int d1), (5, .int e1)] := hl
  refine lv_iload_n hx hb dX12_pour_0 rfl (lv_at hl 1 rfl) ?_
  refine CRS (As := [.int a]) (rest := []) hx hb hml hown hts hKK (hP.sub (ws' := []) [] rfl) (m_isTray l D k a) ci_X12_isTray qm_X12_93 ⟨Nat.le_of_ble_eq_true rfl, Nat.le_of_ble_eq_true rfl⟩ ⟨Nat.le_of_ble_eq_true rfl, Nat.le_of_ble_eq_true rfl⟩ rfl hl.1 rfl (Nat.le_of_ble_eq_true rfl) dX12_pour_1 ?_
  refine lv_if_eq (tgt := 28) hx hb dX12_pour_4 (by decide) (fun c_1 => ?_) (fun c_1 => ?_)
  ·
    refine lv_aload_n hx hb dX12_pour_28 rfl (lv_at hl 0 rfl) ?_
    refine lv_iconst (v := 1) hx hb dX12_pour_29 (by decide) ?_
    refine CWV (As := [.int 1]) (rest := []) (wc := [((q 200), .inr (12, [.ref (q 201), .ref (q 202), .int 0, .long 0, .long 1, .ref (q 203), .ref (q 204), .ref (q 205), .ref (q 206), .ref (q 207), .int 0, .int 0, .int 0, .int 0, .int 0, .int 0, .int (-1), .int (-1), .int 0, .int 0, .int 0, .ref (q 208), .int 0, .int 0, .ref (q 209), .ref (q 210), .ref (q 211), .ref (q 212), .ref (q 213), .int 0, .int 0, .ref (q 214), .ref (q 215), .ref (q 216), .int 0, .int 0]))]) (wr := [((q 204), .inl (k 1, 4, .inl (fun _ => -1)))]) hx hb hml hown hts hKK hP hD hS hA (m_is1 l D k (q 200) [.ref (q 201), .ref (q 202), .int 0, .long 0, .long 1, .ref (q 203), .ref (q 204), .ref (q 205), .ref (q 206), .ref (q 207), .int 0, .int 0, .int 0, .int 0, .int 0, .int 0, .int (-1), .int (-1), .int 0, .int 0, .int 0, .ref (q 208), .int 0, .int 0, .ref (q 209), .ref (q 210), .ref (q 211), .ref (q 212), .ref (q 213), .int 0, .int 0, .ref (q 214), .ref (q 215), .ref (q 216), .int 0, .int 0] (Nat.le_of_ble_eq_true rfl) 1 (by decide)) ci_X12_is qm_X12_89 ⟨Nat.le_of_ble_eq_true rfl, Nat.le_of_ble_eq_true rfl⟩ ⟨Nat.le_of_ble_eq_true rfl, Nat.le_of_ble_eq_true rfl⟩ [0] [1] rfl rfl rfl rfl rfl (by decide) 0 rfl rfl rfl hl.1 rfl (Nat.le_of_ble_eq_true rfl) dX12_pour_30 (fun u_2 H locs hφ hP hD hS => ?_)
    have hP : va_P D vwCl [((q 204), .inl (k 1, 4, .inl (fun _ => -1)))] H := hP
    have hD : va_D A [((q 204), .inl (k 1, 4, .inl (fun _ => -1)))] := hD
    refine W.eq (g2 := F0 m 33 ls [.int 0]) rfl ?_
    exact EWz hx hb hr hlocks hS () rfl rfl trivial nil_P nil_D dX12_pour_33
  ·
    obtain rfl | rfl | rfl | rfl := bw4 c_1
    ·
      refine lv_iload_n hx hb dX12_pour_7 rfl (lv_at hl 3 rfl) ?_
      refine CRS (As := [.int c1]) (rest := []) hx hb hml hown hts hKK (hP.sub (ws' := []) [] rfl) (m_isTray l D k c1) ci_X12_isTray qm_X12_93 ⟨Nat.le_of_ble_eq_true rfl, Nat.le_of_ble_eq_true rfl⟩ ⟨Nat.le_of_ble_eq_true rfl, Nat.le_of_ble_eq_true rfl⟩ rfl hl.1 rfl (Nat.le_of_ble_eq_true rfl) dX12_pour_8 ?_
      refine lv_if_eq (tgt := 28) hx hb dX12_pour_11 (by decide) (fun c_3 => ?_) (fun c_3 => ?_)
      ·
        refine lv_aload_n hx hb dX12_pour_28 rfl (lv_at hl 0 rfl) ?_
        refine lv_iconst (v := 1) hx hb dX12_pour_29 (by decide) ?_
        refine CWV (As := [.int 1]) (rest := []) (wc := [((q 200), .inr (12, [.ref (q 201), .ref (q 202), .int 0, .long 0, .long 1, .ref (q 203), .ref (q 204), .ref (q 205), .ref (q 206), .ref (q 207), .int 0, .int 0, .int 0, .int 0, .int 0, .int 0, .int (-1), .int (-1), .int 0, .int 0, .int 0, .ref (q 208), .int 0, .int 0, .ref (q 209), .ref (q 210), .ref (q 211), .ref (q 212), .ref (q 213), .int 0, .int 0, .ref (q 214), .ref (q 215), .ref (q 216), .int 0, .int 0]))]) (wr := [((q 204), .inl (k 1, 4, .inl (fun _ => -1)))]) hx hb hml hown hts hKK hP hD hS hA (m_is1 l D k (q 200) [.ref (q 201), .ref (q 202), .int 0, .long 0, .long 1, .ref (q 203), .ref (q 204), .ref (q 205), .ref (q 206), .ref (q 207), .int 0, .int 0, .int 0, .int 0, .int 0, .int 0, .int (-1), .int (-1), .int 0, .int 0, .int 0, .ref (q 208), .int 0, .int 0, .ref (q 209), .ref (q 210), .ref (q 211), .ref (q 212), .ref (q 213), .int 0, .int 0, .ref (q 214), .ref (q 215), .ref (q 216), .int 0, .int 0] (Nat.le_of_ble_eq_true rfl) 1 (by decide)) ci_X12_is qm_X12_89 ⟨Nat.le_of_ble_eq_true rfl, Nat.le_of_ble_eq_true rfl⟩ ⟨Nat.le_of_ble_eq_true rfl, Nat.le_of_ble_eq_true rfl⟩ [0] [1] rfl rfl rfl rfl rfl (by decide) 0 rfl rfl rfl hl.1 rfl (Nat.le_of_ble_eq_true rfl) dX12_pour_30 (fun u_4 H locs hφ hP hD hS => ?_)
        have hP : va_P D vwCl [((q 204), .inl (k 1, 4, .inl (fun _ => -1)))] H := hP
        have hD : va_D A [((q 204), .inl (k 1, 4, .inl (fun _ => -1)))] := hD
        refine W.eq (g2 := F0 m 33 ls [.int 0]) rfl ?_
        exact EWz hx hb hr hlocks hS () rfl rfl trivial nil_P nil_D dX12_pour_33
      ·
        obtain rfl | rfl | rfl | rfl := bw4 c_3
        ·
          refine lv_iload_n hx hb dX12_pour_14 rfl (lv_at hl 2 rfl) ?_
          refine lv_if_lt (tgt := 28) hx hb dX12_pour_15 (by decide) (fun c_5 => ?_) (fun c_5 => ?_)
          ·
            refine lv_aload_n hx hb dX12_pour_28 rfl (lv_at hl 0 rfl) ?_
            refine lv_iconst (v := 1) hx hb dX12_pour_29 (by decide) ?_
            refine CWV (As := [.int 1]) (rest := []) (wc := [((q 200), .inr (12, [.ref (q 201), .ref (q 202), .int 0, .long 0, .long 1, .ref (q 203), .ref (q 204), .ref (q 205), .ref (q 206), .ref (q 207), .int 0, .int 0, .int 0, .int 0, .int 0, .int 0, .int (-1), .int (-1), .int 0, .int 0, .int 0, .ref (q 208), .int 0, .int 0, .ref (q 209), .ref (q 210), .ref (q 211), .ref (q 212), .ref (q 213), .int 0, .int 0, .ref (q 214), .ref (q 215), .ref (q 216), .int 0, .int 0]))]) (wr := [((q 204), .inl (k 1, 4, .inl (fun _ => -1)))]) hx hb hml hown hts hKK hP hD hS hA (m_is1 l D k (q 200) [.ref (q 201), .ref (q 202), .int 0, .long 0, .long 1, .ref (q 203), .ref (q 204), .ref (q 205), .ref (q 206), .ref (q 207), .int 0, .int 0, .int 0, .int 0, .int 0, .int 0, .int (-1), .int (-1), .int 0, .int 0, .int 0, .ref (q 208), .int 0, .int 0, .ref (q 209), .ref (q 210), .ref (q 211), .ref (q 212), .ref (q 213), .int 0, .int 0, .ref (q 214), .ref (q 215), .ref (q 216), .int 0, .int 0] (Nat.le_of_ble_eq_true rfl) 1 (by decide)) ci_X12_is qm_X12_89 ⟨Nat.le_of_ble_eq_true rfl, Nat.le_of_ble_eq_true rfl⟩ ⟨Nat.le_of_ble_eq_true rfl, Nat.le_of_ble_eq_true rfl⟩ [0] [1] rfl rfl rfl rfl rfl (by decide) 0 rfl rfl rfl hl.1 rfl (Nat.le_of_ble_eq_true rfl) dX12_pour_30 (fun u_6 H locs hφ hP hD hS => ?_)
            have hP : va_P D vwCl [((q 204), .inl (k 1, 4, .inl (fun _ => -1)))] H := hP
            have hD : va_D A [((q 204), .inl (k 1, 4, .inl (fun _ => -1)))] := hD
            refine W.eq (g2 := F0 m 33 ls [.int 0]) rfl ?_
            exact EWz hx hb hr hlocks hS () rfl rfl trivial nil_P nil_D dX12_pour_33
          ·
            refine lv_iload hx hb dX12_pour_18 (lv_at hl 4 rfl) ?_
            refine lv_if_lt (tgt := 28) hx hb dX12_pour_20 (by decide) (fun c_7 => ?_) (fun c_7 => ?_)
            ·
              refine lv_aload_n hx hb dX12_pour_28 rfl (lv_at hl 0 rfl) ?_
              refine lv_iconst (v := 1) hx hb dX12_pour_29 (by decide) ?_
              refine CWV (As := [.int 1]) (rest := []) (wc := [((q 200), .inr (12, [.ref (q 201), .ref (q 202), .int 0, .long 0, .long 1, .ref (q 203), .ref (q 204), .ref (q 205), .ref (q 206), .ref (q 207), .int 0, .int 0, .int 0, .int 0, .int 0, .int 0, .int (-1), .int (-1), .int 0, .int 0, .int 0, .ref (q 208), .int 0, .int 0, .ref (q 209), .ref (q 210), .ref (q 211), .ref (q 212), .ref (q 213), .int 0, .int 0, .ref (q 214), .ref (q 215), .ref (q 216), .int 0, .int 0]))]) (wr := [((q 204), .inl (k 1, 4, .inl (fun _ => -1)))]) hx hb hml hown hts hKK hP hD hS hA (m_is1 l D k (q 200) [.ref (q 201), .ref (q 202), .int 0, .long 0, .long 1, .ref (q 203), .ref (q 204), .ref (q 205), .ref (q 206), .ref (q 207), .int 0, .int 0, .int 0, .int 0, .int 0, .int 0, .int (-1), .int (-1), .int 0, .int 0, .int 0, .ref (q 208), .int 0, .int 0, .ref (q 209), .ref (q 210), .ref (q 211), .ref (q 212), .ref (q 213), .int 0, .int 0, .ref (q 214), .ref (q 215), .ref (q 216), .int 0, .int 0] (Nat.le_of_ble_eq_true rfl) 1 (by decide)) ci_X12_is qm_X12_89 ⟨Nat.le_of_ble_eq_true rfl, Nat.le_of_ble_eq_true rfl⟩ ⟨Nat.le_of_ble_eq_true rfl, Nat.le_of_ble_eq_true rfl⟩ [0] [1] rfl rfl rfl rfl rfl (by decide) 0 rfl rfl rfl hl.1 rfl (Nat.le_of_ble_eq_true rfl) dX12_pour_30 (fun u_8 H locs hφ hP hD hS => ?_)
              have hP : va_P D vwCl [((q 204), .inl (k 1, 4, .inl (fun _ => -1)))] H := hP
              have hD : va_D A [((q 204), .inl (k 1, 4, .inl (fun _ => -1)))] := hD
              refine W.eq (g2 := F0 m 33 ls [.int 0]) rfl ?_
              exact EWz hx hb hr hlocks hS () rfl rfl trivial nil_P nil_D dX12_pour_33
            ·
              refine lv_iload hx hb dX12_pour_23 (lv_at hl 5 rfl) ?_
              refine lv_if_ge (tgt := 34) hx hb dX12_pour_25 (by decide) (fun c_9 => ?_) (fun c_9 => ?_)
              ·
                refine lv_aload_n hx hb dX12_pour_34 rfl (lv_at hl 0 rfl) ?_
                refine va_get (D := D) (ci := 12) (v := .ref (q 204)) (C := RX12) (T := TX12) (N := 36) hx hb hts iX12 hown hK hP 0 rfl rfl 6 (by decide) (hts _ qf_X12_24) (fun _ h => h) rfl dX12_pour_35 ?_
                refine lv_iload_n hx hb dX12_pour_38 rfl (lv_at hl 1 rfl) ?_
                refine va_iald hx hb hK hP 1 1 rfl rfl (xin 0 4 rfl (by decide) (by decide)) dX12_pour_39 ?_
                refine lv_topi (fun x_10 ex_10 => ?_)
                obtain rfl : x_10 = (-1) := ex_10.trans (by decide +kernel)
                refine lv_iconst (v := (-1)) hx hb dX12_pour_40 (by decide) ?_
                refine lv_icmp_eq (tgt := 54) hx hb dX12_pour_41 (by decide) (fun _ => ?_) (fun c => absurd (by decide) c)
                refine lv_aload_n hx hb dX12_pour_54 rfl (lv_at hl 0 rfl) ?_
                refine lv_iconst (v := 2) hx hb dX12_pour_55 (by decide) ?_
                refine CWV (As := [.int 2]) (rest := []) (wc := [((q 200), .inr (12, [.ref (q 201), .ref (q 202), .int 0, .long 0, .long 1, .ref (q 203), .ref (q 204), .ref (q 205), .ref (q 206), .ref (q 207), .int 0, .int 0, .int 0, .int 0, .int 0, .int 0, .int (-1), .int (-1), .int 0, .int 0, .int 0, .ref (q 208), .int 0, .int 0, .ref (q 209), .ref (q 210), .ref (q 211), .ref (q 212), .ref (q 213), .int 0, .int 0, .ref (q 214), .ref (q 215), .ref (q 216), .int 0, .int 0]))]) (wr := [((q 204), .inl (k 1, 4, .inl (fun _ => -1)))]) hx hb hml hown hts hKK hP hD hS hA (m_is1 l D k (q 200) [.ref (q 201), .ref (q 202), .int 0, .long 0, .long 1, .ref (q 203), .ref (q 204), .ref (q 205), .ref (q 206), .ref (q 207), .int 0, .int 0, .int 0, .int 0, .int 0, .int 0, .int (-1), .int (-1), .int 0, .int 0, .int 0, .ref (q 208), .int 0, .int 0, .ref (q 209), .ref (q 210), .ref (q 211), .ref (q 212), .ref (q 213), .int 0, .int 0, .ref (q 214), .ref (q 215), .ref (q 216), .int 0, .int 0] (Nat.le_of_ble_eq_true rfl) 2 (by decide)) ci_X12_is qm_X12_89 ⟨Nat.le_of_ble_eq_true rfl, Nat.le_of_ble_eq_true rfl⟩ ⟨Nat.le_of_ble_eq_true rfl, Nat.le_of_ble_eq_true rfl⟩ [0] [1] rfl rfl rfl rfl rfl (by decide) 0 rfl rfl rfl hl.1 rfl (Nat.le_of_ble_eq_true rfl) dX12_pour_56 (fun u_11 H locs hφ hP hD hS => ?_)
                have hP : va_P D vwCl [((q 204), .inl (k 1, 4, .inl (fun _ => -1)))] H := hP
                have hD : va_D A [((q 204), .inl (k 1, 4, .inl (fun _ => -1)))] := hD
                refine W.eq (g2 := F0 m 59 ls [.int 0]) rfl ?_
                exact EWz hx hb hr hlocks hS () rfl rfl trivial nil_P nil_D dX12_pour_59
              ·
                refine lv_aload_n hx hb dX12_pour_28 rfl (lv_at hl 0 rfl) ?_
                refine lv_iconst (v := 1) hx hb dX12_pour_29 (by decide) ?_
                refine CWV (As := [.int 1]) (rest := []) (wc := [((q 200), .inr (12, [.ref (q 201), .ref (q 202), .int 0, .long 0, .long 1, .ref (q 203), .ref (q 204), .ref (q 205), .ref (q 206), .ref (q 207), .int 0, .int 0, .int 0, .int 0, .int 0, .int 0, .int (-1), .int (-1), .int 0, .int 0, .int 0, .ref (q 208), .int 0, .int 0, .ref (q 209), .ref (q 210), .ref (q 211), .ref (q 212), .ref (q 213), .int 0, .int 0, .ref (q 214), .ref (q 215), .ref (q 216), .int 0, .int 0]))]) (wr := [((q 204), .inl (k 1, 4, .inl (fun _ => -1)))]) hx hb hml hown hts hKK hP hD hS hA (m_is1 l D k (q 200) [.ref (q 201), .ref (q 202), .int 0, .long 0, .long 1, .ref (q 203), .ref (q 204), .ref (q 205), .ref (q 206), .ref (q 207), .int 0, .int 0, .int 0, .int 0, .int 0, .int 0, .int (-1), .int (-1), .int 0, .int 0, .int 0, .ref (q 208), .int 0, .int 0, .ref (q 209), .ref (q 210), .ref (q 211), .ref (q 212), .ref (q 213), .int 0, .int 0, .ref (q 214), .ref (q 215), .ref (q 216), .int 0, .int 0] (Nat.le_of_ble_eq_true rfl) 1 (by decide)) ci_X12_is qm_X12_89 ⟨Nat.le_of_ble_eq_true rfl, Nat.le_of_ble_eq_true rfl⟩ ⟨Nat.le_of_ble_eq_true rfl, Nat.le_of_ble_eq_true rfl⟩ [0] [1] rfl rfl rfl rfl rfl (by decide) 0 rfl rfl rfl hl.1 rfl (Nat.le_of_ble_eq_true rfl) dX12_pour_30 (fun u_12 H locs hφ hP hD hS => ?_)
                have hP : va_P D vwCl [((q 204), .inl (k 1, 4, .inl (fun _ => -1)))] H := hP
                have hD : va_D A [((q 204), .inl (k 1, 4, .inl (fun _ => -1)))] := hD
                refine W.eq (g2 := F0 m 33 ls [.int 0]) rfl ?_
                exact EWz hx hb hr hlocks hS () rfl rfl trivial nil_P nil_D dX12_pour_33
        ·
          refine lv_iload_n hx hb dX12_pour_14 rfl (lv_at hl 2 rfl) ?_
          refine lv_if_lt (tgt := 28) hx hb dX12_pour_15 (by decide) (fun c_13 => ?_) (fun c_13 => ?_)
          ·
            refine lv_aload_n hx hb dX12_pour_28 rfl (lv_at hl 0 rfl) ?_
            refine lv_iconst (v := 1) hx hb dX12_pour_29 (by decide) ?_
            refine CWV (As := [.int 1]) (rest := []) (wc := [((q 200), .inr (12, [.ref (q 201), .ref (q 202), .int 0, .long 0, .long 1, .ref (q 203), .ref (q 204), .ref (q 205), .ref (q 206), .ref (q 207), .int 0, .int 0, .int 0, .int 0, .int 0, .int 0, .int (-1), .int (-1), .int 0, .int 0, .int 0, .ref (q 208), .int 0, .int 0, .ref (q 209), .ref (q 210), .ref (q 211), .ref (q 212), .ref (q 213), .int 0, .int 0, .ref (q 214), .ref (q 215), .ref (q 216), .int 0, .int 0]))]) (wr := [((q 204), .inl (k 1, 4, .inl (fun _ => -1)))]) hx hb hml hown hts hKK hP hD hS hA (m_is1 l D k (q 200) [.ref (q 201), .ref (q 202), .int 0, .long 0, .long 1, .ref (q 203), .ref (q 204), .ref (q 205), .ref (q 206), .ref (q 207), .int 0, .int 0, .int 0, .int 0, .int 0, .int 0, .int (-1), .int (-1), .int 0, .int 0, .int 0, .ref (q 208), .int 0, .int 0, .ref (q 209), .ref (q 210), .ref (q 211), .ref (q 212), .ref (q 213), .int 0, .int 0, .ref (q 214), .ref (q 215), .ref (q 216), .int 0, .int 0] (Nat.le_of_ble_eq_true rfl) 1 (by decide)) ci_X12_is qm_X12_89 ⟨Nat.le_of_ble_eq_true rfl, Nat.le_of_ble_eq_true rfl⟩ ⟨Nat.le_of_ble_eq_true rfl, Nat.le_of_ble_eq_true rfl⟩ [0] [1] rfl rfl rfl rfl rfl (by decide) 0 rfl rfl rfl hl.1 rfl (Nat.le_of_ble_eq_true rfl) dX12_pour_30 (fun u_14 H locs hφ hP hD hS => ?_)
            have hP : va_P D vwCl [((q 204), .inl (k 1, 4, .inl (fun _ => -1)))] H := hP
            have hD : va_D A [((q 204), .inl (k 1, 4, .inl (fun _ => -1)))] := hD
            refine W.eq (g2 := F0 m 33 ls [.int 0]) rfl ?_
            exact EWz hx hb hr hlocks hS () rfl rfl trivial nil_P nil_D dX12_pour_33
          ·
            refine lv_iload hx hb dX12_pour_18 (lv_at hl 4 rfl) ?_
            refine lv_if_lt (tgt := 28) hx hb dX12_pour_20 (by decide) (fun c_15 => ?_) (fun c_15 => ?_)
            ·
              refine lv_aload_n hx hb dX12_pour_28 rfl (lv_at hl 0 rfl) ?_
              refine lv_iconst (v := 1) hx hb dX12_pour_29 (by decide) ?_
              refine CWV (As := [.int 1]) (rest := []) (wc := [((q 200), .inr (12, [.ref (q 201), .ref (q 202), .int 0, .long 0, .long 1, .ref (q 203), .ref (q 204), .ref (q 205), .ref (q 206), .ref (q 207), .int 0, .int 0, .int 0, .int 0, .int 0, .int 0, .int (-1), .int (-1), .int 0, .int 0, .int 0, .ref (q 208), .int 0, .int 0, .ref (q 209), .ref (q 210), .ref (q 211), .ref (q 212), .ref (q 213), .int 0, .int 0, .ref (q 214), .ref (q 215), .ref (q 216), .int 0, .int 0]))]) (wr := [((q 204), .inl (k 1, 4, .inl (fun _ => -1)))]) hx hb hml hown hts hKK hP hD hS hA (m_is1 l D k (q 200) [.ref (q 201), .ref (q 202), .int 0, .long 0, .long 1, .ref (q 203), .ref (q 204), .ref (q 205), .ref (q 206), .ref (q 207), .int 0, .int 0, .int 0, .int 0, .int 0, .int 0, .int (-1), .int (-1), .int 0, .int 0, .int 0, .ref (q 208), .int 0, .int 0, .ref (q 209), .ref (q 210), .ref (q 211), .ref (q 212), .ref (q 213), .int 0, .int 0, .ref (q 214), .ref (q 215), .ref (q 216), .int 0, .int 0] (Nat.le_of_ble_eq_true rfl) 1 (by decide)) ci_X12_is qm_X12_89 ⟨Nat.le_of_ble_eq_true rfl, Nat.le_of_ble_eq_true rfl⟩ ⟨Nat.le_of_ble_eq_true rfl, Nat.le_of_ble_eq_true rfl⟩ [0] [1] rfl rfl rfl rfl rfl (by decide) 0 rfl rfl rfl hl.1 rfl (Nat.le_of_ble_eq_true rfl) dX12_pour_30 (fun u_16 H locs hφ hP hD hS => ?_)
              have hP : va_P D vwCl [((q 204), .inl (k 1, 4, .inl (fun _ => -1)))] H := hP
              have hD : va_D A [((q 204), .inl (k 1, 4, .inl (fun _ => -1)))] := hD
              refine W.eq (g2 := F0 m 33 ls [.int 0]) rfl ?_
              exact EWz hx hb hr hlocks hS () rfl rfl trivial nil_P nil_D dX12_pour_33
            ·
              refine lv_iload hx hb dX12_pour_23 (lv_at hl 5 rfl) ?_
              refine lv_if_ge (tgt := 34) hx hb dX12_pour_25 (by decide) (fun c_17 => ?_) (fun c_17 => ?_)
              ·
                refine lv_aload_n hx hb dX12_pour_34 rfl (lv_at hl 0 rfl) ?_
                refine va_get (D := D) (ci := 12) (v := .ref (q 204)) (C := RX12) (T := TX12) (N := 36) hx hb hts iX12 hown hK hP 0 rfl rfl 6 (by decide) (hts _ qf_X12_24) (fun _ h => h) rfl dX12_pour_35 ?_
                refine lv_iload_n hx hb dX12_pour_38 rfl (lv_at hl 1 rfl) ?_
                refine va_iald hx hb hK hP 1 1 rfl rfl (xin 0 4 rfl (by decide) (by decide)) dX12_pour_39 ?_
                refine lv_topi (fun x_18 ex_18 => ?_)
                obtain rfl : x_18 = (-1) := ex_18.trans (by decide +kernel)
                refine lv_iconst (v := (-1)) hx hb dX12_pour_40 (by decide) ?_
                refine lv_icmp_eq (tgt := 54) hx hb dX12_pour_41 (by decide) (fun _ => ?_) (fun c => absurd (by decide) c)
                refine lv_aload_n hx hb dX12_pour_54 rfl (lv_at hl 0 rfl) ?_
                refine lv_iconst (v := 2) hx hb dX12_pour_55 (by decide) ?_
                refine CWV (As := [.int 2]) (rest := []) (wc := [((q 200), .inr (12, [.ref (q 201), .ref (q 202), .int 0, .long 0, .long 1, .ref (q 203), .ref (q 204), .ref (q 205), .ref (q 206), .ref (q 207), .int 0, .int 0, .int 0, .int 0, .int 0, .int 0, .int (-1), .int (-1), .int 0, .int 0, .int 0, .ref (q 208), .int 0, .int 0, .ref (q 209), .ref (q 210), .ref (q 211), .ref (q 212), .ref (q 213), .int 0, .int 0, .ref (q 214), .ref (q 215), .ref (q 216), .int 0, .int 0]))]) (wr := [((q 204), .inl (k 1, 4, .inl (fun _ => -1)))]) hx hb hml hown hts hKK hP hD hS hA (m_is1 l D k (q 200) [.ref (q 201), .ref (q 202), .int 0, .long 0, .long 1, .ref (q 203), .ref (q 204), .ref (q 205), .ref (q 206), .ref (q 207), .int 0, .int 0, .int 0, .int 0, .int 0, .int 0, .int (-1), .int (-1), .int 0, .int 0, .int 0, .ref (q 208), .int 0, .int 0, .ref (q 209), .ref (q 210), .ref (q 211), .ref (q 212), .ref (q 213), .int 0, .int 0, .ref (q 214), .ref (q 215), .ref (q 216), .int 0, .int 0] (Nat.le_of_ble_eq_true rfl) 2 (by decide)) ci_X12_is qm_X12_89 ⟨Nat.le_of_ble_eq_true rfl, Nat.le_of_ble_eq_true rfl⟩ ⟨Nat.le_of_ble_eq_true rfl, Nat.le_of_ble_eq_true rfl⟩ [0] [1] rfl rfl rfl rfl rfl (by decide) 0 rfl rfl rfl hl.1 rfl (Nat.le_of_ble_eq_true rfl) dX12_pour_56 (fun u_19 H locs hφ hP hD hS => ?_)
                have hP : va_P D vwCl [((q 204), .inl (k 1, 4, .inl (fun _ => -1)))] H := hP
                have hD : va_D A [((q 204), .inl (k 1, 4, .inl (fun _ => -1)))] := hD
                refine W.eq (g2 := F0 m 59 ls [.int 0]) rfl ?_
                exact EWz hx hb hr hlocks hS () rfl rfl trivial nil_P nil_D dX12_pour_59
              ·
                refine lv_aload_n hx hb dX12_pour_28 rfl (lv_at hl 0 rfl) ?_
                refine lv_iconst (v := 1) hx hb dX12_pour_29 (by decide) ?_
                refine CWV (As := [.int 1]) (rest := []) (wc := [((q 200), .inr (12, [.ref (q 201), .ref (q 202), .int 0, .long 0, .long 1, .ref (q 203), .ref (q 204), .ref (q 205), .ref (q 206), .ref (q 207), .int 0, .int 0, .int 0, .int 0, .int 0, .int 0, .int (-1), .int (-1), .int 0, .int 0, .int 0, .ref (q 208), .int 0, .int 0, .ref (q 209), .ref (q 210), .ref (q 211), .ref (q 212), .ref (q 213), .int 0, .int 0, .ref (q 214), .ref (q 215), .ref (q 216), .int 0, .int 0]))]) (wr := [((q 204), .inl (k 1, 4, .inl (fun _ => -1)))]) hx hb hml hown hts hKK hP hD hS hA (m_is1 l D k (q 200) [.ref (q 201), .ref (q 202), .int 0, .long 0, .long 1, .ref (q 203), .ref (q 204), .ref (q 205), .ref (q 206), .ref (q 207), .int 0, .int 0, .int 0, .int 0, .int 0, .int 0, .int (-1), .int (-1), .int 0, .int 0, .int 0, .ref (q 208), .int 0, .int 0, .ref (q 209), .ref (q 210), .ref (q 211), .ref (q 212), .ref (q 213), .int 0, .int 0, .ref (q 214), .ref (q 215), .ref (q 216), .int 0, .int 0] (Nat.le_of_ble_eq_true rfl) 1 (by decide)) ci_X12_is qm_X12_89 ⟨Nat.le_of_ble_eq_true rfl, Nat.le_of_ble_eq_true rfl⟩ ⟨Nat.le_of_ble_eq_true rfl, Nat.le_of_ble_eq_true rfl⟩ [0] [1] rfl rfl rfl rfl rfl (by decide) 0 rfl rfl rfl hl.1 rfl (Nat.le_of_ble_eq_true rfl) dX12_pour_30 (fun u_20 H locs hφ hP hD hS => ?_)
                have hP : va_P D vwCl [((q 204), .inl (k 1, 4, .inl (fun _ => -1)))] H := hP
                have hD : va_D A [((q 204), .inl (k 1, 4, .inl (fun _ => -1)))] := hD
                refine W.eq (g2 := F0 m 33 ls [.int 0]) rfl ?_
                exact EWz hx hb hr hlocks hS () rfl rfl trivial nil_P nil_D dX12_pour_33
        ·
          refine lv_iload_n hx hb dX12_pour_14 rfl (lv_at hl 2 rfl) ?_
          refine lv_if_lt (tgt := 28) hx hb dX12_pour_15 (by decide) (fun c_21 => ?_) (fun c_21 => ?_)
          ·
            refine lv_aload_n hx hb dX12_pour_28 rfl (lv_at hl 0 rfl) ?_
            refine lv_iconst (v := 1) hx hb dX12_pour_29 (by decide) ?_
            refine CWV (As := [.int 1]) (rest := []) (wc := [((q 200), .inr (12, [.ref (q 201), .ref (q 202), .int 0, .long 0, .long 1, .ref (q 203), .ref (q 204), .ref (q 205), .ref (q 206), .ref (q 207), .int 0, .int 0, .int 0, .int 0, .int 0, .int 0, .int (-1), .int (-1), .int 0, .int 0, .int 0, .ref (q 208), .int 0, .int 0, .ref (q 209), .ref (q 210), .ref (q 211), .ref (q 212), .ref (q 213), .int 0, .int 0, .ref (q 214), .ref (q 215), .ref (q 216), .int 0, .int 0]))]) (wr := [((q 204), .inl (k 1, 4, .inl (fun _ => -1)))]) hx hb hml hown hts hKK hP hD hS hA (m_is1 l D k (q 200) [.ref (q 201), .ref (q 202), .int 0, .long 0, .long 1, .ref (q 203), .ref (q 204), .ref (q 205), .ref (q 206), .ref (q 207), .int 0, .int 0, .int 0, .int 0, .int 0, .int 0, .int (-1), .int (-1), .int 0, .int 0, .int 0, .ref (q 208), .int 0, .int 0, .ref (q 209), .ref (q 210), .ref (q 211), .ref (q 212), .ref (q 213), .int 0, .int 0, .ref (q 214), .ref (q 215), .ref (q 216), .int 0, .int 0] (Nat.le_of_ble_eq_true rfl) 1 (by decide)) ci_X12_is qm_X12_89 ⟨Nat.le_of_ble_eq_true rfl, Nat.le_of_ble_eq_true rfl⟩ ⟨Nat.le_of_ble_eq_true rfl, Nat.le_of_ble_eq_true rfl⟩ [0] [1] rfl rfl rfl rfl rfl (by decide) 0 rfl rfl rfl hl.1 rfl (Nat.le_of_ble_eq_true rfl) dX12_pour_30 (fun u_22 H locs hφ hP hD hS => ?_)
            have hP : va_P D vwCl [((q 204), .inl (k 1, 4, .inl (fun _ => -1)))] H := hP
            have hD : va_D A [((q 204), .inl (k 1, 4, .inl (fun _ => -1)))] := hD
            refine W.eq (g2 := F0 m 33 ls [.int 0]) rfl ?_
            exact EWz hx hb hr hlocks hS () rfl rfl trivial nil_P nil_D dX12_pour_33
          ·
            refine lv_iload hx hb dX12_pour_18 (lv_at hl 4 rfl) ?_
            refine lv_if_lt (tgt := 28) hx hb dX12_pour_20 (by decide) (fun c_23 => ?_) (fun c_23 => ?_)
            ·
              refine lv_aload_n hx hb dX12_pour_28 rfl (lv_at hl 0 rfl) ?_
              refine lv_iconst (v := 1) hx hb dX12_pour_29 (by decide) ?_
              refine CWV (As := [.int 1]) (rest := []) (wc := [((q 200), .inr (12, [.ref (q 201), .ref (q 202), .int 0, .long 0, .long 1, .ref (q 203), .ref (q 204), .ref (q 205), .ref (q 206), .ref (q 207), .int 0, .int 0, .int 0, .int 0, .int 0, .int 0, .int (-1), .int (-1), .int 0, .int 0, .int 0, .ref (q 208), .int 0, .int 0, .ref (q 209), .ref (q 210), .ref (q 211), .ref (q 212), .ref (q 213), .int 0, .int 0, .ref (q 214), .ref (q 215), .ref (q 216), .int 0, .int 0]))]) (wr := [((q 204), .inl (k 1, 4, .inl (fun _ => -1)))]) hx hb hml hown hts hKK hP hD hS hA (m_is1 l D k (q 200) [.ref (q 201), .ref (q 202), .int 0, .long 0, .long 1, .ref (q 203), .ref (q 204), .ref (q 205), .ref (q 206), .ref (q 207), .int 0, .int 0, .int 0, .int 0, .int 0, .int 0, .int (-1), .int (-1), .int 0, .int 0, .int 0, .ref (q 208), .int 0, .int 0, .ref (q 209), .ref (q 210), .ref (q 211), .ref (q 212), .ref (q 213), .int 0, .int 0, .ref (q 214), .ref (q 215), .ref (q 216), .int 0, .int 0] (Nat.le_of_ble_eq_true rfl) 1 (by decide)) ci_X12_is qm_X12_89 ⟨Nat.le_of_ble_eq_true rfl, Nat.le_of_ble_eq_true rfl⟩ ⟨Nat.le_of_ble_eq_true rfl, Nat.le_of_ble_eq_true rfl⟩ [0] [1] rfl rfl rfl rfl rfl (by decide) 0 rfl rfl rfl hl.1 rfl (Nat.le_of_ble_eq_true rfl) dX12_pour_30 (fun u_24 H locs hφ hP hD hS => ?_)
              have hP : va_P D vwCl [((q 204), .inl (k 1, 4, .inl (fun _ => -1)))] H := hP
              have hD : va_D A [((q 204), .inl (k 1, 4, .inl (fun _ => -1)))] := hD
              refine W.eq (g2 := F0 m 33 ls [.int 0]) rfl ?_
              exact EWz hx hb hr hlocks hS () rfl rfl trivial nil_P nil_D dX12_pour_33
            ·
              refine lv_iload hx hb dX12_pour_23 (lv_at hl 5 rfl) ?_
              refine lv_if_ge (tgt := 34) hx hb dX12_pour_25 (by decide) (fun c_25 => ?_) (fun c_25 => ?_)
              ·
                refine lv_aload_n hx hb dX12_pour_34 rfl (lv_at hl 0 rfl) ?_
                refine va_get (D := D) (ci := 12) (v := .ref (q 204)) (C := RX12) (T := TX12) (N := 36) hx hb hts iX12 hown hK hP 0 rfl rfl 6 (by decide) (hts _ qf_X12_24) (fun _ h => h) rfl dX12_pour_35 ?_
                refine lv_iload_n hx hb dX12_pour_38 rfl (lv_at hl 1 rfl) ?_
                refine va_iald hx hb hK hP 1 1 rfl rfl (xin 0 4 rfl (by decide) (by decide)) dX12_pour_39 ?_
                refine lv_topi (fun x_26 ex_26 => ?_)
                obtain rfl : x_26 = (-1) := ex_26.trans (by decide +kernel)
                refine lv_iconst (v := (-1)) hx hb dX12_pour_40 (by decide) ?_
                refine lv_icmp_eq (tgt := 54) hx hb dX12_pour_41 (by decide) (fun _ => ?_) (fun c => absurd (by decide) c)
                refine lv_aload_n hx hb dX12_pour_54 rfl (lv_at hl 0 rfl) ?_
                refine lv_iconst (v := 2) hx hb dX12_pour_55 (by decide) ?_
                refine CWV (As := [.int 2]) (rest := []) (wc := [((q 200), .inr (12, [.ref (q 201), .ref (q 202), .int 0, .long 0, .long 1, .ref (q 203), .ref (q 204), .ref (q 205), .ref (q 206), .ref (q 207), .int 0, .int 0, .int 0, .int 0, .int 0, .int 0, .int (-1), .int (-1), .int 0, .int 0, .int 0, .ref (q 208), .int 0, .int 0, .ref (q 209), .ref (q 210), .ref (q 211), .ref (q 212), .ref (q 213), .int 0, .int 0, .ref (q 214), .ref (q 215), .ref (q 216), .int 0, .int 0]))]) (wr := [((q 204), .inl (k 1, 4, .inl (fun _ => -1)))]) hx hb hml hown hts hKK hP hD hS hA (m_is1 l D k (q 200) [.ref (q 201), .ref (q 202), .int 0, .long 0, .long 1, .ref (q 203), .ref (q 204), .ref (q 205), .ref (q 206), .ref (q 207), .int 0, .int 0, .int 0, .int 0, .int 0, .int 0, .int (-1), .int (-1), .int 0, .int 0, .int 0, .ref (q 208), .int 0, .int 0, .ref (q 209), .ref (q 210), .ref (q 211), .ref (q 212), .ref (q 213), .int 0, .int 0, .ref (q 214), .ref (q 215), .ref (q 216), .int 0, .int 0] (Nat.le_of_ble_eq_true rfl) 2 (by decide)) ci_X12_is qm_X12_89 ⟨Nat.le_of_ble_eq_true rfl, Nat.le_of_ble_eq_true rfl⟩ ⟨Nat.le_of_ble_eq_true rfl, Nat.le_of_ble_eq_true rfl⟩ [0] [1] rfl rfl rfl rfl rfl (by decide) 0 rfl rfl rfl hl.1 rfl (Nat.le_of_ble_eq_true rfl) dX12_pour_56 (fun u_27 H locs hφ hP hD hS => ?_)
                have hP : va_P D vwCl [((q 204), .inl (k 1, 4, .inl (fun _ => -1)))] H := hP
                have hD : va_D A [((q 204), .inl (k 1, 4, .inl (fun _ => -1)))] := hD
                refine W.eq (g2 := F0 m 59 ls [.int 0]) rfl ?_
                exact EWz hx hb hr hlocks hS () rfl rfl trivial nil_P nil_D dX12_pour_59
              ·
                refine lv_aload_n hx hb dX12_pour_28 rfl (lv_at hl 0 rfl) ?_
                refine lv_iconst (v := 1) hx hb dX12_pour_29 (by decide) ?_
                refine CWV (As := [.int 1]) (rest := []) (wc := [((q 200), .inr (12, [.ref (q 201), .ref (q 202), .int 0, .long 0, .long 1, .ref (q 203), .ref (q 204), .ref (q 205), .ref (q 206), .ref (q 207), .int 0, .int 0, .int 0, .int 0, .int 0, .int 0, .int (-1), .int (-1), .int 0, .int 0, .int 0, .ref (q 208), .int 0, .int 0, .ref (q 209), .ref (q 210), .ref (q 211), .ref (q 212), .ref (q 213), .int 0, .int 0, .ref (q 214), .ref (q 215), .ref (q 216), .int 0, .int 0]))]) (wr := [((q 204), .inl (k 1, 4, .inl (fun _ => -1)))]) hx hb hml hown hts hKK hP hD hS hA (m_is1 l D k (q 200) [.ref (q 201), .ref (q 202), .int 0, .long 0, .long 1, .ref (q 203), .ref (q 204), .ref (q 205), .ref (q 206), .ref (q 207), .int 0, .int 0, .int 0, .int 0, .int 0, .int 0, .int (-1), .int (-1), .int 0, .int 0, .int 0, .ref (q 208), .int 0, .int 0, .ref (q 209), .ref (q 210), .ref (q 211), .ref (q 212), .ref (q 213), .int 0, .int 0, .ref (q 214), .ref (q 215), .ref (q 216), .int 0, .int 0] (Nat.le_of_ble_eq_true rfl) 1 (by decide)) ci_X12_is qm_X12_89 ⟨Nat.le_of_ble_eq_true rfl, Nat.le_of_ble_eq_true rfl⟩ ⟨Nat.le_of_ble_eq_true rfl, Nat.le_of_ble_eq_true rfl⟩ [0] [1] rfl rfl rfl rfl rfl (by decide) 0 rfl rfl rfl hl.1 rfl (Nat.le_of_ble_eq_true rfl) dX12_pour_30 (fun u_28 H locs hφ hP hD hS => ?_)
                have hP : va_P D vwCl [((q 204), .inl (k 1, 4, .inl (fun _ => -1)))] H := hP
                have hD : va_D A [((q 204), .inl (k 1, 4, .inl (fun _ => -1)))] := hD
                refine W.eq (g2 := F0 m 33 ls [.int 0]) rfl ?_
                exact EWz hx hb hr hlocks hS () rfl rfl trivial nil_P nil_D dX12_pour_33
        ·
          refine lv_iload_n hx hb dX12_pour_14 rfl (lv_at hl 2 rfl) ?_
          refine lv_if_lt (tgt := 28) hx hb dX12_pour_15 (by decide) (fun c_29 => ?_) (fun c_29 => ?_)
          ·
            refine lv_aload_n hx hb dX12_pour_28 rfl (lv_at hl 0 rfl) ?_
            refine lv_iconst (v := 1) hx hb dX12_pour_29 (by decide) ?_
            refine CWV (As := [.int 1]) (rest := []) (wc := [((q 200), .inr (12, [.ref (q 201), .ref (q 202), .int 0, .long 0, .long 1, .ref (q 203), .ref (q 204), .ref (q 205), .ref (q 206), .ref (q 207), .int 0, .int 0, .int 0, .int 0, .int 0, .int 0, .int (-1), .int (-1), .int 0, .int 0, .int 0, .ref (q 208), .int 0, .int 0, .ref (q 209), .ref (q 210), .ref (q 211), .ref (q 212), .ref (q 213), .int 0, .int 0, .ref (q 214), .ref (q 215), .ref (q 216), .int 0, .int 0]))]) (wr := [((q 204), .inl (k 1, 4, .inl (fun _ => -1)))]) hx hb hml hown hts hKK hP hD hS hA (m_is1 l D k (q 200) [.ref (q 201), .ref (q 202), .int 0, .long 0, .long 1, .ref (q 203), .ref (q 204), .ref (q 205), .ref (q 206), .ref (q 207), .int 0, .int 0, .int 0, .int 0, .int 0, .int 0, .int (-1), .int (-1), .int 0, .int 0, .int 0, .ref (q 208), .int 0, .int 0, .ref (q 209), .ref (q 210), .ref (q 211), .ref (q 212), .ref (q 213), .int 0, .int 0, .ref (q 214), .ref (q 215), .ref (q 216), .int 0, .int 0] (Nat.le_of_ble_eq_true rfl) 1 (by decide)) ci_X12_is qm_X12_89 ⟨Nat.le_of_ble_eq_true rfl, Nat.le_of_ble_eq_true rfl⟩ ⟨Nat.le_of_ble_eq_true rfl, Nat.le_of_ble_eq_true rfl⟩ [0] [1] rfl rfl rfl rfl rfl (by decide) 0 rfl rfl rfl hl.1 rfl (Nat.le_of_ble_eq_true rfl) dX12_pour_30 (fun u_30 H locs hφ hP hD hS => ?_)
            have hP : va_P D vwCl [((q 204), .inl (k 1, 4, .inl (fun _ => -1)))] H := hP
            have hD : va_D A [((q 204), .inl (k 1, 4, .inl (fun _ => -1)))] := hD
            refine W.eq (g2 := F0 m 33 ls [.int 0]) rfl ?_
            exact EWz hx hb hr hlocks hS () rfl rfl trivial nil_P nil_D dX12_pour_33
          ·
            refine lv_iload hx hb dX12_pour_18 (lv_at hl 4 rfl) ?_
            refine lv_if_lt (tgt := 28) hx hb dX12_pour_20 (by decide) (fun c_31 => ?_) (fun c_31 => ?_)
            ·
              refine lv_aload_n hx hb dX12_pour_28 rfl (lv_at hl 0 rfl) ?_
              refine lv_iconst (v := 1) hx hb dX12_pour_29 (by decide) ?_
              refine CWV (As := [.int 1]) (rest := []) (wc := [((q 200), .inr (12, [.ref (q 201), .ref (q 202), .int 0, .long 0, .long 1, .ref (q 203), .ref (q 204), .ref (q 205), .ref (q 206), .ref (q 207), .int 0, .int 0, .int 0, .int 0, .int 0, .int 0, .int (-1), .int (-1), .int 0, .int 0, .int 0, .ref (q 208), .int 0, .int 0, .ref (q 209), .ref (q 210), .ref (q 211), .ref (q 212), .ref (q 213), .int 0, .int 0, .ref (q 214), .ref (q 215), .ref (q 216), .int 0, .int 0]))]) (wr := [((q 204), .inl (k 1, 4, .inl (fun _ => -1)))]) hx hb hml hown hts hKK hP hD hS hA (m_is1 l D k (q 200) [.ref (q 201), .ref (q 202), .int 0, .long 0, .long 1, .ref (q 203), .ref (q 204), .ref (q 205), .ref (q 206), .ref (q 207), .int 0, .int 0, .int 0, .int 0, .int 0, .int 0, .int (-1), .int (-1), .int 0, .int 0, .int 0, .ref (q 208), .int 0, .int 0, .ref (q 209), .ref (q 210), .ref (q 211), .ref (q 212), .ref (q 213), .int 0, .int 0, .ref (q 214), .ref (q 215), .ref (q 216), .int 0, .int 0] (Nat.le_of_ble_eq_true rfl) 1 (by decide)) ci_X12_is qm_X12_89 ⟨Nat.le_of_ble_eq_true rfl, Nat.le_of_ble_eq_true rfl⟩ ⟨Nat.le_of_ble_eq_true rfl, Nat.le_of_ble_eq_true rfl⟩ [0] [1] rfl rfl rfl rfl rfl (by decide) 0 rfl rfl rfl hl.1 rfl (Nat.le_of_ble_eq_true rfl) dX12_pour_30 (fun u_32 H locs hφ hP hD hS => ?_)
              have hP : va_P D vwCl [((q 204), .inl (k 1, 4, .inl (fun _ => -1)))] H := hP
              have hD : va_D A [((q 204), .inl (k 1, 4, .inl (fun _ => -1)))] := hD
              refine W.eq (g2 := F0 m 33 ls [.int 0]) rfl ?_
              exact EWz hx hb hr hlocks hS () rfl rfl trivial nil_P nil_D dX12_pour_33
            ·
              refine lv_iload hx hb dX12_pour_23 (lv_at hl 5 rfl) ?_
              refine lv_if_ge (tgt := 34) hx hb dX12_pour_25 (by decide) (fun c_33 => ?_) (fun c_33 => ?_)
              ·
                refine lv_aload_n hx hb dX12_pour_34 rfl (lv_at hl 0 rfl) ?_
                refine va_get (D := D) (ci := 12) (v := .ref (q 204)) (C := RX12) (T := TX12) (N := 36) hx hb hts iX12 hown hK hP 0 rfl rfl 6 (by decide) (hts _ qf_X12_24) (fun _ h => h) rfl dX12_pour_35 ?_
                refine lv_iload_n hx hb dX12_pour_38 rfl (lv_at hl 1 rfl) ?_
                refine va_iald hx hb hK hP 1 1 rfl rfl (xin 0 4 rfl (by decide) (by decide)) dX12_pour_39 ?_
                refine lv_topi (fun x_34 ex_34 => ?_)
                obtain rfl : x_34 = (-1) := ex_34.trans (by decide +kernel)
                refine lv_iconst (v := (-1)) hx hb dX12_pour_40 (by decide) ?_
                refine lv_icmp_eq (tgt := 54) hx hb dX12_pour_41 (by decide) (fun _ => ?_) (fun c => absurd (by decide) c)
                refine lv_aload_n hx hb dX12_pour_54 rfl (lv_at hl 0 rfl) ?_
                refine lv_iconst (v := 2) hx hb dX12_pour_55 (by decide) ?_
                refine CWV (As := [.int 2]) (rest := []) (wc := [((q 200), .inr (12, [.ref (q 201), .ref (q 202), .int 0, .long 0, .long 1, .ref (q 203), .ref (q 204), .ref (q 205), .ref (q 206), .ref (q 207), .int 0, .int 0, .int 0, .int 0, .int 0, .int 0, .int (-1), .int (-1), .int 0, .int 0, .int 0, .ref (q 208), .int 0, .int 0, .ref (q 209), .ref (q 210), .ref (q 211), .ref (q 212), .ref (q 213), .int 0, .int 0, .ref (q 214), .ref (q 215), .ref (q 216), .int 0, .int 0]))]) (wr := [((q 204), .inl (k 1, 4, .inl (fun _ => -1)))]) hx hb hml hown hts hKK hP hD hS hA (m_is1 l D k (q 200) [.ref (q 201), .ref (q 202), .int 0, .long 0, .long 1, .ref (q 203), .ref (q 204), .ref (q 205), .ref (q 206), .ref (q 207), .int 0, .int 0, .int 0, .int 0, .int 0, .int 0, .int (-1), .int (-1), .int 0, .int 0, .int 0, .ref (q 208), .int 0, .int 0, .ref (q 209), .ref (q 210), .ref (q 211), .ref (q 212), .ref (q 213), .int 0, .int 0, .ref (q 214), .ref (q 215), .ref (q 216), .int 0, .int 0] (Nat.le_of_ble_eq_true rfl) 2 (by decide)) ci_X12_is qm_X12_89 ⟨Nat.le_of_ble_eq_true rfl, Nat.le_of_ble_eq_true rfl⟩ ⟨Nat.le_of_ble_eq_true rfl, Nat.le_of_ble_eq_true rfl⟩ [0] [1] rfl rfl rfl rfl rfl (by decide) 0 rfl rfl rfl hl.1 rfl (Nat.le_of_ble_eq_true rfl) dX12_pour_56 (fun u_35 H locs hφ hP hD hS => ?_)
                have hP : va_P D vwCl [((q 204), .inl (k 1, 4, .inl (fun _ => -1)))] H := hP
                have hD : va_D A [((q 204), .inl (k 1, 4, .inl (fun _ => -1)))] := hD
                refine W.eq (g2 := F0 m 59 ls [.int 0]) rfl ?_
                exact EWz hx hb hr hlocks hS () rfl rfl trivial nil_P nil_D dX12_pour_59
              ·
                refine lv_aload_n hx hb dX12_pour_28 rfl (lv_at hl 0 rfl) ?_
                refine lv_iconst (v := 1) hx hb dX12_pour_29 (by decide) ?_
                refine CWV (As := [.int 1]) (rest := []) (wc := [((q 200), .inr (12, [.ref (q 201), .ref (q 202), .int 0, .long 0, .long 1, .ref (q 203), .ref (q 204), .ref (q 205), .ref (q 206), .ref (q 207), .int 0, .int 0, .int 0, .int 0, .int 0, .int 0, .int (-1), .int (-1), .int 0, .int 0, .int 0, .ref (q 208), .int 0, .int 0, .ref (q 209), .ref (q 210), .ref (q 211), .ref (q 212), .ref (q 213), .int 0, .int 0, .ref (q 214), .ref (q 215), .ref (q 216), .int 0, .int 0]))]) (wr := [((q 204), .inl (k 1, 4, .inl (fun _ => -1)))]) hx hb hml hown hts hKK hP hD hS hA (m_is1 l D k (q 200) [.ref (q 201), .ref (q 202), .int 0, .long 0, .long 1, .ref (q 203), .ref (q 204), .ref (q 205), .ref (q 206), .ref (q 207), .int 0, .int 0, .int 0, .int 0, .int 0, .int 0, .int (-1), .int (-1), .int 0, .int 0, .int 0, .ref (q 208), .int 0, .int 0, .ref (q 209), .ref (q 210), .ref (q 211), .ref (q 212), .ref (q 213), .int 0, .int 0, .ref (q 214), .ref (q 215), .ref (q 216), .int 0, .int 0] (Nat.le_of_ble_eq_true rfl) 1 (by decide)) ci_X12_is qm_X12_89 ⟨Nat.le_of_ble_eq_true rfl, Nat.le_of_ble_eq_true rfl⟩ ⟨Nat.le_of_ble_eq_true rfl, Nat.le_of_ble_eq_true rfl⟩ [0] [1] rfl rfl rfl rfl rfl (by decide) 0 rfl rfl rfl hl.1 rfl (Nat.le_of_ble_eq_true rfl) dX12_pour_30 (fun u_36 H locs hφ hP hD hS => ?_)
                have hP : va_P D vwCl [((q 204), .inl (k 1, 4, .inl (fun _ => -1)))] H := hP
                have hD : va_D A [((q 204), .inl (k 1, 4, .inl (fun _ => -1)))] := hD
                refine W.eq (g2 := F0 m 33 ls [.int 0]) rfl ?_
                exact EWz hx hb hr hlocks hS () rfl rfl trivial nil_P nil_D dX12_pour_33
    ·
      refine lv_iload_n hx hb dX12_pour_7 rfl (lv_at hl 3 rfl) ?_
      refine CRS (As := [.int c1]) (rest := []) hx hb hml hown hts hKK (hP.sub (ws' := []) [] rfl) (m_isTray l D k c1) ci_X12_isTray qm_X12_93 ⟨Nat.le_of_ble_eq_true rfl, Nat.le_of_ble_eq_true rfl⟩ ⟨Nat.le_of_ble_eq_true rfl, Nat.le_of_ble_eq_true rfl⟩ rfl hl.1 rfl (Nat.le_of_ble_eq_true rfl) dX12_pour_8 ?_
      refine lv_if_eq (tgt := 28) hx hb dX12_pour_11 (by decide) (fun c_37 => ?_) (fun c_37 => ?_)
      ·
        refine lv_aload_n hx hb dX12_pour_28 rfl (lv_at hl 0 rfl) ?_
        refine lv_iconst (v := 1) hx hb dX12_pour_29 (by decide) ?_
        refine CWV (As := [.int 1]) (rest := []) (wc := [((q 200), .inr (12, [.ref (q 201), .ref (q 202), .int 0, .long 0, .long 1, .ref (q 203), .ref (q 204), .ref (q 205), .ref (q 206), .ref (q 207), .int 0, .int 0, .int 0, .int 0, .int 0, .int 0, .int (-1), .int (-1), .int 0, .int 0, .int 0, .ref (q 208), .int 0, .int 0, .ref (q 209), .ref (q 210), .ref (q 211), .ref (q 212), .ref (q 213), .int 0, .int 0, .ref (q 214), .ref (q 215), .ref (q 216), .int 0, .int 0]))]) (wr := [((q 204), .inl (k 1, 4, .inl (fun _ => -1)))]) hx hb hml hown hts hKK hP hD hS hA (m_is1 l D k (q 200) [.ref (q 201), .ref (q 202), .int 0, .long 0, .long 1, .ref (q 203), .ref (q 204), .ref (q 205), .ref (q 206), .ref (q 207), .int 0, .int 0, .int 0, .int 0, .int 0, .int 0, .int (-1), .int (-1), .int 0, .int 0, .int 0, .ref (q 208), .int 0, .int 0, .ref (q 209), .ref (q 210), .ref (q 211), .ref (q 212), .ref (q 213), .int 0, .int 0, .ref (q 214), .ref (q 215), .ref (q 216), .int 0, .int 0] (Nat.le_of_ble_eq_true rfl) 1 (by decide)) ci_X12_is qm_X12_89 ⟨Nat.le_of_ble_eq_true rfl, Nat.le_of_ble_eq_true rfl⟩ ⟨Nat.le_of_ble_eq_true rfl, Nat.le_of_ble_eq_true rfl⟩ [0] [1] rfl rfl rfl rfl rfl (by decide) 0 rfl rfl rfl hl.1 rfl (Nat.le_of_ble_eq_true rfl) dX12_pour_30 (fun u_38 H locs hφ hP hD hS => ?_)
        have hP : va_P D vwCl [((q 204), .inl (k 1, 4, .inl (fun _ => -1)))] H := hP
        have hD : va_D A [((q 204), .inl (k 1, 4, .inl (fun _ => -1)))] := hD
        refine W.eq (g2 := F0 m 33 ls [.int 0]) rfl ?_
        exact EWz hx hb hr hlocks hS () rfl rfl trivial nil_P nil_D dX12_pour_33
      ·
        obtain rfl | rfl | rfl | rfl := bw4 c_37
        ·
          refine lv_iload_n hx hb dX12_pour_14 rfl (lv_at hl 2 rfl) ?_
          refine lv_if_lt (tgt := 28) hx hb dX12_pour_15 (by decide) (fun c_39 => ?_) (fun c_39 => ?_)
          ·
            refine lv_aload_n hx hb dX12_pour_28 rfl (lv_at hl 0 rfl) ?_
            refine lv_iconst (v := 1) hx hb dX12_pour_29 (by decide) ?_
            refine CWV (As := [.int 1]) (rest := []) (wc := [((q 200), .inr (12, [.ref (q 201), .ref (q 202), .int 0, .long 0, .long 1, .ref (q 203), .ref (q 204), .ref (q 205), .ref (q 206), .ref (q 207), .int 0, .int 0, .int 0, .int 0, .int 0, .int 0, .int (-1), .int (-1), .int 0, .int 0, .int 0, .ref (q 208), .int 0, .int 0, .ref (q 209), .ref (q 210), .ref (q 211), .ref (q 212), .ref (q 213), .int 0, .int 0, .ref (q 214), .ref (q 215), .ref (q 216), .int 0, .int 0]))]) (wr := [((q 204), .inl (k 1, 4, .inl (fun _ => -1)))]) hx hb hml hown hts hKK hP hD hS hA (m_is1 l D k (q 200) [.ref (q 201), .ref (q 202), .int 0, .long 0, .long 1, .ref (q 203), .ref (q 204), .ref (q 205), .ref (q 206), .ref (q 207), .int 0, .int 0, .int 0, .int 0, .int 0, .int 0, .int (-1), .int (-1), .int 0, .int 0, .int 0, .ref (q 208), .int 0, .int 0, .ref (q 209), .ref (q 210), .ref (q 211), .ref (q 212), .ref (q 213), .int 0, .int 0, .ref (q 214), .ref (q 215), .ref (q 216), .int 0, .int 0] (Nat.le_of_ble_eq_true rfl) 1 (by decide)) ci_X12_is qm_X12_89 ⟨Nat.le_of_ble_eq_true rfl, Nat.le_of_ble_eq_true rfl⟩ ⟨Nat.le_of_ble_eq_true rfl, Nat.le_of_ble_eq_true rfl⟩ [0] [1] rfl rfl rfl rfl rfl (by decide) 0 rfl rfl rfl hl.1 rfl (Nat.le_of_ble_eq_true rfl) dX12_pour_30 (fun u_40 H locs hφ hP hD hS => ?_)
            have hP : va_P D vwCl [((q 204), .inl (k 1, 4, .inl (fun _ => -1)))] H := hP
            have hD : va_D A [((q 204), .inl (k 1, 4, .inl (fun _ => -1)))] := hD
            refine W.eq (g2 := F0 m 33 ls [.int 0]) rfl ?_
            exact EWz hx hb hr hlocks hS () rfl rfl trivial nil_P nil_D dX12_pour_33
          ·
            refine lv_iload hx hb dX12_pour_18 (lv_at hl 4 rfl) ?_
            refine lv_if_lt (tgt := 28) hx hb dX12_pour_20 (by decide) (fun c_41 => ?_) (fun c_41 => ?_)
            ·
              refine lv_aload_n hx hb dX12_pour_28 rfl (lv_at hl 0 rfl) ?_
              refine lv_iconst (v := 1) hx hb dX12_pour_29 (by decide) ?_
              refine CWV (As := [.int 1]) (rest := []) (wc := [((q 200), .inr (12, [.ref (q 201), .ref (q 202), .int 0, .long 0, .long 1, .ref (q 203), .ref (q 204), .ref (q 205), .ref (q 206), .ref (q 207), .int 0, .int 0, .int 0, .int 0, .int 0, .int 0, .int (-1), .int (-1), .int 0, .int 0, .int 0, .ref (q 208), .int 0, .int 0, .ref (q 209), .ref (q 210), .ref (q 211), .ref (q 212), .ref (q 213), .int 0, .int 0, .ref (q 214), .ref (q 215), .ref (q 216), .int 0, .int 0]))]) (wr := [((q 204), .inl (k 1, 4, .inl (fun _ => -1)))]) hx hb hml hown hts hKK hP hD hS hA (m_is1 l D k (q 200) [.ref (q 201), .ref (q 202), .int 0, .long 0, .long 1, .ref (q 203), .ref (q 204), .ref (q 205), .ref (q 206), .ref (q 207), .int 0, .int 0, .int 0, .int 0, .int 0, .int 0, .int (-1), .int (-1), .int 0, .int 0, .int 0, .ref (q 208), .int 0, .int 0, .ref (q 209), .ref (q 210), .ref (q 211), .ref (q 212), .ref (q 213), .int 0, .int 0, .ref (q 214), .ref (q 215), .ref (q 216), .int 0, .int 0] (Nat.le_of_ble_eq_true rfl) 1 (by decide)) ci_X12_is qm_X12_89 ⟨Nat.le_of_ble_eq_true rfl, Nat.le_of_ble_eq_true rfl⟩ ⟨Nat.le_of_ble_eq_true rfl, Nat.le_of_ble_eq_true rfl⟩ [0] [1] rfl rfl rfl rfl rfl (by decide) 0 rfl rfl rfl hl.1 rfl (Nat.le_of_ble_eq_true rfl) dX12_pour_30 (fun u_42 H locs hφ hP hD hS => ?_)
              have hP : va_P D vwCl [((q 204), .inl (k 1, 4, .inl (fun _ => -1)))] H := hP
              have hD : va_D A [((q 204), .inl (k 1, 4, .inl (fun _ => -1)))] := hD
              refine W.eq (g2 := F0 m 33 ls [.int 0]) rfl ?_
              exact EWz hx hb hr hlocks hS () rfl rfl trivial nil_P nil_D dX12_pour_33
            ·
              refine lv_iload hx hb dX12_pour_23 (lv_at hl 5 rfl) ?_
              refine lv_if_ge (tgt := 34) hx hb dX12_pour_25 (by decide) (fun c_43 => ?_) (fun c_43 => ?_)
              ·
                refine lv_aload_n hx hb dX12_pour_34 rfl (lv_at hl 0 rfl) ?_
                refine va_get (D := D) (ci := 12) (v := .ref (q 204)) (C := RX12) (T := TX12) (N := 36) hx hb hts iX12 hown hK hP 0 rfl rfl 6 (by decide) (hts _ qf_X12_24) (fun _ h => h) rfl dX12_pour_35 ?_
                refine lv_iload_n hx hb dX12_pour_38 rfl (lv_at hl 1 rfl) ?_
                refine va_iald hx hb hK hP 1 1 rfl rfl (xin 1 4 rfl (by decide) (by decide)) dX12_pour_39 ?_
                refine lv_topi (fun x_44 ex_44 => ?_)
                obtain rfl : x_44 = (-1) := ex_44.trans (by decide +kernel)
                refine lv_iconst (v := (-1)) hx hb dX12_pour_40 (by decide) ?_
                refine lv_icmp_eq (tgt := 54) hx hb dX12_pour_41 (by decide) (fun _ => ?_) (fun c => absurd (by decide) c)
                refine lv_aload_n hx hb dX12_pour_54 rfl (lv_at hl 0 rfl) ?_
                refine lv_iconst (v := 2) hx hb dX12_pour_55 (by decide) ?_
                refine CWV (As := [.int 2]) (rest := []) (wc := [((q 200), .inr (12, [.ref (q 201), .ref (q 202), .int 0, .long 0, .long 1, .ref (q 203), .ref (q 204), .ref (q 205), .ref (q 206), .ref (q 207), .int 0, .int 0, .int 0, .int 0, .int 0, .int 0, .int (-1), .int (-1), .int 0, .int 0, .int 0, .ref (q 208), .int 0, .int 0, .ref (q 209), .ref (q 210), .ref (q 211), .ref (q 212), .ref (q 213), .int 0, .int 0, .ref (q 214), .ref (q 215), .ref (q 216), .int 0, .int 0]))]) (wr := [((q 204), .inl (k 1, 4, .inl (fun _ => -1)))]) hx hb hml hown hts hKK hP hD hS hA (m_is1 l D k (q 200) [.ref (q 201), .ref (q 202), .int 0, .long 0, .long 1, .ref (q 203), .ref (q 204), .ref (q 205), .ref (q 206), .ref (q 207), .int 0, .int 0, .int 0, .int 0, .int 0, .int 0, .int (-1), .int (-1), .int 0, .int 0, .int 0, .ref (q 208), .int 0, .int 0, .ref (q 209), .ref (q 210), .ref (q 211), .ref (q 212), .ref (q 213), .int 0, .int 0, .ref (q 214), .ref (q 215), .ref (q 216), .int 0, .int 0] (Nat.le_of_ble_eq_true rfl) 2 (by decide)) ci_X12_is qm_X12_89 ⟨Nat.le_of_ble_eq_true rfl, Nat.le_of_ble_eq_true rfl⟩ ⟨Nat.le_of_ble_eq_true rfl, Nat.le_of_ble_eq_true rfl⟩ [0] [1] rfl rfl rfl rfl rfl (by decide) 0 rfl rfl rfl hl.1 rfl (Nat.le_of_ble_eq_true rfl) dX12_pour_56 (fun u_45 H locs hφ hP hD hS => ?_)
                have hP : va_P D vwCl [((q 204), .inl (k 1, 4, .inl (fun _ => -1)))] H := hP
                have hD : va_D A [((q 204), .inl (k 1, 4, .inl (fun _ => -1)))] := hD
                refine W.eq (g2 := F0 m 59 ls [.int 0]) rfl ?_
                exact EWz hx hb hr hlocks hS () rfl rfl trivial nil_P nil_D dX12_pour_59
              ·
                refine lv_aload_n hx hb dX12_pour_28 rfl (lv_at hl 0 rfl) ?_
                refine lv_iconst (v := 1) hx hb dX12_pour_29 (by decide) ?_
                refine CWV (As := [.int 1]) (rest := []) (wc := [((q 200), .inr (12, [.ref (q 201), .ref (q 202), .int 0, .long 0, .long 1, .ref (q 203), .ref (q 204), .ref (q 205), .ref (q 206), .ref (q 207), .int 0, .int 0, .int 0, .int 0, .int 0, .int 0, .int (-1), .int (-1), .int 0, .int 0, .int 0, .ref (q 208), .int 0, .int 0, .ref (q 209), .ref (q 210), .ref (q 211), .ref (q 212), .ref (q 213), .int 0, .int 0, .ref (q 214), .ref (q 215), .ref (q 216), .int 0, .int 0]))]) (wr := [((q 204), .inl (k 1, 4, .inl (fun _ => -1)))]) hx hb hml hown hts hKK hP hD hS hA (m_is1 l D k (q 200) [.ref (q 201), .ref (q 202), .int 0, .long 0, .long 1, .ref (q 203), .ref (q 204), .ref (q 205), .ref (q 206), .ref (q 207), .int 0, .int 0, .int 0, .int 0, .int 0, .int 0, .int (-1), .int (-1), .int 0, .int 0, .int 0, .ref (q 208), .int 0, .int 0, .ref (q 209), .ref (q 210), .ref (q 211), .ref (q 212), .ref (q 213), .int 0, .int 0, .ref (q 214), .ref (q 215), .ref (q 216), .int 0, .int 0] (Nat.le_of_ble_eq_true rfl) 1 (by decide)) ci_X12_is qm_X12_89 ⟨Nat.le_of_ble_eq_true rfl, Nat.le_of_ble_eq_true rfl⟩ ⟨Nat.le_of_ble_eq_true rfl, Nat.le_of_ble_eq_true rfl⟩ [0] [1] rfl rfl rfl rfl rfl (by decide) 0 rfl rfl rfl hl.1 rfl (Nat.le_of_ble_eq_true rfl) dX12_pour_30 (fun u_46 H locs hφ hP hD hS => ?_)
                have hP : va_P D vwCl [((q 204), .inl (k 1, 4, .inl (fun _ => -1)))] H := hP
                have hD : va_D A [((q 204), .inl (k 1, 4, .inl (fun _ => -1)))] := hD
                refine W.eq (g2 := F0 m 33 ls [.int 0]) rfl ?_
                exact EWz hx hb hr hlocks hS () rfl rfl trivial nil_P nil_D dX12_pour_33
        ·
          refine lv_iload_n hx hb dX12_pour_14 rfl (lv_at hl 2 rfl) ?_
          refine lv_if_lt (tgt := 28) hx hb dX12_pour_15 (by decide) (fun c_47 => ?_) (fun c_47 => ?_)
          ·
            refine lv_aload_n hx hb dX12_pour_28 rfl (lv_at hl 0 rfl) ?_
            refine lv_iconst (v := 1) hx hb dX12_pour_29 (by decide) ?_
            refine CWV (As := [.int 1]) (rest := []) (wc := [((q 200), .inr (12, [.ref (q 201), .ref (q 202), .int 0, .long 0, .long 1, .ref (q 203), .ref (q 204), .ref (q 205), .ref (q 206), .ref (q 207), .int 0, .int 0, .int 0, .int 0, .int 0, .int 0, .int (-1), .int (-1), .int 0, .int 0, .int 0, .ref (q 208), .int 0, .int 0, .ref (q 209), .ref (q 210), .ref (q 211), .ref (q 212), .ref (q 213), .int 0, .int 0, .ref (q 214), .ref (q 215), .ref (q 216), .int 0, .int 0]))]) (wr := [((q 204), .inl (k 1, 4, .inl (fun _ => -1)))]) hx hb hml hown hts hKK hP hD hS hA (m_is1 l D k (q 200) [.ref (q 201), .ref (q 202), .int 0, .long 0, .long 1, .ref (q 203), .ref (q 204), .ref (q 205), .ref (q 206), .ref (q 207), .int 0, .int 0, .int 0, .int 0, .int 0, .int 0, .int (-1), .int (-1), .int 0, .int 0, .int 0, .ref (q 208), .int 0, .int 0, .ref (q 209), .ref (q 210), .ref (q 211), .ref (q 212), .ref (q 213), .int 0, .int 0, .ref (q 214), .ref (q 215), .ref (q 216), .int 0, .int 0] (Nat.le_of_ble_eq_true rfl) 1 (by decide)) ci_X12_is qm_X12_89 ⟨Nat.le_of_ble_eq_true rfl, Nat.le_of_ble_eq_true rfl⟩ ⟨Nat.le_of_ble_eq_true rfl, Nat.le_of_ble_eq_true rfl⟩ [0] [1] rfl rfl rfl rfl rfl (by decide) 0 rfl rfl rfl hl.1 rfl (Nat.le_of_ble_eq_true rfl) dX12_pour_30 (fun u_48 H locs hφ hP hD hS => ?_)
            have hP : va_P D vwCl [((q 204), .inl (k 1, 4, .inl (fun _ => -1)))] H := hP
            have hD : va_D A [((q 204), .inl (k 1, 4, .inl (fun _ => -1)))] := hD
            refine W.eq (g2 := F0 m 33 ls [.int 0]) rfl ?_
            exact EWz hx hb hr hlocks hS () rfl rfl trivial nil_P nil_D dX12_pour_33
          ·
            refine lv_iload hx hb dX12_pour_18 (lv_at hl 4 rfl) ?_
            refine lv_if_lt (tgt := 28) hx hb dX12_pour_20 (by decide) (fun c_49 => ?_) (fun c_49 => ?_)
            ·
              refine lv_aload_n hx hb dX12_pour_28 rfl (lv_at hl 0 rfl) ?_
              refine lv_iconst (v := 1) hx hb dX12_pour_29 (by decide) ?_
              refine CWV (As := [.int 1]) (rest := []) (wc := [((q 200), .inr (12, [.ref (q 201), .ref (q 202), .int 0, .long 0, .long 1, .ref (q 203), .ref (q 204), .ref (q 205), .ref (q 206), .ref (q 207), .int 0, .int 0, .int 0, .int 0, .int 0, .int 0, .int (-1), .int (-1), .int 0, .int 0, .int 0, .ref (q 208), .int 0, .int 0, .ref (q 209), .ref (q 210), .ref (q 211), .ref (q 212), .ref (q 213), .int 0, .int 0, .ref (q 214), .ref (q 215), .ref (q 216), .int 0, .int 0]))]) (wr := [((q 204), .inl (k 1, 4, .inl (fun _ => -1)))]) hx hb hml hown hts hKK hP hD hS hA (m_is1 l D k (q 200) [.ref (q 201), .ref (q 202), .int 0, .long 0, .long 1, .ref (q 203), .ref (q 204), .ref (q 205), .ref (q 206), .ref (q 207), .int 0, .int 0, .int 0, .int 0, .int 0, .int 0, .int (-1), .int (-1), .int 0, .int 0, .int 0, .ref (q 208), .int 0, .int 0, .ref (q 209), .ref (q 210), .ref (q 211), .ref (q 212), .ref (q 213), .int 0, .int 0, .ref (q 214), .ref (q 215), .ref (q 216), .int 0, .int 0] (Nat.le_of_ble_eq_true rfl) 1 (by decide)) ci_X12_is qm_X12_89 ⟨Nat.le_of_ble_eq_true rfl, Nat.le_of_ble_eq_true rfl⟩ ⟨Nat.le_of_ble_eq_true rfl, Nat.le_of_ble_eq_true rfl⟩ [0] [1] rfl rfl rfl rfl rfl (by decide) 0 rfl rfl rfl hl.1 rfl (Nat.le_of_ble_eq_true rfl) dX12_pour_30 (fun u_50 H locs hφ hP hD hS => ?_)
              have hP : va_P D vwCl [((q 204), .inl (k 1, 4, .inl (fun _ => -1)))] H := hP
              have hD : va_D A [((q 204), .inl (k 1, 4, .inl (fun _ => -1)))] := hD
              refine W.eq (g2 := F0 m 33 ls [.int 0]) rfl ?_
              exact EWz hx hb hr hlocks hS () rfl rfl trivial nil_P nil_D dX12_pour_33
            ·
              refine lv_iload hx hb dX12_pour_23 (lv_at hl 5 rfl) ?_
              refine lv_if_ge (tgt := 34) hx hb dX12_pour_25 (by decide) (fun c_51 => ?_) (fun c_51 => ?_)
              ·
                refine lv_aload_n hx hb dX12_pour_34 rfl (lv_at hl 0 rfl) ?_
                refine va_get (D := D) (ci := 12) (v := .ref (q 204)) (C := RX12) (T := TX12) (N := 36) hx hb hts iX12 hown hK hP 0 rfl rfl 6 (by decide) (hts _ qf_X12_24) (fun _ h => h) rfl dX12_pour_35 ?_
                refine lv_iload_n hx hb dX12_pour_38 rfl (lv_at hl 1 rfl) ?_
                refine va_iald hx hb hK hP 1 1 rfl rfl (xin 1 4 rfl (by decide) (by decide)) dX12_pour_39 ?_
                refine lv_topi (fun x_52 ex_52 => ?_)
                obtain rfl : x_52 = (-1) := ex_52.trans (by decide +kernel)
                refine lv_iconst (v := (-1)) hx hb dX12_pour_40 (by decide) ?_
                refine lv_icmp_eq (tgt := 54) hx hb dX12_pour_41 (by decide) (fun _ => ?_) (fun c => absurd (by decide) c)
                refine lv_aload_n hx hb dX12_pour_54 rfl (lv_at hl 0 rfl) ?_
                refine lv_iconst (v := 2) hx hb dX12_pour_55 (by decide) ?_
                refine CWV (As := [.int 2]) (rest := []) (wc := [((q 200), .inr (12, [.ref (q 201), .ref (q 202), .int 0, .long 0, .long 1, .ref (q 203), .ref (q 204), .ref (q 205), .ref (q 206), .ref (q 207), .int 0, .int 0, .int 0, .int 0, .int 0, .int 0, .int (-1), .int (-1), .int 0, .int 0, .int 0, .ref (q 208), .int 0, .int 0, .ref (q 209), .ref (q 210), .ref (q 211), .ref (q 212), .ref (q 213), .int 0, .int 0, .ref (q 214), .ref (q 215), .ref (q 216), .int 0, .int 0]))]) (wr := [((q 204), .inl (k 1, 4, .inl (fun _ => -1)))]) hx hb hml hown hts hKK hP hD hS hA (m_is1 l D k (q 200) [.ref (q 201), .ref (q 202), .int 0, .long 0, .long 1, .ref (q 203), .ref (q 204), .ref (q 205), .ref (q 206), .ref (q 207), .int 0, .int 0, .int 0, .int 0, .int 0, .int 0, .int (-1), .int (-1), .int 0, .int 0, .int 0, .ref (q 208), .int 0, .int 0, .ref (q 209), .ref (q 210), .ref (q 211), .ref (q 212), .ref (q 213), .int 0, .int 0, .ref (q 214), .ref (q 215), .ref (q 216), .int 0, .int 0] (Nat.le_of_ble_eq_true rfl) 2 (by decide)) ci_X12_is qm_X12_89 ⟨Nat.le_of_ble_eq_true rfl, Nat.le_of_ble_eq_true rfl⟩ ⟨Nat.le_of_ble_eq_true rfl, Nat.le_of_ble_eq_true rfl⟩ [0] [1] rfl rfl rfl rfl rfl (by decide) 0 rfl rfl rfl hl.1 rfl (Nat.le_of_ble_eq_true rfl) dX12_pour_56 (fun u_53 H locs hφ hP hD hS => ?_)
                have hP : va_P D vwCl [((q 204), .inl (k 1, 4, .inl (fun _ => -1)))] H := hP
                have hD : va_D A [((q 204), .inl (k 1, 4, .inl (fun _ => -1)))] := hD
                refine W.eq (g2 := F0 m 59 ls [.int 0]) rfl ?_
                exact EWz hx hb hr hlocks hS () rfl rfl trivial nil_P nil_D dX12_pour_59
              ·
                refine lv_aload_n hx hb dX12_pour_28 rfl (lv_at hl 0 rfl) ?_
                refine lv_iconst (v := 1) hx hb dX12_pour_29 (by decide) ?_
                refine CWV (As := [.int 1]) (rest := []) (wc := [((q 200), .inr (12, [.ref (q 201), .ref (q 202), .int 0, .long 0, .long 1, .ref (q 203), .ref (q 204), .ref (q 205), .ref (q 206), .ref (q 207), .int 0, .int 0, .int 0, .int 0, .int 0, .int 0, .int (-1), .int (-1), .int 0, .int 0, .int 0, .ref (q 208), .int 0, .int 0, .ref (q 209), .ref (q 210), .ref (q 211), .ref (q 212), .ref (q 213), .int 0, .int 0, .ref (q 214), .ref (q 215), .ref (q 216), .int 0, .int 0]))]) (wr := [((q 204), .inl (k 1, 4, .inl (fun _ => -1)))]) hx hb hml hown hts hKK hP hD hS hA (m_is1 l D k (q 200) [.ref (q 201), .ref (q 202), .int 0, .long 0, .long 1, .ref (q 203), .ref (q 204), .ref (q 205), .ref (q 206), .ref (q 207), .int 0, .int 0, .int 0, .int 0, .int 0, .int 0, .int (-1), .int (-1), .int 0, .int 0, .int 0, .ref (q 208), .int 0, .int 0, .ref (q 209), .ref (q 210), .ref (q 211), .ref (q 212), .ref (q 213), .int 0, .int 0, .ref (q 214), .ref (q 215), .ref (q 216), .int 0, .int 0] (Nat.le_of_ble_eq_true rfl) 1 (by decide)) ci_X12_is qm_X12_89 ⟨Nat.le_of_ble_eq_true rfl, Nat.le_of_ble_eq_true rfl⟩ ⟨Nat.le_of_ble_eq_true rfl, Nat.le_of_ble_eq_true rfl⟩ [0] [1] rfl rfl rfl rfl rfl (by decide) 0 rfl rfl rfl hl.1 rfl (Nat.le_of_ble_eq_true rfl) dX12_pour_30 (fun u_54 H locs hφ hP hD hS => ?_)
                have hP : va_P D vwCl [((q 204), .inl (k 1, 4, .inl (fun _ => -1)))] H := hP
                have hD : va_D A [((q 204), .inl (k 1, 4, .inl (fun _ => -1)))] := hD
                refine W.eq (g2 := F0 m 33 ls [.int 0]) rfl ?_
                exact EWz hx hb hr hlocks hS () rfl rfl trivial nil_P nil_D dX12_pour_33
        ·
          refine lv_iload_n hx hb dX12_pour_14 rfl (lv_at hl 2 rfl) ?_
          refine lv_if_lt (tgt := 28) hx hb dX12_pour_15 (by decide) (fun c_55 => ?_) (fun c_55 => ?_)
          ·
            refine lv_aload_n hx hb dX12_pour_28 rfl (lv_at hl 0 rfl) ?_
            refine lv_iconst (v := 1) hx hb dX12_pour_29 (by decide) ?_
            refine CWV (As := [.int 1]) (rest := []) (wc := [((q 200), .inr (12, [.ref (q 201), .ref (q 202), .int 0, .long 0, .long 1, .ref (q 203), .ref (q 204), .ref (q 205), .ref (q 206), .ref (q 207), .int 0, .int 0, .int 0, .int 0, .int 0, .int 0, .int (-1), .int (-1), .int 0, .int 0, .int 0, .ref (q 208), .int 0, .int 0, .ref (q 209), .ref (q 210), .ref (q 211), .ref (q 212), .ref (q 213), .int 0, .int 0, .ref (q 214), .ref (q 215), .ref (q 216), .int 0, .int 0]))]) (wr := [((q 204), .inl (k 1, 4, .inl (fun _ => -1)))]) hx hb hml hown hts hKK hP hD hS hA (m_is1 l D k (q 200) [.ref (q 201), .ref (q 202), .int 0, .long 0, .long 1, .ref (q 203), .ref (q 204), .ref (q 205), .ref (q 206), .ref (q 207), .int 0, .int 0, .int 0, .int 0, .int 0, .int 0, .int (-1), .int (-1), .int 0, .int 0, .int 0, .ref (q 208), .int 0, .int 0, .ref (q 209), .ref (q 210), .ref (q 211), .ref (q 212), .ref (q 213), .int 0, .int 0, .ref (q 214), .ref (q 215), .ref (q 216), .int 0, .int 0] (Nat.le_of_ble_eq_true rfl) 1 (by decide)) ci_X12_is qm_X12_89 ⟨Nat.le_of_ble_eq_true rfl, Nat.le_of_ble_eq_true rfl⟩ ⟨Nat.le_of_ble_eq_true rfl, Nat.le_of_ble_eq_true rfl⟩ [0] [1] rfl rfl rfl rfl rfl (by decide) 0 rfl rfl rfl hl.1 rfl (Nat.le_of_ble_eq_true rfl) dX12_pour_30 (fun u_56 H locs hφ hP hD hS => ?_)
            have hP : va_P D vwCl [((q 204), .inl (k 1, 4, .inl (fun _ => -1)))] H := hP
            have hD : va_D A [((q 204), .inl (k 1, 4, .inl (fun _ => -1)))] := hD
            refine W.eq (g2 := F0 m 33 ls [.int 0]) rfl ?_
            exact EWz hx hb hr hlocks hS () rfl rfl trivial nil_P nil_D dX12_pour_33
          ·
            refine lv_iload hx hb dX12_pour_18 (lv_at hl 4 rfl) ?_
            refine lv_if_lt (tgt := 28) hx hb dX12_pour_20 (by decide) (fun c_57 => ?_) (fun c_57 => ?_)
            ·
              refine lv_aload_n hx hb dX12_pour_28 rfl (lv_at hl 0 rfl) ?_
              refine lv_iconst (v := 1) hx hb dX12_pour_29 (by decide) ?_
              refine CWV (As := [.int 1]) (rest := []) (wc := [((q 200), .inr (12, [.ref (q 201), .ref (q 202), .int 0, .long 0, .long 1, .ref (q 203), .ref (q 204), .ref (q 205), .ref (q 206), .ref (q 207), .int 0, .int 0, .int 0, .int 0, .int 0, .int 0, .int (-1), .int (-1), .int 0, .int 0, .int 0, .ref (q 208), .int 0, .int 0, .ref (q 209), .ref (q 210), .ref (q 211), .ref (q 212), .ref (q 213), .int 0, .int 0, .ref (q 214), .ref (q 215), .ref (q 216), .int 0, .int 0]))]) (wr := [((q 204), .inl (k 1, 4, .inl (fun _ => -1)))]) hx hb hml hown hts hKK hP hD hS hA (m_is1 l D k (q 200) [.ref (q 201), .ref (q 202), .int 0, .long 0, .long 1, .ref (q 203), .ref (q 204), .ref (q 205), .ref (q 206), .ref (q 207), .int 0, .int 0, .int 0, .int 0, .int 0, .int 0, .int (-1), .int (-1), .int 0, .int 0, .int 0, .ref (q 208), .int 0, .int 0, .ref (q 209), .ref (q 210), .ref (q 211), .ref (q 212), .ref (q 213), .int 0, .int 0, .ref (q 214), .ref (q 215), .ref (q 216), .int 0, .int 0] (Nat.le_of_ble_eq_true rfl) 1 (by decide)) ci_X12_is qm_X12_89 ⟨Nat.le_of_ble_eq_true rfl, Nat.le_of_ble_eq_true rfl⟩ ⟨Nat.le_of_ble_eq_true rfl, Nat.le_of_ble_eq_true rfl⟩ [0] [1] rfl rfl rfl rfl rfl (by decide) 0 rfl rfl rfl hl.1 rfl (Nat.le_of_ble_eq_true rfl) dX12_pour_30 (fun u_58 H locs hφ hP hD hS => ?_)
              have hP : va_P D vwCl [((q 204), .inl (k 1, 4, .inl (fun _ => -1)))] H := hP
              have hD : va_D A [((q 204), .inl (k 1, 4, .inl (fun _ => -1)))] := hD
              refine W.eq (g2 := F0 m 33 ls [.int 0]) rfl ?_
              exact EWz hx hb hr hlocks hS () rfl rfl trivial nil_P nil_D dX12_pour_33
            ·
              refine lv_iload hx hb dX12_pour_23 (lv_at hl 5 rfl) ?_
              refine lv_if_ge (tgt := 34) hx hb dX12_pour_25 (by decide) (fun c_59 => ?_) (fun c_59 => ?_)
              ·
                refine lv_aload_n hx hb dX12_pour_34 rfl (lv_at hl 0 rfl) ?_
                refine va_get (D := D) (ci := 12) (v := .ref (q 204)) (C := RX12) (T := TX12) (N := 36) hx hb hts iX12 hown hK hP 0 rfl rfl 6 (by decide) (hts _ qf_X12_24) (fun _ h => h) rfl dX12_pour_35 ?_
                refine lv_iload_n hx hb dX12_pour_38 rfl (lv_at hl 1 rfl) ?_
                refine va_iald hx hb hK hP 1 1 rfl rfl (xin 1 4 rfl (by decide) (by decide)) dX12_pour_39 ?_
                refine lv_topi (fun x_60 ex_60 => ?_)
                obtain rfl : x_60 = (-1) := ex_60.trans (by decide +kernel)
                refine lv_iconst (v := (-1)) hx hb dX12_pour_40 (by decide) ?_
                refine lv_icmp_eq (tgt := 54) hx hb dX12_pour_41 (by decide) (fun _ => ?_) (fun c => absurd (by decide) c)
                refine lv_aload_n hx hb dX12_pour_54 rfl (lv_at hl 0 rfl) ?_
                refine lv_iconst (v := 2) hx hb dX12_pour_55 (by decide) ?_
                refine CWV (As := [.int 2]) (rest := []) (wc := [((q 200), .inr (12, [.ref (q 201), .ref (q 202), .int 0, .long 0, .long 1, .ref (q 203), .ref (q 204), .ref (q 205), .ref (q 206), .ref (q 207), .int 0, .int 0, .int 0, .int 0, .int 0, .int 0, .int (-1), .int (-1), .int 0, .int 0, .int 0, .ref (q 208), .int 0, .int 0, .ref (q 209), .ref (q 210), .ref (q 211), .ref (q 212), .ref (q 213), .int 0, .int 0, .ref (q 214), .ref (q 215), .ref (q 216), .int 0, .int 0]))]) (wr := [((q 204), .inl (k 1, 4, .inl (fun _ => -1)))]) hx hb hml hown hts hKK hP hD hS hA (m_is1 l D k (q 200) [.ref (q 201), .ref (q 202), .int 0, .long 0, .long 1, .ref (q 203), .ref (q 204), .ref (q 205), .ref (q 206), .ref (q 207), .int 0, .int 0, .int 0, .int 0, .int 0, .int 0, .int (-1), .int (-1), .int 0, .int 0, .int 0, .ref (q 208), .int 0, .int 0, .ref (q 209), .ref (q 210), .ref (q 211), .ref (q 212), .ref (q 213), .int 0, .int 0, .ref (q 214), .ref (q 215), .ref (q 216), .int 0, .int 0] (Nat.le_of_ble_eq_true rfl) 2 (by decide)) ci_X12_is qm_X12_89 ⟨Nat.le_of_ble_eq_true rfl, Nat.le_of_ble_eq_true rfl⟩ ⟨Nat.le_of_ble_eq_true rfl, Nat.le_of_ble_eq_true rfl⟩ [0] [1] rfl rfl rfl rfl rfl (by decide) 0 rfl rfl rfl hl.1 rfl (Nat.le_of_ble_eq_true rfl) dX12_pour_56 (fun u_61 H locs hφ hP hD hS => ?_)
                have hP : va_P D vwCl [((q 204), .inl (k 1, 4, .inl (fun _ => -1)))] H := hP
                have hD : va_D A [((q 204), .inl (k 1, 4, .inl (fun _ => -1)))] := hD
                refine W.eq (g2 := F0 m 59 ls [.int 0]) rfl ?_
                exact EWz hx hb hr hlocks hS () rfl rfl trivial nil_P nil_D dX12_pour_59
              ·
                refine lv_aload_n hx hb dX12_pour_28 rfl (lv_at hl 0 rfl) ?_
                refine lv_iconst (v := 1) hx hb dX12_pour_29 (by decide) ?_
                refine CWV (As := [.int 1]) (rest := []) (wc := [((q 200), .inr (12, [.ref (q 201), .ref (q 202), .int 0, .long 0, .long 1, .ref (q 203), .ref (q 204), .ref (q 205), .ref (q 206), .ref (q 207), .int 0, .int 0, .int 0, .int 0, .int 0, .int 0, .int (-1), .int (-1), .int 0, .int 0, .int 0, .ref (q 208), .int 0, .int 0, .ref (q 209), .ref (q 210), .ref (q 211), .ref (q 212), .ref (q 213), .int 0, .int 0, .ref (q 214), .ref (q 215), .ref (q 216), .int 0, .int 0]))]) (wr := [((q 204), .inl (k 1, 4, .inl (fun _ => -1)))]) hx hb hml hown hts hKK hP hD hS hA (m_is1 l D k (q 200) [.ref (q 201), .ref (q 202), .int 0, .long 0, .long 1, .ref (q 203), .ref (q 204), .ref (q 205), .ref (q 206), .ref (q 207), .int 0, .int 0, .int 0, .int 0, .int 0, .int 0, .int (-1), .int (-1), .int 0, .int 0, .int 0, .ref (q 208), .int 0, .int 0, .ref (q 209), .ref (q 210), .ref (q 211), .ref (q 212), .ref (q 213), .int 0, .int 0, .ref (q 214), .ref (q 215), .ref (q 216), .int 0, .int 0] (Nat.le_of_ble_eq_true rfl) 1 (by decide)) ci_X12_is qm_X12_89 ⟨Nat.le_of_ble_eq_true rfl, Nat.le_of_ble_eq_true rfl⟩ ⟨Nat.le_of_ble_eq_true rfl, Nat.le_of_ble_eq_true rfl⟩ [0] [1] rfl rfl rfl rfl rfl (by decide) 0 rfl rfl rfl hl.1 rfl (Nat.le_of_ble_eq_true rfl) dX12_pour_30 (fun u_62 H locs hφ hP hD hS => ?_)
                have hP : va_P D vwCl [((q 204), .inl (k 1, 4, .inl (fun _ => -1)))] H := hP
                have hD : va_D A [((q 204), .inl (k 1, 4, .inl (fun _ => -1)))] := hD
                refine W.eq (g2 := F0 m 33 ls [.int 0]) rfl ?_
                exact EWz hx hb hr hlocks hS () rfl rfl trivial nil_P nil_D dX12_pour_33
        ·
          refine lv_iload_n hx hb dX12_pour_14 rfl (lv_at hl 2 rfl) ?_
          refine lv_if_lt (tgt := 28) hx hb dX12_pour_15 (by decide) (fun c_63 => ?_) (fun c_63 => ?_)
          ·
            refine lv_aload_n hx hb dX12_pour_28 rfl (lv_at hl 0 rfl) ?_
            refine lv_iconst (v := 1) hx hb dX12_pour_29 (by decide) ?_
            refine CWV (As := [.int 1]) (rest := []) (wc := [((q 200), .inr (12, [.ref (q 201), .ref (q 202), .int 0, .long 0, .long 1, .ref (q 203), .ref (q 204), .ref (q 205), .ref (q 206), .ref (q 207), .int 0, .int 0, .int 0, .int 0, .int 0, .int 0, .int (-1), .int (-1), .int 0, .int 0, .int 0, .ref (q 208), .int 0, .int 0, .ref (q 209), .ref (q 210), .ref (q 211), .ref (q 212), .ref (q 213), .int 0, .int 0, .ref (q 214), .ref (q 215), .ref (q 216), .int 0, .int 0]))]) (wr := [((q 204), .inl (k 1, 4, .inl (fun _ => -1)))]) hx hb hml hown hts hKK hP hD hS hA (m_is1 l D k (q 200) [.ref (q 201), .ref (q 202), .int 0, .long 0, .long 1, .ref (q 203), .ref (q 204), .ref (q 205), .ref (q 206), .ref (q 207), .int 0, .int 0, .int 0, .int 0, .int 0, .int 0, .int (-1), .int (-1), .int 0, .int 0, .int 0, .ref (q 208), .int 0, .int 0, .ref (q 209), .ref (q 210), .ref (q 211), .ref (q 212), .ref (q 213), .int 0, .int 0, .ref (q 214), .ref (q 215), .ref (q 216), .int 0, .int 0] (Nat.le_of_ble_eq_true rfl) 1 (by decide)) ci_X12_is qm_X12_89 ⟨Nat.le_of_ble_eq_true rfl, Nat.le_of_ble_eq_true rfl⟩ ⟨Nat.le_of_ble_eq_true rfl, Nat.le_of_ble_eq_true rfl⟩ [0] [1] rfl rfl rfl rfl rfl (by decide) 0 rfl rfl rfl hl.1 rfl (Nat.le_of_ble_eq_true rfl) dX12_pour_30 (fun u_64 H locs hφ hP hD hS => ?_)
            have hP : va_P D vwCl [((q 204), .inl (k 1, 4, .inl (fun _ => -1)))] H := hP
            have hD : va_D A [((q 204), .inl (k 1, 4, .inl (fun _ => -1)))] := hD
            refine W.eq (g2 := F0 m 33 ls [.int 0]) rfl ?_
            exact EWz hx hb hr hlocks hS () rfl rfl trivial nil_P nil_D dX12_pour_33
          ·
            refine lv_iload hx hb dX12_pour_18 (lv_at hl 4 rfl) ?_
            refine lv_if_lt (tgt := 28) hx hb dX12_pour_20 (by decide) (fun c_65 => ?_) (fun c_65 => ?_)
            ·
              refine lv_aload_n hx hb dX12_pour_28 rfl (lv_at hl 0 rfl) ?_
              refine lv_iconst (v := 1) hx hb dX12_pour_29 (by decide) ?_
              refine CWV (As := [.int 1]) (rest := []) (wc := [((q 200), .inr (12, [.ref (q 201), .ref (q 202), .int 0, .long 0, .long 1, .ref (q 203), .ref (q 204), .ref (q 205), .ref (q 206), .ref (q 207), .int 0, .int 0, .int 0, .int 0, .int 0, .int 0, .int (-1), .int (-1), .int 0, .int 0, .int 0, .ref (q 208), .int 0, .int 0, .ref (q 209), .ref (q 210), .ref (q 211), .ref (q 212), .ref (q 213), .int 0, .int 0, .ref (q 214), .ref (q 215), .ref (q 216), .int 0, .int 0]))]) (wr := [((q 204), .inl (k 1, 4, .inl (fun _ => -1)))]) hx hb hml hown hts hKK hP hD hS hA (m_is1 l D k (q 200) [.ref (q 201), .ref (q 202), .int 0, .long 0, .long 1, .ref (q 203), .ref (q 204), .ref (q 205), .ref (q 206), .ref (q 207), .int 0, .int 0, .int 0, .int 0, .int 0, .int 0, .int (-1), .int (-1), .int 0, .int 0, .int 0, .ref (q 208), .int 0, .int 0, .ref (q 209), .ref (q 210), .ref (q 211), .ref (q 212), .ref (q 213), .int 0, .int 0, .ref (q 214), .ref (q 215), .ref (q 216), .int 0, .int 0] (Nat.le_of_ble_eq_true rfl) 1 (by decide)) ci_X12_is qm_X12_89 ⟨Nat.le_of_ble_eq_true rfl, Nat.le_of_ble_eq_true rfl⟩ ⟨Nat.le_of_ble_eq_true rfl, Nat.le_of_ble_eq_true rfl⟩ [0] [1] rfl rfl rfl rfl rfl (by decide) 0 rfl rfl rfl hl.1 rfl (Nat.le_of_ble_eq_true rfl) dX12_pour_30 (fun u_66 H locs hφ hP hD hS => ?_)
              have hP : va_P D vwCl [((q 204), .inl (k 1, 4, .inl (fun _ => -1)))] H := hP
              have hD : va_D A [((q 204), .inl (k 1, 4, .inl (fun _ => -1)))] := hD
              refine W.eq (g2 := F0 m 33 ls [.int 0]) rfl ?_
              exact EWz hx hb hr hlocks hS () rfl rfl trivial nil_P nil_D dX12_pour_33
            ·
              refine lv_iload hx hb dX12_pour_23 (lv_at hl 5 rfl) ?_
              refine lv_if_ge (tgt := 34) hx hb dX12_pour_25 (by decide) (fun c_67 => ?_) (fun c_67 => ?_)
              ·
                refine lv_aload_n hx hb dX12_pour_34 rfl (lv_at hl 0 rfl) ?_
                refine va_get (D := D) (ci := 12) (v := .ref (q 204)) (C := RX12) (T := TX12) (N := 36) hx hb hts iX12 hown hK hP 0 rfl rfl 6 (by decide) (hts _ qf_X12_24) (fun _ h => h) rfl dX12_pour_35 ?_
                refine lv_iload_n hx hb dX12_pour_38 rfl (lv_at hl 1 rfl) ?_
                refine va_iald hx hb hK hP 1 1 rfl rfl (xin 1 4 rfl (by decide) (by decide)) dX12_pour_39 ?_
                refine lv_topi (fun x_68 ex_68 => ?_)
                obtain rfl : x_68 = (-1) := ex_68.trans (by decide +kernel)
                refine lv_iconst (v := (-1)) hx hb dX12_pour_40 (by decide) ?_
                refine lv_icmp_eq (tgt := 54) hx hb dX12_pour_41 (by decide) (fun _ => ?_) (fun c => absurd (by decide) c)
                refine lv_aload_n hx hb dX12_pour_54 rfl (lv_at hl 0 rfl) ?_
                refine lv_iconst (v := 2) hx hb dX12_pour_55 (by decide) ?_
                refine CWV (As := [.int 2]) (rest := []) (wc := [((q 200), .inr (12, [.ref (q 201), .ref (q 202), .int 0, .long 0, .long 1, .ref (q 203), .ref (q 204), .ref (q 205), .ref (q 206), .ref (q 207), .int 0, .int 0, .int 0, .int 0, .int 0, .int 0, .int (-1), .int (-1), .int 0, .int 0, .int 0, .ref (q 208), .int 0, .int 0, .ref (q 209), .ref (q 210), .ref (q 211), .ref (q 212), .ref (q 213), .int 0, .int 0, .ref (q 214), .ref (q 215), .ref (q 216), .int 0, .int 0]))]) (wr := [((q 204), .inl (k 1, 4, .inl (fun _ => -1)))]) hx hb hml hown hts hKK hP hD hS hA (m_is1 l D k (q 200) [.ref (q 201), .ref (q 202), .int 0, .long 0, .long 1, .ref (q 203), .ref (q 204), .ref (q 205), .ref (q 206), .ref (q 207), .int 0, .int 0, .int 0, .int 0, .int 0, .int 0, .int (-1), .int (-1), .int 0, .int 0, .int 0, .ref (q 208), .int 0, .int 0, .ref (q 209), .ref (q 210), .ref (q 211), .ref (q 212), .ref (q 213), .int 0, .int 0, .ref (q 214), .ref (q 215), .ref (q 216), .int 0, .int 0] (Nat.le_of_ble_eq_true rfl) 2 (by decide)) ci_X12_is qm_X12_89 ⟨Nat.le_of_ble_eq_true rfl, Nat.le_of_ble_eq_true rfl⟩ ⟨Nat.le_of_ble_eq_true rfl, Nat.le_of_ble_eq_true rfl⟩ [0] [1] rfl rfl rfl rfl rfl (by decide) 0 rfl rfl rfl hl.1 rfl (Nat.le_of_ble_eq_true rfl) dX12_pour_56 (fun u_69 H locs hφ hP hD hS => ?_)
                have hP : va_P D vwCl [((q 204), .inl (k 1, 4, .inl (fun _ => -1)))] H := hP
                have hD : va_D A [((q 204), .inl (k 1, 4, .inl (fun _ => -1)))] := hD
                refine W.eq (g2 := F0 m 59 ls [.int 0]) rfl ?_
                exact EWz hx hb hr hlocks hS () rfl rfl trivial nil_P nil_D dX12_pour_59
              ·
                refine lv_aload_n hx hb dX12_pour_28 rfl (lv_at hl 0 rfl) ?_
                refine lv_iconst (v := 1) hx hb dX12_pour_29 (by decide) ?_
                refine CWV (As := [.int 1]) (rest := []) (wc := [((q 200), .inr (12, [.ref (q 201), .ref (q 202), .int 0, .long 0, .long 1, .ref (q 203), .ref (q 204), .ref (q 205), .ref (q 206), .ref (q 207), .int 0, .int 0, .int 0, .int 0, .int 0, .int 0, .int (-1), .int (-1), .int 0, .int 0, .int 0, .ref (q 208), .int 0, .int 0, .ref (q 209), .ref (q 210), .ref (q 211), .ref (q 212), .ref (q 213), .int 0, .int 0, .ref (q 214), .ref (q 215), .ref (q 216), .int 0, .int 0]))]) (wr := [((q 204), .inl (k 1, 4, .inl (fun _ => -1)))]) hx hb hml hown hts hKK hP hD hS hA (m_is1 l D k (q 200) [.ref (q 201), .ref (q 202), .int 0, .long 0, .long 1, .ref (q 203), .ref (q 204), .ref (q 205), .ref (q 206), .ref (q 207), .int 0, .int 0, .int 0, .int 0, .int 0, .int 0, .int (-1), .int (-1), .int 0, .int 0, .int 0, .ref (q 208), .int 0, .int 0, .ref (q 209), .ref (q 210), .ref (q 211), .ref (q 212), .ref (q 213), .int 0, .int 0, .ref (q 214), .ref (q 215), .ref (q 216), .int 0, .int 0] (Nat.le_of_ble_eq_true rfl) 1 (by decide)) ci_X12_is qm_X12_89 ⟨Nat.le_of_ble_eq_true rfl, Nat.le_of_ble_eq_true rfl⟩ ⟨Nat.le_of_ble_eq_true rfl, Nat.le_of_ble_eq_true rfl⟩ [0] [1] rfl rfl rfl rfl rfl (by decide) 0 rfl rfl rfl hl.1 rfl (Nat.le_of_ble_eq_true rfl) dX12_pour_30 (fun u_70 H locs hφ hP hD hS => ?_)
                have hP : va_P D vwCl [((q 204), .inl (k 1, 4, .inl (fun _ => -1)))] H := hP
                have hD : va_D A [((q 204), .inl (k 1, 4, .inl (fun _ => -1)))] := hD
                refine W.eq (g2 := F0 m 33 ls [.int 0]) rfl ?_
                exact EWz hx hb hr hlocks hS () rfl rfl trivial nil_P nil_D dX12_pour_33
    ·
      refine lv_iload_n hx hb dX12_pour_7 rfl (lv_at hl 3 rfl) ?_
      refine CRS (As := [.int c1]) (rest := []) hx hb hml hown hts hKK (hP.sub (ws' := []) [] rfl) (m_isTray l D k c1) ci_X12_isTray qm_X12_93 ⟨Nat.le_of_ble_eq_true rfl, Nat.le_of_ble_eq_true rfl⟩ ⟨Nat.le_of_ble_eq_true rfl, Nat.le_of_ble_eq_true rfl⟩ rfl hl.1 rfl (Nat.le_of_ble_eq_true rfl) dX12_pour_8 ?_
      refine lv_if_eq (tgt := 28) hx hb dX12_pour_11 (by decide) (fun c_71 => ?_) (fun c_71 => ?_)
      ·
        refine lv_aload_n hx hb dX12_pour_28 rfl (lv_at hl 0 rfl) ?_
        refine lv_iconst (v := 1) hx hb dX12_pour_29 (by decide) ?_
        refine CWV (As := [.int 1]) (rest := []) (wc := [((q 200), .inr (12, [.ref (q 201), .ref (q 202), .int 0, .long 0, .long 1, .ref (q 203), .ref (q 204), .ref (q 205), .ref (q 206), .ref (q 207), .int 0, .int 0, .int 0, .int 0, .int 0, .int 0, .int (-1), .int (-1), .int 0, .int 0, .int 0, .ref (q 208), .int 0, .int 0, .ref (q 209), .ref (q 210), .ref (q 211), .ref (q 212), .ref (q 213), .int 0, .int 0, .ref (q 214), .ref (q 215), .ref (q 216), .int 0, .int 0]))]) (wr := [((q 204), .inl (k 1, 4, .inl (fun _ => -1)))]) hx hb hml hown hts hKK hP hD hS hA (m_is1 l D k (q 200) [.ref (q 201), .ref (q 202), .int 0, .long 0, .long 1, .ref (q 203), .ref (q 204), .ref (q 205), .ref (q 206), .ref (q 207), .int 0, .int 0, .int 0, .int 0, .int 0, .int 0, .int (-1), .int (-1), .int 0, .int 0, .int 0, .ref (q 208), .int 0, .int 0, .ref (q 209), .ref (q 210), .ref (q 211), .ref (q 212), .ref (q 213), .int 0, .int 0, .ref (q 214), .ref (q 215), .ref (q 216), .int 0, .int 0] (Nat.le_of_ble_eq_true rfl) 1 (by decide)) ci_X12_is qm_X12_89 ⟨Nat.le_of_ble_eq_true rfl, Nat.le_of_ble_eq_true rfl⟩ ⟨Nat.le_of_ble_eq_true rfl, Nat.le_of_ble_eq_true rfl⟩ [0] [1] rfl rfl rfl rfl rfl (by decide) 0 rfl rfl rfl hl.1 rfl (Nat.le_of_ble_eq_true rfl) dX12_pour_30 (fun u_72 H locs hφ hP hD hS => ?_)
        have hP : va_P D vwCl [((q 204), .inl (k 1, 4, .inl (fun _ => -1)))] H := hP
        have hD : va_D A [((q 204), .inl (k 1, 4, .inl (fun _ => -1)))] := hD
        refine W.eq (g2 := F0 m 33 ls [.int 0]) rfl ?_
        exact EWz hx hb hr hlocks hS () rfl rfl trivial nil_P nil_D dX12_pour_33
      ·
        obtain rfl | rfl | rfl | rfl := bw4 c_71
        ·
          refine lv_iload_n hx hb dX12_pour_14 rfl (lv_at hl 2 rfl) ?_
          refine lv_if_lt (tgt := 28) hx hb dX12_pour_15 (by decide) (fun c_73 => ?_) (fun c_73 => ?_)
          ·
            refine lv_aload_n hx hb dX12_pour_28 rfl (lv_at hl 0 rfl) ?_
            refine lv_iconst (v := 1) hx hb dX12_pour_29 (by decide) ?_
            refine CWV (As := [.int 1]) (rest := []) (wc := [((q 200), .inr (12, [.ref (q 201), .ref (q 202), .int 0, .long 0, .long 1, .ref (q 203), .ref (q 204), .ref (q 205), .ref (q 206), .ref (q 207), .int 0, .int 0, .int 0, .int 0, .int 0, .int 0, .int (-1), .int (-1), .int 0, .int 0, .int 0, .ref (q 208), .int 0, .int 0, .ref (q 209), .ref (q 210), .ref (q 211), .ref (q 212), .ref (q 213), .int 0, .int 0, .ref (q 214), .ref (q 215), .ref (q 216), .int 0, .int 0]))]) (wr := [((q 204), .inl (k 1, 4, .inl (fun _ => -1)))]) hx hb hml hown hts hKK hP hD hS hA (m_is1 l D k (q 200) [.ref (q 201), .ref (q 202), .int 0, .long 0, .long 1, .ref (q 203), .ref (q 204), .ref (q 205), .ref (q 206), .ref (q 207), .int 0, .int 0, .int 0, .int 0, .int 0, .int 0, .int (-1), .int (-1), .int 0, .int 0, .int 0, .ref (q 208), .int 0, .int 0, .ref (q 209), .ref (q 210), .ref (q 211), .ref (q 212), .ref (q 213), .int 0, .int 0, .ref (q 214), .ref (q 215), .ref (q 216), .int 0, .int 0] (Nat.le_of_ble_eq_true rfl) 1 (by decide)) ci_X12_is qm_X12_89 ⟨Nat.le_of_ble_eq_true rfl, Nat.le_of_ble_eq_true rfl⟩ ⟨Nat.le_of_ble_eq_true rfl, Nat.le_of_ble_eq_true rfl⟩ [0] [1] rfl rfl rfl rfl rfl (by decide) 0 rfl rfl rfl hl.1 rfl (Nat.le_of_ble_eq_true rfl) dX12_pour_30 (fun u_74 H locs hφ hP hD hS => ?_)
            have hP : va_P D vwCl [((q 204), .inl (k 1, 4, .inl (fun _ => -1)))] H := hP
            have hD : va_D A [((q 204), .inl (k 1, 4, .inl (fun _ => -1)))] := hD
            refine W.eq (g2 := F0 m 33 ls [.int 0]) rfl ?_
            exact EWz hx hb hr hlocks hS () rfl rfl trivial nil_P nil_D dX12_pour_33
          ·
            refine lv_iload hx hb dX12_pour_18 (lv_at hl 4 rfl) ?_
            refine lv_if_lt (tgt := 28) hx hb dX12_pour_20 (by decide) (fun c_75 => ?_) (fun c_75 => ?_)
            ·
              refine lv_aload_n hx hb dX12_pour_28 rfl (lv_at hl 0 rfl) ?_
              refine lv_iconst (v := 1) hx hb dX12_pour_29 (by decide) ?_
              refine CWV (As := [.int 1]) (rest := []) (wc := [((q 200), .inr (12, [.ref (q 201), .ref (q 202), .int 0, .long 0, .long 1, .ref (q 203), .ref (q 204), .ref (q 205), .ref (q 206), .ref (q 207), .int 0, .int 0, .int 0, .int 0, .int 0, .int 0, .int (-1), .int (-1), .int 0, .int 0, .int 0, .ref (q 208), .int 0, .int 0, .ref (q 209), .ref (q 210), .ref (q 211), .ref (q 212), .ref (q 213), .int 0, .int 0, .ref (q 214), .ref (q 215), .ref (q 216), .int 0, .int 0]))]) (wr := [((q 204), .inl (k 1, 4, .inl (fun _ => -1)))]) hx hb hml hown hts hKK hP hD hS hA (m_is1 l D k (q 200) [.ref (q 201), .ref (q 202), .int 0, .long 0, .long 1, .ref (q 203), .ref (q 204), .ref (q 205), .ref (q 206), .ref (q 207), .int 0, .int 0, .int 0, .int 0, .int 0, .int 0, .int (-1), .int (-1), .int 0, .int 0, .int 0, .ref (q 208), .int 0, .int 0, .ref (q 209), .ref (q 210), .ref (q 211), .ref (q 212), .ref (q 213), .int 0, .int 0, .ref (q 214), .ref (q 215), .ref (q 216), .int 0, .int 0] (Nat.le_of_ble_eq_true rfl) 1 (by decide)) ci_X12_is qm_X12_89 ⟨Nat.le_of_ble_eq_true rfl, Nat.le_of_ble_eq_true rfl⟩ ⟨Nat.le_of_ble_eq_true rfl, Nat.le_of_ble_eq_true rfl⟩ [0] [1] rfl rfl rfl rfl rfl (by decide) 0 rfl rfl rfl hl.1 rfl (Nat.le_of_ble_eq_true rfl) dX12_pour_30 (fun u_76 H locs hφ hP hD hS => ?_)
              have hP : va_P D vwCl [((q 204), .inl (k 1, 4, .inl (fun _ => -1)))] H := hP
              have hD : va_D A [((q 204), .inl (k 1, 4, .inl (fun _ => -1)))] := hD
              refine W.eq (g2 := F0 m 33 ls [.int 0]) rfl ?_
              exact EWz hx hb hr hlocks hS () rfl rfl trivial nil_P nil_D dX12_pour_33
            ·
              refine lv_iload hx hb dX12_pour_23 (lv_at hl 5 rfl) ?_
              refine lv_if_ge (tgt := 34) hx hb dX12_pour_25 (by decide) (fun c_77 => ?_) (fun c_77 => ?_)
              ·
                refine lv_aload_n hx hb dX12_pour_34 rfl (lv_at hl 0 rfl) ?_
                refine va_get (D := D) (ci := 12) (v := .ref (q 204)) (C := RX12) (T := TX12) (N := 36) hx hb hts iX12 hown hK hP 0 rfl rfl 6 (by decide) (hts _ qf_X12_24) (fun _ h => h) rfl dX12_pour_35 ?_
                refine lv_iload_n hx hb dX12_pour_38 rfl (lv_at hl 1 rfl) ?_
                refine va_iald hx hb hK hP 1 1 rfl rfl (xin 2 4 rfl (by decide) (by decide)) dX12_pour_39 ?_
                refine lv_topi (fun x_78 ex_78 => ?_)
                obtain rfl : x_78 = (-1) := ex_78.trans (by decide +kernel)
                refine lv_iconst (v := (-1)) hx hb dX12_pour_40 (by decide) ?_
                refine lv_icmp_eq (tgt := 54) hx hb dX12_pour_41 (by decide) (fun _ => ?_) (fun c => absurd (by decide) c)
                refine lv_aload_n hx hb dX12_pour_54 rfl (lv_at hl 0 rfl) ?_
                refine lv_iconst (v := 2) hx hb dX12_pour_55 (by decide) ?_
                refine CWV (As := [.int 2]) (rest := []) (wc := [((q 200), .inr (12, [.ref (q 201), .ref (q 202), .int 0, .long 0, .long 1, .ref (q 203), .ref (q 204), .ref (q 205), .ref (q 206), .ref (q 207), .int 0, .int 0, .int 0, .int 0, .int 0, .int 0, .int (-1), .int (-1), .int 0, .int 0, .int 0, .ref (q 208), .int 0, .int 0, .ref (q 209), .ref (q 210), .ref (q 211), .ref (q 212), .ref (q 213), .int 0, .int 0, .ref (q 214), .ref (q 215), .ref (q 216), .int 0, .int 0]))]) (wr := [((q 204), .inl (k 1, 4, .inl (fun _ => -1)))]) hx hb hml hown hts hKK hP hD hS hA (m_is1 l D k (q 200) [.ref (q 201), .ref (q 202), .int 0, .long 0, .long 1, .ref (q 203), .ref (q 204), .ref (q 205), .ref (q 206), .ref (q 207), .int 0, .int 0, .int 0, .int 0, .int 0, .int 0, .int (-1), .int (-1), .int 0, .int 0, .int 0, .ref (q 208), .int 0, .int 0, .ref (q 209), .ref (q 210), .ref (q 211), .ref (q 212), .ref (q 213), .int 0, .int 0, .ref (q 214), .ref (q 215), .ref (q 216), .int 0, .int 0] (Nat.le_of_ble_eq_true rfl) 2 (by decide)) ci_X12_is qm_X12_89 ⟨Nat.le_of_ble_eq_true rfl, Nat.le_of_ble_eq_true rfl⟩ ⟨Nat.le_of_ble_eq_true rfl, Nat.le_of_ble_eq_true rfl⟩ [0] [1] rfl rfl rfl rfl rfl (by decide) 0 rfl rfl rfl hl.1 rfl (Nat.le_of_ble_eq_true rfl) dX12_pour_56 (fun u_79 H locs hφ hP hD hS => ?_)
                have hP : va_P D vwCl [((q 204), .inl (k 1, 4, .inl (fun _ => -1)))] H := hP
                have hD : va_D A [((q 204), .inl (k 1, 4, .inl (fun _ => -1)))] := hD
                refine W.eq (g2 := F0 m 59 ls [.int 0]) rfl ?_
                exact EWz hx hb hr hlocks hS () rfl rfl trivial nil_P nil_D dX12_pour_59
              ·
                refine lv_aload_n hx hb dX12_pour_28 rfl (lv_at hl 0 rfl) ?_
                refine lv_iconst (v := 1) hx hb dX12_pour_29 (by decide) ?_
                refine CWV (As := [.int 1]) (rest := []) (wc := [((q 200), .inr (12, [.ref (q 201), .ref (q 202), .int 0, .long 0, .long 1, .ref (q 203), .ref (q 204), .ref (q 205), .ref (q 206), .ref (q 207), .int 0, .int 0, .int 0, .int 0, .int 0, .int 0, .int (-1), .int (-1), .int 0, .int 0, .int 0, .ref (q 208), .int 0, .int 0, .ref (q 209), .ref (q 210), .ref (q 211), .ref (q 212), .ref (q 213), .int 0, .int 0, .ref (q 214), .ref (q 215), .ref (q 216), .int 0, .int 0]))]) (wr := [((q 204), .inl (k 1, 4, .inl (fun _ => -1)))]) hx hb hml hown hts hKK hP hD hS hA (m_is1 l D k (q 200) [.ref (q 201), .ref (q 202), .int 0, .long 0, .long 1, .ref (q 203), .ref (q 204), .ref (q 205), .ref (q 206), .ref (q 207), .int 0, .int 0, .int 0, .int 0, .int 0, .int 0, .int (-1), .int (-1), .int 0, .int 0, .int 0, .ref (q 208), .int 0, .int 0, .ref (q 209), .ref (q 210), .ref (q 211), .ref (q 212), .ref (q 213), .int 0, .int 0, .ref (q 214), .ref (q 215), .ref (q 216), .int 0, .int 0] (Nat.le_of_ble_eq_true rfl) 1 (by decide)) ci_X12_is qm_X12_89 ⟨Nat.le_of_ble_eq_true rfl, Nat.le_of_ble_eq_true rfl⟩ ⟨Nat.le_of_ble_eq_true rfl, Nat.le_of_ble_eq_true rfl⟩ [0] [1] rfl rfl rfl rfl rfl (by decide) 0 rfl rfl rfl hl.1 rfl (Nat.le_of_ble_eq_true rfl) dX12_pour_30 (fun u_80 H locs hφ hP hD hS => ?_)
                have hP : va_P D vwCl [((q 204), .inl (k 1, 4, .inl (fun _ => -1)))] H := hP
                have hD : va_D A [((q 204), .inl (k 1, 4, .inl (fun _ => -1)))] := hD
                refine W.eq (g2 := F0 m 33 ls [.int 0]) rfl ?_
                exact EWz hx hb hr hlocks hS () rfl rfl trivial nil_P nil_D dX12_pour_33
        ·
          refine lv_iload_n hx hb dX12_pour_14 rfl (lv_at hl 2 rfl) ?_
          refine lv_if_lt (tgt := 28) hx hb dX12_pour_15 (by decide) (fun c_81 => ?_) (fun c_81 => ?_)
          ·
            refine lv_aload_n hx hb dX12_pour_28 rfl (lv_at hl 0 rfl) ?_
            refine lv_iconst (v := 1) hx hb dX12_pour_29 (by decide) ?_
            refine CWV (As := [.int 1]) (rest := []) (wc := [((q 200), .inr (12, [.ref (q 201), .ref (q 202), .int 0, .long 0, .long 1, .ref (q 203), .ref (q 204), .ref (q 205), .ref (q 206), .ref (q 207), .int 0, .int 0, .int 0, .int 0, .int 0, .int 0, .int (-1), .int (-1), .int 0, .int 0, .int 0, .ref (q 208), .int 0, .int 0, .ref (q 209), .ref (q 210), .ref (q 211), .ref (q 212), .ref (q 213), .int 0, .int 0, .ref (q 214), .ref (q 215), .ref (q 216), .int 0, .int 0]))]) (wr := [((q 204), .inl (k 1, 4, .inl (fun _ => -1)))]) hx hb hml hown hts hKK hP hD hS hA (m_is1 l D k (q 200) [.ref (q 201), .ref (q 202), .int 0, .long 0, .long 1, .ref (q 203), .ref (q 204), .ref (q 205), .ref (q 206), .ref (q 207), .int 0, .int 0, .int 0, .int 0, .int 0, .int 0, .int (-1), .int (-1), .int 0, .int 0, .int 0, .ref (q 208), .int 0, .int 0, .ref (q 209), .ref (q 210), .ref (q 211), .ref (q 212), .ref (q 213), .int 0, .int 0, .ref (q 214), .ref (q 215), .ref (q 216), .int 0, .int 0] (Nat.le_of_ble_eq_true rfl) 1 (by decide)) ci_X12_is qm_X12_89 ⟨Nat.le_of_ble_eq_true rfl, Nat.le_of_ble_eq_true rfl⟩ ⟨Nat.le_of_ble_eq_true rfl, Nat.le_of_ble_eq_true rfl⟩ [0] [1] rfl rfl rfl rfl rfl (by decide) 0 rfl rfl rfl hl.1 rfl (Nat.le_of_ble_eq_true rfl) dX12_pour_30 (fun u_82 H locs hφ hP hD hS => ?_)
            have hP : va_P D vwCl [((q 204), .inl (k 1, 4, .inl (fun _ => -1)))] H := hP
            have hD : va_D A [((q 204), .inl (k 1, 4, .inl (fun _ => -1)))] := hD
            refine W.eq (g2 := F0 m 33 ls [.int 0]) rfl ?_
            exact EWz hx hb hr hlocks hS () rfl rfl trivial nil_P nil_D dX12_pour_33
          ·
            refine lv_iload hx hb dX12_pour_18 (lv_at hl 4 rfl) ?_
            refine lv_if_lt (tgt := 28) hx hb dX12_pour_20 (by decide) (fun c_83 => ?_) (fun c_83 => ?_)
            ·
              refine lv_aload_n hx hb dX12_pour_28 rfl (lv_at hl 0 rfl) ?_
              refine lv_iconst (v := 1) hx hb dX12_pour_29 (by decide) ?_
              refine CWV (As := [.int 1]) (rest := []) (wc := [((q 200), .inr (12, [.ref (q 201), .ref (q 202), .int 0, .long 0, .long 1, .ref (q 203), .ref (q 204), .ref (q 205), .ref (q 206), .ref (q 207), .int 0, .int 0, .int 0, .int 0, .int 0, .int 0, .int (-1), .int (-1), .int 0, .int 0, .int 0, .ref (q 208), .int 0, .int 0, .ref (q 209), .ref (q 210), .ref (q 211), .ref (q 212), .ref (q 213), .int 0, .int 0, .ref (q 214), .ref (q 215), .ref (q 216), .int 0, .int 0]))]) (wr := [((q 204), .inl (k 1, 4, .inl (fun _ => -1)))]) hx hb hml hown hts hKK hP hD hS hA (m_is1 l D k (q 200) [.ref (q 201), .ref (q 202), .int 0, .long 0, .long 1, .ref (q 203), .ref (q 204), .ref (q 205), .ref (q 206), .ref (q 207), .int 0, .int 0, .int 0, .int 0, .int 0, .int 0, .int (-1), .int (-1), .int 0, .int 0, .int 0, .ref (q 208), .int 0, .int 0, .ref (q 209), .ref (q 210), .ref (q 211), .ref (q 212), .ref (q 213), .int 0, .int 0, .ref (q 214), .ref (q 215), .ref (q 216), .int 0, .int 0] (Nat.le_of_ble_eq_true rfl) 1 (by decide)) ci_X12_is qm_X12_89 ⟨Nat.le_of_ble_eq_true rfl, Nat.le_of_ble_eq_true rfl⟩ ⟨Nat.le_of_ble_eq_true rfl, Nat.le_of_ble_eq_true rfl⟩ [0] [1] rfl rfl rfl rfl rfl (by decide) 0 rfl rfl rfl hl.1 rfl (Nat.le_of_ble_eq_true rfl) dX12_pour_30 (fun u_84 H locs hφ hP hD hS => ?_)
              have hP : va_P D vwCl [((q 204), .inl (k 1, 4, .inl (fun _ => -1)))] H := hP
              have hD : va_D A [((q 204), .inl (k 1, 4, .inl (fun _ => -1)))] := hD
              refine W.eq (g2 := F0 m 33 ls [.int 0]) rfl ?_
              exact EWz hx hb hr hlocks hS () rfl rfl trivial nil_P nil_D dX12_pour_33
            ·
              refine lv_iload hx hb dX12_pour_23 (lv_at hl 5 rfl) ?_
              refine lv_if_ge (tgt := 34) hx hb dX12_pour_25 (by decide) (fun c_85 => ?_) (fun c_85 => ?_)
              ·
                refine lv_aload_n hx hb dX12_pour_34 rfl (lv_at hl 0 rfl) ?_
                refine va_get (D := D) (ci := 12) (v := .ref (q 204)) (C := RX12) (T := TX12) (N := 36) hx hb hts iX12 hown hK hP 0 rfl rfl 6 (by decide) (hts _ qf_X12_24) (fun _ h => h) rfl dX12_pour_35 ?_
                refine lv_iload_n hx hb dX12_pour_38 rfl (lv_at hl 1 rfl) ?_
                refine va_iald hx hb hK hP 1 1 rfl rfl (xin 2 4 rfl (by decide) (by decide)) dX12_pour_39 ?_
                refine lv_topi (fun x_86 ex_86 => ?_)
                obtain rfl : x_86 = (-1) := ex_86.trans (by decide +kernel)
                refine lv_iconst (v := (-1)) hx hb dX12_pour_40 (by decide) ?_
                refine lv_icmp_eq (tgt := 54) hx hb dX12_pour_41 (by decide) (fun _ => ?_) (fun c => absurd (by decide) c)
                refine lv_aload_n hx hb dX12_pour_54 rfl (lv_at hl 0 rfl) ?_
                refine lv_iconst (v := 2) hx hb dX12_pour_55 (by decide) ?_
                refine CWV (As := [.int 2]) (rest := []) (wc := [((q 200), .inr (12, [.ref (q 201), .ref (q 202), .int 0, .long 0, .long 1, .ref (q 203), .ref (q 204), .ref (q 205), .ref (q 206), .ref (q 207), .int 0, .int 0, .int 0, .int 0, .int 0, .int 0, .int (-1), .int (-1), .int 0, .int 0, .int 0, .ref (q 208), .int 0, .int 0, .ref (q 209), .ref (q 210), .ref (q 211), .ref (q 212), .ref (q 213), .int 0, .int 0, .ref (q 214), .ref (q 215), .ref (q 216), .int 0, .int 0]))]) (wr := [((q 204), .inl (k 1, 4, .inl (fun _ => -1)))]) hx hb hml hown hts hKK hP hD hS hA (m_is1 l D k (q 200) [.ref (q 201), .ref (q 202), .int 0, .long 0, .long 1, .ref (q 203), .ref (q 204), .ref (q 205), .ref (q 206), .ref (q 207), .int 0, .int 0, .int 0, .int 0, .int 0, .int 0, .int (-1), .int (-1), .int 0, .int 0, .int 0, .ref (q 208), .int 0, .int 0, .ref (q 209), .ref (q 210), .ref (q 211), .ref (q 212), .ref (q 213), .int 0, .int 0, .ref (q 214), .ref (q 215), .ref (q 216), .int 0, .int 0] (Nat.le_of_ble_eq_true rfl) 2 (by decide)) ci_X12_is qm_X12_89 ⟨Nat.le_of_ble_eq_true rfl, Nat.le_of_ble_eq_true rfl⟩ ⟨Nat.le_of_ble_eq_true rfl, Nat.le_of_ble_eq_true rfl⟩ [0] [1] rfl rfl rfl rfl rfl (by decide) 0 rfl rfl rfl hl.1 rfl (Nat.le_of_ble_eq_true rfl) dX12_pour_56 (fun u_87 H locs hφ hP hD hS => ?_)
                have hP : va_P D vwCl [((q 204), .inl (k 1, 4, .inl (fun _ => -1)))] H := hP
                have hD : va_D A [((q 204), .inl (k 1, 4, .inl (fun _ => -1)))] := hD
                refine W.eq (g2 := F0 m 59 ls [.int 0]) rfl ?_
                exact EWz hx hb hr hlocks hS () rfl rfl trivial nil_P nil_D dX12_pour_59
              ·
                refine lv_aload_n hx hb dX12_pour_28 rfl (lv_at hl 0 rfl) ?_
                refine lv_iconst (v := 1) hx hb dX12_pour_29 (by decide) ?_
                refine CWV (As := [.int 1]) (rest := []) (wc := [((q 200), .inr (12, [.ref (q 201), .ref (q 202), .int 0, .long 0, .long 1, .ref (q 203), .ref (q 204), .ref (q 205), .ref (q 206), .ref (q 207), .int 0, .int 0, .int 0, .int 0, .int 0, .int 0, .int (-1), .int (-1), .int 0, .int 0, .int 0, .ref (q 208), .int 0, .int 0, .ref (q 209), .ref (q 210), .ref (q 211), .ref (q 212), .ref (q 213), .int 0, .int 0, .ref (q 214), .ref (q 215), .ref (q 216), .int 0, .int 0]))]) (wr := [((q 204), .inl (k 1, 4, .inl (fun _ => -1)))]) hx hb hml hown hts hKK hP hD hS hA (m_is1 l D k (q 200) [.ref (q 201), .ref (q 202), .int 0, .long 0, .long 1, .ref (q 203), .ref (q 204), .ref (q 205), .ref (q 206), .ref (q 207), .int 0, .int 0, .int 0, .int 0, .int 0, .int 0, .int (-1), .int (-1), .int 0, .int 0, .int 0, .ref (q 208), .int 0, .int 0, .ref (q 209), .ref (q 210), .ref (q 211), .ref (q 212), .ref (q 213), .int 0, .int 0, .ref (q 214), .ref (q 215), .ref (q 216), .int 0, .int 0] (Nat.le_of_ble_eq_true rfl) 1 (by decide)) ci_X12_is qm_X12_89 ⟨Nat.le_of_ble_eq_true rfl, Nat.le_of_ble_eq_true rfl⟩ ⟨Nat.le_of_ble_eq_true rfl, Nat.le_of_ble_eq_true rfl⟩ [0] [1] rfl rfl rfl rfl rfl (by decide) 0 rfl rfl rfl hl.1 rfl (Nat.le_of_ble_eq_true rfl) dX12_pour_30 (fun u_88 H locs hφ hP hD hS => ?_)
                have hP : va_P D vwCl [((q 204), .inl (k 1, 4, .inl (fun _ => -1)))] H := hP
                have hD : va_D A [((q 204), .inl (k 1, 4, .inl (fun _ => -1)))] := hD
                refine W.eq (g2 := F0 m 33 ls [.int 0]) rfl ?_
                exact EWz hx hb hr hlocks hS () rfl rfl trivial nil_P nil_D dX12_pour_33
        ·
          refine lv_iload_n hx hb dX12_pour_14 rfl (lv_at hl 2 rfl) ?_
          refine lv_if_lt (tgt := 28) hx hb dX12_pour_15 (by decide) (fun c_89 => ?_) (fun c_89 => ?_)
          ·
            refine lv_aload_n hx hb dX12_pour_28 rfl (lv_at hl 0 rfl) ?_
            refine lv_iconst (v := 1) hx hb dX12_pour_29 (by decide) ?_
            refine CWV (As := [.int 1]) (rest := []) (wc := [((q 200), .inr (12, [.ref (q 201), .ref (q 202), .int 0, .long 0, .long 1, .ref (q 203), .ref (q 204), .ref (q 205), .ref (q 206), .ref (q 207), .int 0, .int 0, .int 0, .int 0, .int 0, .int 0, .int (-1), .int (-1), .int 0, .int 0, .int 0, .ref (q 208), .int 0, .int 0, .ref (q 209), .ref (q 210), .ref (q 211), .ref (q 212), .ref (q 213), .int 0, .int 0, .ref (q 214), .ref (q 215), .ref (q 216), .int 0, .int 0]))]) (wr := [((q 204), .inl (k 1, 4, .inl (fun _ => -1)))]) hx hb hml hown hts hKK hP hD hS hA (m_is1 l D k (q 200) [.ref (q 201), .ref (q 202), .int 0, .long 0, .long 1, .ref (q 203), .ref (q 204), .ref (q 205), .ref (q 206), .ref (q 207), .int 0, .int 0, .int 0, .int 0, .int 0, .int 0, .int (-1), .int (-1), .int 0, .int 0, .int 0, .ref (q 208), .int 0, .int 0, .ref (q 209), .ref (q 210), .ref (q 211), .ref (q 212), .ref (q 213), .int 0, .int 0, .ref (q 214), .ref (q 215), .ref (q 216), .int 0, .int 0] (Nat.le_of_ble_eq_true rfl) 1 (by decide)) ci_X12_is qm_X12_89 ⟨Nat.le_of_ble_eq_true rfl, Nat.le_of_ble_eq_true rfl⟩ ⟨Nat.le_of_ble_eq_true rfl, Nat.le_of_ble_eq_true rfl⟩ [0] [1] rfl rfl rfl rfl rfl (by decide) 0 rfl rfl rfl hl.1 rfl (Nat.le_of_ble_eq_true rfl) dX12_pour_30 (fun u_90 H locs hφ hP hD hS => ?_)
            have hP : va_P D vwCl [((q 204), .inl (k 1, 4, .inl (fun _ => -1)))] H := hP
            have hD : va_D A [((q 204), .inl (k 1, 4, .inl (fun _ => -1)))] := hD
            refine W.eq (g2 := F0 m 33 ls [.int 0]) rfl ?_
            exact EWz hx hb hr hlocks hS () rfl rfl trivial nil_P nil_D dX12_pour_33
          ·
            refine lv_iload hx hb dX12_pour_18 (lv_at hl 4 rfl) ?_
            refine lv_if_lt (tgt := 28) hx hb dX12_pour_20 (by decide) (fun c_91 => ?_) (fun c_91 => ?_)
            ·
              refine lv_aload_n hx hb dX12_pour_28 rfl (lv_at hl 0 rfl) ?_
              refine lv_iconst (v := 1) hx hb dX12_pour_29 (by decide) ?_
              refine CWV (As := [.int 1]) (rest := []) (wc := [((q 200), .inr (12, [.ref (q 201), .ref (q 202), .int 0, .long 0, .long 1, .ref (q 203), .ref (q 204), .ref (q 205), .ref (q 206), .ref (q 207), .int 0, .int 0, .int 0, .int 0, .int 0, .int 0, .int (-1), .int (-1), .int 0, .int 0, .int 0, .ref (q 208), .int 0, .int 0, .ref (q 209), .ref (q 210), .ref (q 211), .ref (q 212), .ref (q 213), .int 0, .int 0, .ref (q 214), .ref (q 215), .ref (q 216), .int 0, .int 0]))]) (wr := [((q 204), .inl (k 1, 4, .inl (fun _ => -1)))]) hx hb hml hown hts hKK hP hD hS hA (m_is1 l D k (q 200) [.ref (q 201), .ref (q 202), .int 0, .long 0, .long 1, .ref (q 203), .ref (q 204), .ref (q 205), .ref (q 206), .ref (q 207), .int 0, .int 0, .int 0, .int 0, .int 0, .int 0, .int (-1), .int (-1), .int 0, .int 0, .int 0, .ref (q 208), .int 0, .int 0, .ref (q 209), .ref (q 210), .ref (q 211), .ref (q 212), .ref (q 213), .int 0, .int 0, .ref (q 214), .ref (q 215), .ref (q 216), .int 0, .int 0] (Nat.le_of_ble_eq_true rfl) 1 (by decide)) ci_X12_is qm_X12_89 ⟨Nat.le_of_ble_eq_true rfl, Nat.le_of_ble_eq_true rfl⟩ ⟨Nat.le_of_ble_eq_true rfl, Nat.le_of_ble_eq_true rfl⟩ [0] [1] rfl rfl rfl rfl rfl (by decide) 0 rfl rfl rfl hl.1 rfl (Nat.le_of_ble_eq_true rfl) dX12_pour_30 (fun u_92 H locs hφ hP hD hS => ?_)
              have hP : va_P D vwCl [((q 204), .inl (k 1, 4, .inl (fun _ => -1)))] H := hP
              have hD : va_D A [((q 204), .inl (k 1, 4, .inl (fun _ => -1)))] := hD
              refine W.eq (g2 := F0 m 33 ls [.int 0]) rfl ?_
              exact EWz hx hb hr hlocks hS () rfl rfl trivial nil_P nil_D dX12_pour_33
            ·
              refine lv_iload hx hb dX12_pour_23 (lv_at hl 5 rfl) ?_
              refine lv_if_ge (tgt := 34) hx hb dX12_pour_25 (by decide) (fun c_93 => ?_) (fun c_93 => ?_)
              ·
                refine lv_aload_n hx hb dX12_pour_34 rfl (lv_at hl 0 rfl) ?_
                refine va_get (D := D) (ci := 12) (v := .ref (q 204)) (C := RX12) (T := TX12) (N := 36) hx hb hts iX12 hown hK hP 0 rfl rfl 6 (by decide) (hts _ qf_X12_24) (fun _ h => h) rfl dX12_pour_35 ?_
                refine lv_iload_n hx hb dX12_pour_38 rfl (lv_at hl 1 rfl) ?_
                refine va_iald hx hb hK hP 1 1 rfl rfl (xin 2 4 rfl (by decide) (by decide)) dX12_pour_39 ?_
                refine lv_topi (fun x_94 ex_94 => ?_)
                obtain rfl : x_94 = (-1) := ex_94.trans (by decide +kernel)
                refine lv_iconst (v := (-1)) hx hb dX12_pour_40 (by decide) ?_
                refine lv_icmp_eq (tgt := 54) hx hb dX12_pour_41 (by decide) (fun _ => ?_) (fun c => absurd (by decide) c)
                refine lv_aload_n hx hb dX12_pour_54 rfl (lv_at hl 0 rfl) ?_
                refine lv_iconst (v := 2) hx hb dX12_pour_55 (by decide) ?_
                refine CWV (As := [.int 2]) (rest := []) (wc := [((q 200), .inr (12, [.ref (q 201), .ref (q 202), .int 0, .long 0, .long 1, .ref (q 203), .ref (q 204), .ref (q 205), .ref (q 206), .ref (q 207), .int 0, .int 0, .int 0, .int 0, .int 0, .int 0, .int (-1), .int (-1), .int 0, .int 0, .int 0, .ref (q 208), .int 0, .int 0, .ref (q 209), .ref (q 210), .ref (q 211), .ref (q 212), .ref (q 213), .int 0, .int 0, .ref (q 214), .ref (q 215), .ref (q 216), .int 0, .int 0]))]) (wr := [((q 204), .inl (k 1, 4, .inl (fun _ => -1)))]) hx hb hml hown hts hKK hP hD hS hA (m_is1 l D k (q 200) [.ref (q 201), .ref (q 202), .int 0, .long 0, .long 1, .ref (q 203), .ref (q 204), .ref (q 205), .ref (q 206), .ref (q 207), .int 0, .int 0, .int 0, .int 0, .int 0, .int 0, .int (-1), .int (-1), .int 0, .int 0, .int 0, .ref (q 208), .int 0, .int 0, .ref (q 209), .ref (q 210), .ref (q 211), .ref (q 212), .ref (q 213), .int 0, .int 0, .ref (q 214), .ref (q 215), .ref (q 216), .int 0, .int 0] (Nat.le_of_ble_eq_true rfl) 2 (by decide)) ci_X12_is qm_X12_89 ⟨Nat.le_of_ble_eq_true rfl, Nat.le_of_ble_eq_true rfl⟩ ⟨Nat.le_of_ble_eq_true rfl, Nat.le_of_ble_eq_true rfl⟩ [0] [1] rfl rfl rfl rfl rfl (by decide) 0 rfl rfl rfl hl.1 rfl (Nat.le_of_ble_eq_true rfl) dX12_pour_56 (fun u_95 H locs hφ hP hD hS => ?_)
                have hP : va_P D vwCl [((q 204), .inl (k 1, 4, .inl (fun _ => -1)))] H := hP
                have hD : va_D A [((q 204), .inl (k 1, 4, .inl (fun _ => -1)))] := hD
                refine W.eq (g2 := F0 m 59 ls [.int 0]) rfl ?_
                exact EWz hx hb hr hlocks hS () rfl rfl trivial nil_P nil_D dX12_pour_59
              ·
                refine lv_aload_n hx hb dX12_pour_28 rfl (lv_at hl 0 rfl) ?_
                refine lv_iconst (v := 1) hx hb dX12_pour_29 (by decide) ?_
                refine CWV (As := [.int 1]) (rest := []) (wc := [((q 200), .inr (12, [.ref (q 201), .ref (q 202), .int 0, .long 0, .long 1, .ref (q 203), .ref (q 204), .ref (q 205), .ref (q 206), .ref (q 207), .int 0, .int 0, .int 0, .int 0, .int 0, .int 0, .int (-1), .int (-1), .int 0, .int 0, .int 0, .ref (q 208), .int 0, .int 0, .ref (q 209), .ref (q 210), .ref (q 211), .ref (q 212), .ref (q 213), .int 0, .int 0, .ref (q 214), .ref (q 215), .ref (q 216), .int 0, .int 0]))]) (wr := [((q 204), .inl (k 1, 4, .inl (fun _ => -1)))]) hx hb hml hown hts hKK hP hD hS hA (m_is1 l D k (q 200) [.ref (q 201), .ref (q 202), .int 0, .long 0, .long 1, .ref (q 203), .ref (q 204), .ref (q 205), .ref (q 206), .ref (q 207), .int 0, .int 0, .int 0, .int 0, .int 0, .int 0, .int (-1), .int (-1), .int 0, .int 0, .int 0, .ref (q 208), .int 0, .int 0, .ref (q 209), .ref (q 210), .ref (q 211), .ref (q 212), .ref (q 213), .int 0, .int 0, .ref (q 214), .ref (q 215), .ref (q 216), .int 0, .int 0] (Nat.le_of_ble_eq_true rfl) 1 (by decide)) ci_X12_is qm_X12_89 ⟨Nat.le_of_ble_eq_true rfl, Nat.le_of_ble_eq_true rfl⟩ ⟨Nat.le_of_ble_eq_true rfl, Nat.le_of_ble_eq_true rfl⟩ [0] [1] rfl rfl rfl rfl rfl (by decide) 0 rfl rfl rfl hl.1 rfl (Nat.le_of_ble_eq_true rfl) dX12_pour_30 (fun u_96 H locs hφ hP hD hS => ?_)
                have hP : va_P D vwCl [((q 204), .inl (k 1, 4, .inl (fun _ => -1)))] H := hP
                have hD : va_D A [((q 204), .inl (k 1, 4, .inl (fun _ => -1)))] := hD
                refine W.eq (g2 := F0 m 33 ls [.int 0]) rfl ?_
                exact EWz hx hb hr hlocks hS () rfl rfl trivial nil_P nil_D dX12_pour_33
        ·
          refine lv_iload_n hx hb dX12_pour_14 rfl (lv_at hl 2 rfl) ?_
          refine lv_if_lt (tgt := 28) hx hb dX12_pour_15 (by decide) (fun c_97 => ?_) (fun c_97 => ?_)
          ·
            refine lv_aload_n hx hb dX12_pour_28 rfl (lv_at hl 0 rfl) ?_
            refine lv_iconst (v := 1) hx hb dX12_pour_29 (by decide) ?_
            refine CWV (As := [.int 1]) (rest := []) (wc := [((q 200), .inr (12, [.ref (q 201), .ref (q 202), .int 0, .long 0, .long 1, .ref (q 203), .ref (q 204), .ref (q 205), .ref (q 206), .ref (q 207), .int 0, .int 0, .int 0, .int 0, .int 0, .int 0, .int (-1), .int (-1), .int 0, .int 0, .int 0, .ref (q 208), .int 0, .int 0, .ref (q 209), .ref (q 210), .ref (q 211), .ref (q 212), .ref (q 213), .int 0, .int 0, .ref (q 214), .ref (q 215), .ref (q 216), .int 0, .int 0]))]) (wr := [((q 204), .inl (k 1, 4, .inl (fun _ => -1)))]) hx hb hml hown hts hKK hP hD hS hA (m_is1 l D k (q 200) [.ref (q 201), .ref (q 202), .int 0, .long 0, .long 1, .ref (q 203), .ref (q 204), .ref (q 205), .ref (q 206), .ref (q 207), .int 0, .int 0, .int 0, .int 0, .int 0, .int 0, .int (-1), .int (-1), .int 0, .int 0, .int 0, .ref (q 208), .int 0, .int 0, .ref (q 209), .ref (q 210), .ref (q 211), .ref (q 212), .ref (q 213), .int 0, .int 0, .ref (q 214), .ref (q 215), .ref (q 216), .int 0, .int 0] (Nat.le_of_ble_eq_true rfl) 1 (by decide)) ci_X12_is qm_X12_89 ⟨Nat.le_of_ble_eq_true rfl, Nat.le_of_ble_eq_true rfl⟩ ⟨Nat.le_of_ble_eq_true rfl, Nat.le_of_ble_eq_true rfl⟩ [0] [1] rfl rfl rfl rfl rfl (by decide) 0 rfl rfl rfl hl.1 rfl (Nat.le_of_ble_eq_true rfl) dX12_pour_30 (fun u_98 H locs hφ hP hD hS => ?_)
            have hP : va_P D vwCl [((q 204), .inl (k 1, 4, .inl (fun _ => -1)))] H := hP
            have hD : va_D A [((q 204), .inl (k 1, 4, .inl (fun _ => -1)))] := hD
            refine W.eq (g2 := F0 m 33 ls [.int 0]) rfl ?_
            exact EWz hx hb hr hlocks hS () rfl rfl trivial nil_P nil_D dX12_pour_33
          ·
            refine lv_iload hx hb dX12_pour_18 (lv_at hl 4 rfl) ?_
            refine lv_if_lt (tgt := 28) hx hb dX12_pour_20 (by decide) (fun c_99 => ?_) (fun c_99 => ?_)
            ·
              refine lv_aload_n hx hb dX12_pour_28 rfl (lv_at hl 0 rfl) ?_
              refine lv_iconst (v := 1) hx hb dX12_pour_29 (by decide) ?_
              refine CWV (As := [.int 1]) (rest := []) (wc := [((q 200), .inr (12, [.ref (q 201), .ref (q 202), .int 0, .long 0, .long 1, .ref (q 203), .ref (q 204), .ref (q 205), .ref (q 206), .ref (q 207), .int 0, .int 0, .int 0, .int 0, .int 0, .int 0, .int (-1), .int (-1), .int 0, .int 0, .int 0, .ref (q 208), .int 0, .int 0, .ref (q 209), .ref (q 210), .ref (q 211), .ref (q 212), .ref (q 213), .int 0, .int 0, .ref (q 214), .ref (q 215), .ref (q 216), .int 0, .int 0]))]) (wr := [((q 204), .inl (k 1, 4, .inl (fun _ => -1)))]) hx hb hml hown hts hKK hP hD hS hA (m_is1 l D k (q 200) [.ref (q 201), .ref (q 202), .int 0, .long 0, .long 1, .ref (q 203), .ref (q 204), .ref (q 205), .ref (q 206), .ref (q 207), .int 0, .int 0, .int 0, .int 0, .int 0, .int 0, .int (-1), .int (-1), .int 0, .int 0, .int 0, .ref (q 208), .int 0, .int 0, .ref (q 209), .ref (q 210), .ref (q 211), .ref (q 212), .ref (q 213), .int 0, .int 0, .ref (q 214), .ref (q 215), .ref (q 216), .int 0, .int 0] (Nat.le_of_ble_eq_true rfl) 1 (by decide)) ci_X12_is qm_X12_89 ⟨Nat.le_of_ble_eq_true rfl, Nat.le_of_ble_eq_true rfl⟩ ⟨Nat.le_of_ble_eq_true rfl, Nat.le_of_ble_eq_true rfl⟩ [0] [1] rfl rfl rfl rfl rfl (by decide) 0 rfl rfl rfl hl.1 rfl (Nat.le_of_ble_eq_true rfl) dX12_pour_30 (fun u_100 H locs hφ hP hD hS => ?_)
              have hP : va_P D vwCl [((q 204), .inl (k 1, 4, .inl (fun _ => -1)))] H := hP
              have hD : va_D A [((q 204), .inl (k 1, 4, .inl (fun _ => -1)))] := hD
              refine W.eq (g2 := F0 m 33 ls [.int 0]) rfl ?_
              exact EWz hx hb hr hlocks hS () rfl rfl trivial nil_P nil_D dX12_pour_33
            ·
              refine lv_iload hx hb dX12_pour_23 (lv_at hl 5 rfl) ?_
              refine lv_if_ge (tgt := 34) hx hb dX12_pour_25 (by decide) (fun c_101 => ?_) (fun c_101 => ?_)
              ·
                refine lv_aload_n hx hb dX12_pour_34 rfl (lv_at hl 0 rfl) ?_
                refine va_get (D := D) (ci := 12) (v := .ref (q 204)) (C := RX12) (T := TX12) (N := 36) hx hb hts iX12 hown hK hP 0 rfl rfl 6 (by decide) (hts _ qf_X12_24) (fun _ h => h) rfl dX12_pour_35 ?_
                refine lv_iload_n hx hb dX12_pour_38 rfl (lv_at hl 1 rfl) ?_
                refine va_iald hx hb hK hP 1 1 rfl rfl (xin 2 4 rfl (by decide) (by decide)) dX12_pour_39 ?_
                refine lv_topi (fun x_102 ex_102 => ?_)
                obtain rfl : x_102 = (-1) := ex_102.trans (by decide +kernel)
                refine lv_iconst (v := (-1)) hx hb dX12_pour_40 (by decide) ?_
                refine lv_icmp_eq (tgt := 54) hx hb dX12_pour_41 (by decide) (fun _ => ?_) (fun c => absurd (by decide) c)
                refine lv_aload_n hx hb dX12_pour_54 rfl (lv_at hl 0 rfl) ?_
                refine lv_iconst (v := 2) hx hb dX12_pour_55 (by decide) ?_
                refine CWV (As := [.int 2]) (rest := []) (wc := [((q 200), .inr (12, [.ref (q 201), .ref (q 202), .int 0, .long 0, .long 1, .ref (q 203), .ref (q 204), .ref (q 205), .ref (q 206), .ref (q 207), .int 0, .int 0, .int 0, .int 0, .int 0, .int 0, .int (-1), .int (-1), .int 0, .int 0, .int 0, .ref (q 208), .int 0, .int 0, .ref (q 209), .ref (q 210), .ref (q 211), .ref (q 212), .ref (q 213), .int 0, .int 0, .ref (q 214), .ref (q 215), .ref (q 216), .int 0, .int 0]))]) (wr := [((q 204), .inl (k 1, 4, .inl (fun _ => -1)))]) hx hb hml hown hts hKK hP hD hS hA (m_is1 l D k (q 200) [.ref (q 201), .ref (q 202), .int 0, .long 0, .long 1, .ref (q 203), .ref (q 204), .ref (q 205), .ref (q 206), .ref (q 207), .int 0, .int 0, .int 0, .int 0, .int 0, .int 0, .int (-1), .int (-1), .int 0, .int 0, .int 0, .ref (q 208), .int 0, .int 0, .ref (q 209), .ref (q 210), .ref (q 211), .ref (q 212), .ref (q 213), .int 0, .int 0, .ref (q 214), .ref (q 215), .ref (q 216), .int 0, .int 0] (Nat.le_of_ble_eq_true rfl) 2 (by decide)) ci_X12_is qm_X12_89 ⟨Nat.le_of_ble_eq_true rfl, Nat.le_of_ble_eq_true rfl⟩ ⟨Nat.le_of_ble_eq_true rfl, Nat.le_of_ble_eq_true rfl⟩ [0] [1] rfl rfl rfl rfl rfl (by decide) 0 rfl rfl rfl hl.1 rfl (Nat.le_of_ble_eq_true rfl) dX12_pour_56 (fun u_103 H locs hφ hP hD hS => ?_)
                have hP : va_P D vwCl [((q 204), .inl (k 1, 4, .inl (fun _ => -1)))] H := hP
                have hD : va_D A [((q 204), .inl (k 1, 4, .inl (fun _ => -1)))] := hD
                refine W.eq (g2 := F0 m 59 ls [.int 0]) rfl ?_
                exact EWz hx hb hr hlocks hS () rfl rfl trivial nil_P nil_D dX12_pour_59
              ·
                refine lv_aload_n hx hb dX12_pour_28 rfl (lv_at hl 0 rfl) ?_
                refine lv_iconst (v := 1) hx hb dX12_pour_29 (by decide) ?_
                refine CWV (As := [.int 1]) (rest := []) (wc := [((q 200), .inr (12, [.ref (q 201), .ref (q 202), .int 0, .long 0, .long 1, .ref (q 203), .ref (q 204), .ref (q 205), .ref (q 206), .ref (q 207), .int 0, .int 0, .int 0, .int 0, .int 0, .int 0, .int (-1), .int (-1), .int 0, .int 0, .int 0, .ref (q 208), .int 0, .int 0, .ref (q 209), .ref (q 210), .ref (q 211), .ref (q 212), .ref (q 213), .int 0, .int 0, .ref (q 214), .ref (q 215), .ref (q 216), .int 0, .int 0]))]) (wr := [((q 204), .inl (k 1, 4, .inl (fun _ => -1)))]) hx hb hml hown hts hKK hP hD hS hA (m_is1 l D k (q 200) [.ref (q 201), .ref (q 202), .int 0, .long 0, .long 1, .ref (q 203), .ref (q 204), .ref (q 205), .ref (q 206), .ref (q 207), .int 0, .int 0, .int 0, .int 0, .int 0, .int 0, .int (-1), .int (-1), .int 0, .int 0, .int 0, .ref (q 208), .int 0, .int 0, .ref (q 209), .ref (q 210), .ref (q 211), .ref (q 212), .ref (q 213), .int 0, .int 0, .ref (q 214), .ref (q 215), .ref (q 216), .int 0, .int 0] (Nat.le_of_ble_eq_true rfl) 1 (by decide)) ci_X12_is qm_X12_89 ⟨Nat.le_of_ble_eq_true rfl, Nat.le_of_ble_eq_true rfl⟩ ⟨Nat.le_of_ble_eq_true rfl, Nat.le_of_ble_eq_true rfl⟩ [0] [1] rfl rfl rfl rfl rfl (by decide) 0 rfl rfl rfl hl.1 rfl (Nat.le_of_ble_eq_true rfl) dX12_pour_30 (fun u_104 H locs hφ hP hD hS => ?_)
                have hP : va_P D vwCl [((q 204), .inl (k 1, 4, .inl (fun _ => -1)))] H := hP
                have hD : va_D A [((q 204), .inl (k 1, 4, .inl (fun _ => -1)))] := hD
                refine W.eq (g2 := F0 m 33 ls [.int 0]) rfl ?_
                exact EWz hx hb hr hlocks hS () rfl rfl trivial nil_P nil_D dX12_pour_33
    ·
      refine lv_iload_n hx hb dX12_pour_7 rfl (lv_at hl 3 rfl) ?_
      refine CRS (As := [.int c1]) (rest := []) hx hb hml hown hts hKK (hP.sub (ws' := []) [] rfl) (m_isTray l D k c1) ci_X12_isTray qm_X12_93 ⟨Nat.le_of_ble_eq_true rfl, Nat.le_of_ble_eq_true rfl⟩ ⟨Nat.le_of_ble_eq_true rfl, Nat.le_of_ble_eq_true rfl⟩ rfl hl.1 rfl (Nat.le_of_ble_eq_true rfl) dX12_pour_8 ?_
      refine lv_if_eq (tgt := 28) hx hb dX12_pour_11 (by decide) (fun c_105 => ?_) (fun c_105 => ?_)
      ·
        refine lv_aload_n hx hb dX12_pour_28 rfl (lv_at hl 0 rfl) ?_
        refine lv_iconst (v := 1) hx hb dX12_pour_29 (by decide) ?_
        refine CWV (As := [.int 1]) (rest := []) (wc := [((q 200), .inr (12, [.ref (q 201), .ref (q 202), .int 0, .long 0, .long 1, .ref (q 203), .ref (q 204), .ref (q 205), .ref (q 206), .ref (q 207), .int 0, .int 0, .int 0, .int 0, .int 0, .int 0, .int (-1), .int (-1), .int 0, .int 0, .int 0, .ref (q 208), .int 0, .int 0, .ref (q 209), .ref (q 210), .ref (q 211), .ref (q 212), .ref (q 213), .int 0, .int 0, .ref (q 214), .ref (q 215), .ref (q 216), .int 0, .int 0]))]) (wr := [((q 204), .inl (k 1, 4, .inl (fun _ => -1)))]) hx hb hml hown hts hKK hP hD hS hA (m_is1 l D k (q 200) [.ref (q 201), .ref (q 202), .int 0, .long 0, .long 1, .ref (q 203), .ref (q 204), .ref (q 205), .ref (q 206), .ref (q 207), .int 0, .int 0, .int 0, .int 0, .int 0, .int 0, .int (-1), .int (-1), .int 0, .int 0, .int 0, .ref (q 208), .int 0, .int 0, .ref (q 209), .ref (q 210), .ref (q 211), .ref (q 212), .ref (q 213), .int 0, .int 0, .ref (q 214), .ref (q 215), .ref (q 216), .int 0, .int 0] (Nat.le_of_ble_eq_true rfl) 1 (by decide)) ci_X12_is qm_X12_89 ⟨Nat.le_of_ble_eq_true rfl, Nat.le_of_ble_eq_true rfl⟩ ⟨Nat.le_of_ble_eq_true rfl, Nat.le_of_ble_eq_true rfl⟩ [0] [1] rfl rfl rfl rfl rfl (by decide) 0 rfl rfl rfl hl.1 rfl (Nat.le_of_ble_eq_true rfl) dX12_pour_30 (fun u_106 H locs hφ hP hD hS => ?_)
        have hP : va_P D vwCl [((q 204), .inl (k 1, 4, .inl (fun _ => -1)))] H := hP
        have hD : va_D A [((q 204), .inl (k 1, 4, .inl (fun _ => -1)))] := hD
        refine W.eq (g2 := F0 m 33 ls [.int 0]) rfl ?_
        exact EWz hx hb hr hlocks hS () rfl rfl trivial nil_P nil_D dX12_pour_33
      ·
        obtain rfl | rfl | rfl | rfl := bw4 c_105
        ·
          refine lv_iload_n hx hb dX12_pour_14 rfl (lv_at hl 2 rfl) ?_
          refine lv_if_lt (tgt := 28) hx hb dX12_pour_15 (by decide) (fun c_107 => ?_) (fun c_107 => ?_)
          ·
            refine lv_aload_n hx hb dX12_pour_28 rfl (lv_at hl 0 rfl) ?_
            refine lv_iconst (v := 1) hx hb dX12_pour_29 (by decide) ?_
            refine CWV (As := [.int 1]) (rest := []) (wc := [((q 200), .inr (12, [.ref (q 201), .ref (q 202), .int 0, .long 0, .long 1, .ref (q 203), .ref (q 204), .ref (q 205), .ref (q 206), .ref (q 207), .int 0, .int 0, .int 0, .int 0, .int 0, .int 0, .int (-1), .int (-1), .int 0, .int 0, .int 0, .ref (q 208), .int 0, .int 0, .ref (q 209), .ref (q 210), .ref (q 211), .ref (q 212), .ref (q 213), .int 0, .int 0, .ref (q 214), .ref (q 215), .ref (q 216), .int 0, .int 0]))]) (wr := [((q 204), .inl (k 1, 4, .inl (fun _ => -1)))]) hx hb hml hown hts hKK hP hD hS hA (m_is1 l D k (q 200) [.ref (q 201), .ref (q 202), .int 0, .long 0, .long 1, .ref (q 203), .ref (q 204), .ref (q 205), .ref (q 206), .ref (q 207), .int 0, .int 0, .int 0, .int 0, .int 0, .int 0, .int (-1), .int (-1), .int 0, .int 0, .int 0, .ref (q 208), .int 0, .int 0, .ref (q 209), .ref (q 210), .ref (q 211), .ref (q 212), .ref (q 213), .int 0, .int 0, .ref (q 214), .ref (q 215), .ref (q 216), .int 0, .int 0] (Nat.le_of_ble_eq_true rfl) 1 (by decide)) ci_X12_is qm_X12_89 ⟨Nat.le_of_ble_eq_true rfl, Nat.le_of_ble_eq_true rfl⟩ ⟨Nat.le_of_ble_eq_true rfl, Nat.le_of_ble_eq_true rfl⟩ [0] [1] rfl rfl rfl rfl rfl (by decide) 0 rfl rfl rfl hl.1 rfl (Nat.le_of_ble_eq_true rfl) dX12_pour_30 (fun u_108 H locs hφ hP hD hS => ?_)
            have hP : va_P D vwCl [((q 204), .inl (k 1, 4, .inl (fun _ => -1)))] H := hP
            have hD : va_D A [((q 204), .inl (k 1, 4, .inl (fun _ => -1)))] := hD
            refine W.eq (g2 := F0 m 33 ls [.int 0]) rfl ?_
            exact EWz hx hb hr hlocks hS () rfl rfl trivial nil_P nil_D dX12_pour_33
          ·
            refine lv_iload hx hb dX12_pour_18 (lv_at hl 4 rfl) ?_
            refine lv_if_lt (tgt := 28) hx hb dX12_pour_20 (by decide) (fun c_109 => ?_) (fun c_109 => ?_)
            ·
              refine lv_aload_n hx hb dX12_pour_28 rfl (lv_at hl 0 rfl) ?_
              refine lv_iconst (v := 1) hx hb dX12_pour_29 (by decide) ?_
              refine CWV (As := [.int 1]) (rest := []) (wc := [((q 200), .inr (12, [.ref (q 201), .ref (q 202), .int 0, .long 0, .long 1, .ref (q 203), .ref (q 204), .ref (q 205), .ref (q 206), .ref (q 207), .int 0, .int 0, .int 0, .int 0, .int 0, .int 0, .int (-1), .int (-1), .int 0, .int 0, .int 0, .ref (q 208), .int 0, .int 0, .ref (q 209), .ref (q 210), .ref (q 211), .ref (q 212), .ref (q 213), .int 0, .int 0, .ref (q 214), .ref (q 215), .ref (q 216), .int 0, .int 0]))]) (wr := [((q 204), .inl (k 1, 4, .inl (fun _ => -1)))]) hx hb hml hown hts hKK hP hD hS hA (m_is1 l D k (q 200) [.ref (q 201), .ref (q 202), .int 0, .long 0, .long 1, .ref (q 203), .ref (q 204), .ref (q 205), .ref (q 206), .ref (q 207), .int 0, .int 0, .int 0, .int 0, .int 0, .int 0, .int (-1), .int (-1), .int 0, .int 0, .int 0, .ref (q 208), .int 0, .int 0, .ref (q 209), .ref (q 210), .ref (q 211), .ref (q 212), .ref (q 213), .int 0, .int 0, .ref (q 214), .ref (q 215), .ref (q 216), .int 0, .int 0] (Nat.le_of_ble_eq_true rfl) 1 (by decide)) ci_X12_is qm_X12_89 ⟨Nat.le_of_ble_eq_true rfl, Nat.le_of_ble_eq_true rfl⟩ ⟨Nat.le_of_ble_eq_true rfl, Nat.le_of_ble_eq_true rfl⟩ [0] [1] rfl rfl rfl rfl rfl (by decide) 0 rfl rfl rfl hl.1 rfl (Nat.le_of_ble_eq_true rfl) dX12_pour_30 (fun u_110 H locs hφ hP hD hS => ?_)
              have hP : va_P D vwCl [((q 204), .inl (k 1, 4, .inl (fun _ => -1)))] H := hP
              have hD : va_D A [((q 204), .inl (k 1, 4, .inl (fun _ => -1)))] := hD
              refine W.eq (g2 := F0 m 33 ls [.int 0]) rfl ?_
              exact EWz hx hb hr hlocks hS () rfl rfl trivial nil_P nil_D dX12_pour_33
            ·
              refine lv_iload hx hb dX12_pour_23 (lv_at hl 5 rfl) ?_
              refine lv_if_ge (tgt := 34) hx hb dX12_pour_25 (by decide) (fun c_111 => ?_) (fun c_111 => ?_)
              ·
                refine lv_aload_n hx hb dX12_pour_34 rfl (lv_at hl 0 rfl) ?_
                refine va_get (D := D) (ci := 12) (v := .ref (q 204)) (C := RX12) (T := TX12) (N := 36) hx hb hts iX12 hown hK hP 0 rfl rfl 6 (by decide) (hts _ qf_X12_24) (fun _ h => h) rfl dX12_pour_35 ?_
                refine lv_iload_n hx hb dX12_pour_38 rfl (lv_at hl 1 rfl) ?_
                refine va_iald hx hb hK hP 1 1 rfl rfl (xin 3 4 rfl (by decide) (by decide)) dX12_pour_39 ?_
                refine lv_topi (fun x_112 ex_112 => ?_)
                obtain rfl : x_112 = (-1) := ex_112.trans (by decide +kernel)
                refine lv_iconst (v := (-1)) hx hb dX12_pour_40 (by decide) ?_
                refine lv_icmp_eq (tgt := 54) hx hb dX12_pour_41 (by decide) (fun _ => ?_) (fun c => absurd (by decide) c)
                refine lv_aload_n hx hb dX12_pour_54 rfl (lv_at hl 0 rfl) ?_
                refine lv_iconst (v := 2) hx hb dX12_pour_55 (by decide) ?_
                refine CWV (As := [.int 2]) (rest := []) (wc := [((q 200), .inr (12, [.ref (q 201), .ref (q 202), .int 0, .long 0, .long 1, .ref (q 203), .ref (q 204), .ref (q 205), .ref (q 206), .ref (q 207), .int 0, .int 0, .int 0, .int 0, .int 0, .int 0, .int (-1), .int (-1), .int 0, .int 0, .int 0, .ref (q 208), .int 0, .int 0, .ref (q 209), .ref (q 210), .ref (q 211), .ref (q 212), .ref (q 213), .int 0, .int 0, .ref (q 214), .ref (q 215), .ref (q 216), .int 0, .int 0]))]) (wr := [((q 204), .inl (k 1, 4, .inl (fun _ => -1)))]) hx hb hml hown hts hKK hP hD hS hA (m_is1 l D k (q 200) [.ref (q 201), .ref (q 202), .int 0, .long 0, .long 1, .ref (q 203), .ref (q 204), .ref (q 205), .ref (q 206), .ref (q 207), .int 0, .int 0, .int 0, .int 0, .int 0, .int 0, .int (-1), .int (-1), .int 0, .int 0, .int 0, .ref (q 208), .int 0, .int 0, .ref (q 209), .ref (q 210), .ref (q 211), .ref (q 212), .ref (q 213), .int 0, .int 0, .ref (q 214), .ref (q 215), .ref (q 216), .int 0, .int 0] (Nat.le_of_ble_eq_true rfl) 2 (by decide)) ci_X12_is qm_X12_89 ⟨Nat.le_of_ble_eq_true rfl, Nat.le_of_ble_eq_true rfl⟩ ⟨Nat.le_of_ble_eq_true rfl, Nat.le_of_ble_eq_true rfl⟩ [0] [1] rfl rfl rfl rfl rfl (by decide) 0 rfl rfl rfl hl.1 rfl (Nat.le_of_ble_eq_true rfl) dX12_pour_56 (fun u_113 H locs hφ hP hD hS => ?_)
                have hP : va_P D vwCl [((q 204), .inl (k 1, 4, .inl (fun _ => -1)))] H := hP
                have hD : va_D A [((q 204), .inl (k 1, 4, .inl (fun _ => -1)))] := hD
                refine W.eq (g2 := F0 m 59 ls [.int 0]) rfl ?_
                exact EWz hx hb hr hlocks hS () rfl rfl trivial nil_P nil_D dX12_pour_59
              ·
                refine lv_aload_n hx hb dX12_pour_28 rfl (lv_at hl 0 rfl) ?_
                refine lv_iconst (v := 1) hx hb dX12_pour_29 (by decide) ?_
                refine CWV (As := [.int 1]) (rest := []) (wc := [((q 200), .inr (12, [.ref (q 201), .ref (q 202), .int 0, .long 0, .long 1, .ref (q 203), .ref (q 204), .ref (q 205), .ref (q 206), .ref (q 207), .int 0, .int 0, .int 0, .int 0, .int 0, .int 0, .int (-1), .int (-1), .int 0, .int 0, .int 0, .ref (q 208), .int 0, .int 0, .ref (q 209), .ref (q 210), .ref (q 211), .ref (q 212), .ref (q 213), .int 0, .int 0, .ref (q 214), .ref (q 215), .ref (q 216), .int 0, .int 0]))]) (wr := [((q 204), .inl (k 1, 4, .inl (fun _ => -1)))]) hx hb hml hown hts hKK hP hD hS hA (m_is1 l D k (q 200) [.ref (q 201), .ref (q 202), .int 0, .long 0, .long 1, .ref (q 203), .ref (q 204), .ref (q 205), .ref (q 206), .ref (q 207), .int 0, .int 0, .int 0, .int 0, .int 0, .int 0, .int (-1), .int (-1), .int 0, .int 0, .int 0, .ref (q 208), .int 0, .int 0, .ref (q 209), .ref (q 210), .ref (q 211), .ref (q 212), .ref (q 213), .int 0, .int 0, .ref (q 214), .ref (q 215), .ref (q 216), .int 0, .int 0] (Nat.le_of_ble_eq_true rfl) 1 (by decide)) ci_X12_is qm_X12_89 ⟨Nat.le_of_ble_eq_true rfl, Nat.le_of_ble_eq_true rfl⟩ ⟨Nat.le_of_ble_eq_true rfl, Nat.le_of_ble_eq_true rfl⟩ [0] [1] rfl rfl rfl rfl rfl (by decide) 0 rfl rfl rfl hl.1 rfl (Nat.le_of_ble_eq_true rfl) dX12_pour_30 (fun u_114 H locs hφ hP hD hS => ?_)
                have hP : va_P D vwCl [((q 204), .inl (k 1, 4, .inl (fun _ => -1)))] H := hP
                have hD : va_D A [((q 204), .inl (k 1, 4, .inl (fun _ => -1)))] := hD
                refine W.eq (g2 := F0 m 33 ls [.int 0]) rfl ?_
                exact EWz hx hb hr hlocks hS () rfl rfl trivial nil_P nil_D dX12_pour_33
        ·
          refine lv_iload_n hx hb dX12_pour_14 rfl (lv_at hl 2 rfl) ?_
          refine lv_if_lt (tgt := 28) hx hb dX12_pour_15 (by decide) (fun c_115 => ?_) (fun c_115 => ?_)
          ·
            refine lv_aload_n hx hb dX12_pour_28 rfl (lv_at hl 0 rfl) ?_
            refine lv_iconst (v := 1) hx hb dX12_pour_29 (by decide) ?_
            refine CWV (As := [.int 1]) (rest := []) (wc := [((q 200), .inr (12, [.ref (q 201), .ref (q 202), .int 0, .long 0, .long 1, .ref (q 203), .ref (q 204), .ref (q 205), .ref (q 206), .ref (q 207), .int 0, .int 0, .int 0, .int 0, .int 0, .int 0, .int (-1), .int (-1), .int 0, .int 0, .int 0, .ref (q 208), .int 0, .int 0, .ref (q 209), .ref (q 210), .ref (q 211), .ref (q 212), .ref (q 213), .int 0, .int 0, .ref (q 214), .ref (q 215), .ref (q 216), .int 0, .int 0]))]) (wr := [((q 204), .inl (k 1, 4, .inl (fun _ => -1)))]) hx hb hml hown hts hKK hP hD hS hA (m_is1 l D k (q 200) [.ref (q 201), .ref (q 202), .int 0, .long 0, .long 1, .ref (q 203), .ref (q 204), .ref (q 205), .ref (q 206), .ref (q 207), .int 0, .int 0, .int 0, .int 0, .int 0, .int 0, .int (-1), .int (-1), .int 0, .int 0, .int 0, .ref (q 208), .int 0, .int 0, .ref (q 209), .ref (q 210), .ref (q 211), .ref (q 212), .ref (q 213), .int 0, .int 0, .ref (q 214), .ref (q 215), .ref (q 216), .int 0, .int 0] (Nat.le_of_ble_eq_true rfl) 1 (by decide)) ci_X12_is qm_X12_89 ⟨Nat.le_of_ble_eq_true rfl, Nat.le_of_ble_eq_true rfl⟩ ⟨Nat.le_of_ble_eq_true rfl, Nat.le_of_ble_eq_true rfl⟩ [0] [1] rfl rfl rfl rfl rfl (by decide) 0 rfl rfl rfl hl.1 rfl (Nat.le_of_ble_eq_true rfl) dX12_pour_30 (fun u_116 H locs hφ hP hD hS => ?_)
            have hP : va_P D vwCl [((q 204), .inl (k 1, 4, .inl (fun _ => -1)))] H := hP
            have hD : va_D A [((q 204), .inl (k 1, 4, .inl (fun _ => -1)))] := hD
            refine W.eq (g2 := F0 m 33 ls [.int 0]) rfl ?_
            exact EWz hx hb hr hlocks hS () rfl rfl trivial nil_P nil_D dX12_pour_33
          ·
            refine lv_iload hx hb dX12_pour_18 (lv_at hl 4 rfl) ?_
            refine lv_if_lt (tgt := 28) hx hb dX12_pour_20 (by decide) (fun c_117 => ?_) (fun c_117 => ?_)
            ·
              refine lv_aload_n hx hb dX12_pour_28 rfl (lv_at hl 0 rfl) ?_
              refine lv_iconst (v := 1) hx hb dX12_pour_29 (by decide) ?_
              refine CWV (As := [.int 1]) (rest := []) (wc := [((q 200), .inr (12, [.ref (q 201), .ref (q 202), .int 0, .long 0, .long 1, .ref (q 203), .ref (q 204), .ref (q 205), .ref (q 206), .ref (q 207), .int 0, .int 0, .int 0, .int 0, .int 0, .int 0, .int (-1), .int (-1), .int 0, .int 0, .int 0, .ref (q 208), .int 0, .int 0, .ref (q 209), .ref (q 210), .ref (q 211), .ref (q 212), .ref (q 213), .int 0, .int 0, .ref (q 214), .ref (q 215), .ref (q 216), .int 0, .int 0]))]) (wr := [((q 204), .inl (k 1, 4, .inl (fun _ => -1)))]) hx hb hml hown hts hKK hP hD hS hA (m_is1 l D k (q 200) [.ref (q 201), .ref (q 202), .int 0, .long 0, .long 1, .ref (q 203), .ref (q 204), .ref (q 205), .ref (q 206), .ref (q 207), .int 0, .int 0, .int 0, .int 0, .int 0, .int 0, .int (-1), .int (-1), .int 0, .int 0, .int 0, .ref (q 208), .int 0, .int 0, .ref (q 209), .ref (q 210), .ref (q 211), .ref (q 212), .ref (q 213), .int 0, .int 0, .ref (q 214), .ref (q 215), .ref (q 216), .int 0, .int 0] (Nat.le_of_ble_eq_true rfl) 1 (by decide)) ci_X12_is qm_X12_89 ⟨Nat.le_of_ble_eq_true rfl, Nat.le_of_ble_eq_true rfl⟩ ⟨Nat.le_of_ble_eq_true rfl, Nat.le_of_ble_eq_true rfl⟩ [0] [1] rfl rfl rfl rfl rfl (by decide) 0 rfl rfl rfl hl.1 rfl (Nat.le_of_ble_eq_true rfl) dX12_pour_30 (fun u_118 H locs hφ hP hD hS => ?_)
              have hP : va_P D vwCl [((q 204), .inl (k 1, 4, .inl (fun _ => -1)))] H := hP
              have hD : va_D A [((q 204), .inl (k 1, 4, .inl (fun _ => -1)))] := hD
              refine W.eq (g2 := F0 m 33 ls [.int 0]) rfl ?_
              exact EWz hx hb hr hlocks hS () rfl rfl trivial nil_P nil_D dX12_pour_33
            ·
              refine lv_iload hx hb dX12_pour_23 (lv_at hl 5 rfl) ?_
              refine lv_if_ge (tgt := 34) hx hb dX12_pour_25 (by decide) (fun c_119 => ?_) (fun c_119 => ?_)
              ·
                refine lv_aload_n hx hb dX12_pour_34 rfl (lv_at hl 0 rfl) ?_
                refine va_get (D := D) (ci := 12) (v := .ref (q 204)) (C := RX12) (T := TX12) (N := 36) hx hb hts iX12 hown hK hP 0 rfl rfl 6 (by decide) (hts _ qf_X12_24) (fun _ h => h) rfl dX12_pour_35 ?_
                refine lv_iload_n hx hb dX12_pour_38 rfl (lv_at hl 1 rfl) ?_
                refine va_iald hx hb hK hP 1 1 rfl rfl (xin 3 4 rfl (by decide) (by decide)) dX12_pour_39 ?_
                refine lv_topi (fun x_120 ex_120 => ?_)
                obtain rfl : x_120 = (-1) := ex_120.trans (by decide +kernel)
                refine lv_iconst (v := (-1)) hx hb dX12_pour_40 (by decide) ?_
                refine lv_icmp_eq (tgt := 54) hx hb dX12_pour_41 (by decide) (fun _ => ?_) (fun c => absurd (by decide) c)
                refine lv_aload_n hx hb dX12_pour_54 rfl (lv_at hl 0 rfl) ?_
                refine lv_iconst (v := 2) hx hb dX12_pour_55 (by decide) ?_
                refine CWV (As := [.int 2]) (rest := []) (wc := [((q 200), .inr (12, [.ref (q 201), .ref (q 202), .int 0, .long 0, .long 1, .ref (q 203), .ref (q 204), .ref (q 205), .ref (q 206), .ref (q 207), .int 0, .int 0, .int 0, .int 0, .int 0, .int 0, .int (-1), .int (-1), .int 0, .int 0, .int 0, .ref (q 208), .int 0, .int 0, .ref (q 209), .ref (q 210), .ref (q 211), .ref (q 212), .ref (q 213), .int 0, .int 0, .ref (q 214), .ref (q 215), .ref (q 216), .int 0, .int 0]))]) (wr := [((q 204), .inl (k 1, 4, .inl (fun _ => -1)))]) hx hb hml hown hts hKK hP hD hS hA (m_is1 l D k (q 200) [.ref (q 201), .ref (q 202), .int 0, .long 0, .long 1, .ref (q 203), .ref (q 204), .ref (q 205), .ref (q 206), .ref (q 207), .int 0, .int 0, .int 0, .int 0, .int 0, .int 0, .int (-1), .int (-1), .int 0, .int 0, .int 0, .ref (q 208), .int 0, .int 0, .ref (q 209), .ref (q 210), .ref (q 211), .ref (q 212), .ref (q 213), .int 0, .int 0, .ref (q 214), .ref (q 215), .ref (q 216), .int 0, .int 0] (Nat.le_of_ble_eq_true rfl) 2 (by decide)) ci_X12_is qm_X12_89 ⟨Nat.le_of_ble_eq_true rfl, Nat.le_of_ble_eq_true rfl⟩ ⟨Nat.le_of_ble_eq_true rfl, Nat.le_of_ble_eq_true rfl⟩ [0] [1] rfl rfl rfl rfl rfl (by decide) 0 rfl rfl rfl hl.1 rfl (Nat.le_of_ble_eq_true rfl) dX12_pour_56 (fun u_121 H locs hφ hP hD hS => ?_)
                have hP : va_P D vwCl [((q 204), .inl (k 1, 4, .inl (fun _ => -1)))] H := hP
                have hD : va_D A [((q 204), .inl (k 1, 4, .inl (fun _ => -1)))] := hD
                refine W.eq (g2 := F0 m 59 ls [.int 0]) rfl ?_
                exact EWz hx hb hr hlocks hS () rfl rfl trivial nil_P nil_D dX12_pour_59
              ·
                refine lv_aload_n hx hb dX12_pour_28 rfl (lv_at hl 0 rfl) ?_
                refine lv_iconst (v := 1) hx hb dX12_pour_29 (by decide) ?_
                refine CWV (As := [.int 1]) (rest := []) (wc := [((q 200), .inr (12, [.ref (q 201), .ref (q 202), .int 0, .long 0, .long 1, .ref (q 203), .ref (q 204), .ref (q 205), .ref (q 206), .ref (q 207), .int 0, .int 0, .int 0, .int 0, .int 0, .int 0, .int (-1), .int (-1), .int 0, .int 0, .int 0, .ref (q 208), .int 0, .int 0, .ref (q 209), .ref (q 210), .ref (q 211), .ref (q 212), .ref (q 213), .int 0, .int 0, .ref (q 214), .ref (q 215), .ref (q 216), .int 0, .int 0]))]) (wr := [((q 204), .inl (k 1, 4, .inl (fun _ => -1)))]) hx hb hml hown hts hKK hP hD hS hA (m_is1 l D k (q 200) [.ref (q 201), .ref (q 202), .int 0, .long 0, .long 1, .ref (q 203), .ref (q 204), .ref (q 205), .ref (q 206), .ref (q 207), .int 0, .int 0, .int 0, .int 0, .int 0, .int 0, .int (-1), .int (-1), .int 0, .int 0, .int 0, .ref (q 208), .int 0, .int 0, .ref (q 209), .ref (q 210), .ref (q 211), .ref (q 212), .ref (q 213), .int 0, .int 0, .ref (q 214), .ref (q 215), .ref (q 216), .int 0, .int 0] (Nat.le_of_ble_eq_true rfl) 1 (by decide)) ci_X12_is qm_X12_89 ⟨Nat.le_of_ble_eq_true rfl, Nat.le_of_ble_eq_true rfl⟩ ⟨Nat.le_of_ble_eq_true rfl, Nat.le_of_ble_eq_true rfl⟩ [0] [1] rfl rfl rfl rfl rfl (by decide) 0 rfl rfl rfl hl.1 rfl (Nat.le_of_ble_eq_true rfl) dX12_pour_30 (fun u_122 H locs hφ hP hD hS => ?_)
                have hP : va_P D vwCl [((q 204), .inl (k 1, 4, .inl (fun _ => -1)))] H := hP
                have hD : va_D A [((q 204), .inl (k 1, 4, .inl (fun _ => -1)))] := hD
                refine W.eq (g2 := F0 m 33 ls [.int 0]) rfl ?_
                exact EWz hx hb hr hlocks hS () rfl rfl trivial nil_P nil_D dX12_pour_33
        ·
          refine lv_iload_n hx hb dX12_pour_14 rfl (lv_at hl 2 rfl) ?_
          refine lv_if_lt (tgt := 28) hx hb dX12_pour_15 (by decide) (fun c_123 => ?_) (fun c_123 => ?_)
          ·
            refine lv_aload_n hx hb dX12_pour_28 rfl (lv_at hl 0 rfl) ?_
            refine lv_iconst (v := 1) hx hb dX12_pour_29 (by decide) ?_
            refine CWV (As := [.int 1]) (rest := []) (wc := [((q 200), .inr (12, [.ref (q 201), .ref (q 202), .int 0, .long 0, .long 1, .ref (q 203), .ref (q 204), .ref (q 205), .ref (q 206), .ref (q 207), .int 0, .int 0, .int 0, .int 0, .int 0, .int 0, .int (-1), .int (-1), .int 0, .int 0, .int 0, .ref (q 208), .int 0, .int 0, .ref (q 209), .ref (q 210), .ref (q 211), .ref (q 212), .ref (q 213), .int 0, .int 0, .ref (q 214), .ref (q 215), .ref (q 216), .int 0, .int 0]))]) (wr := [((q 204), .inl (k 1, 4, .inl (fun _ => -1)))]) hx hb hml hown hts hKK hP hD hS hA (m_is1 l D k (q 200) [.ref (q 201), .ref (q 202), .int 0, .long 0, .long 1, .ref (q 203), .ref (q 204), .ref (q 205), .ref (q 206), .ref (q 207), .int 0, .int 0, .int 0, .int 0, .int 0, .int 0, .int (-1), .int (-1), .int 0, .int 0, .int 0, .ref (q 208), .int 0, .int 0, .ref (q 209), .ref (q 210), .ref (q 211), .ref (q 212), .ref (q 213), .int 0, .int 0, .ref (q 214), .ref (q 215), .ref (q 216), .int 0, .int 0] (Nat.le_of_ble_eq_true rfl) 1 (by decide)) ci_X12_is qm_X12_89 ⟨Nat.le_of_ble_eq_true rfl, Nat.le_of_ble_eq_true rfl⟩ ⟨Nat.le_of_ble_eq_true rfl, Nat.le_of_ble_eq_true rfl⟩ [0] [1] rfl rfl rfl rfl rfl (by decide) 0 rfl rfl rfl hl.1 rfl (Nat.le_of_ble_eq_true rfl) dX12_pour_30 (fun u_124 H locs hφ hP hD hS => ?_)
            have hP : va_P D vwCl [((q 204), .inl (k 1, 4, .inl (fun _ => -1)))] H := hP
            have hD : va_D A [((q 204), .inl (k 1, 4, .inl (fun _ => -1)))] := hD
            refine W.eq (g2 := F0 m 33 ls [.int 0]) rfl ?_
            exact EWz hx hb hr hlocks hS () rfl rfl trivial nil_P nil_D dX12_pour_33
          ·
            refine lv_iload hx hb dX12_pour_18 (lv_at hl 4 rfl) ?_
            refine lv_if_lt (tgt := 28) hx hb dX12_pour_20 (by decide) (fun c_125 => ?_) (fun c_125 => ?_)
            ·
              refine lv_aload_n hx hb dX12_pour_28 rfl (lv_at hl 0 rfl) ?_
              refine lv_iconst (v := 1) hx hb dX12_pour_29 (by decide) ?_
              refine CWV (As := [.int 1]) (rest := []) (wc := [((q 200), .inr (12, [.ref (q 201), .ref (q 202), .int 0, .long 0, .long 1, .ref (q 203), .ref (q 204), .ref (q 205), .ref (q 206), .ref (q 207), .int 0, .int 0, .int 0, .int 0, .int 0, .int 0, .int (-1), .int (-1), .int 0, .int 0, .int 0, .ref (q 208), .int 0, .int 0, .ref (q 209), .ref (q 210), .ref (q 211), .ref (q 212), .ref (q 213), .int 0, .int 0, .ref (q 214), .ref (q 215), .ref (q 216), .int 0, .int 0]))]) (wr := [((q 204), .inl (k 1, 4, .inl (fun _ => -1)))]) hx hb hml hown hts hKK hP hD hS hA (m_is1 l D k (q 200) [.ref (q 201), .ref (q 202), .int 0, .long 0, .long 1, .ref (q 203), .ref (q 204), .ref (q 205), .ref (q 206), .ref (q 207), .int 0, .int 0, .int 0, .int 0, .int 0, .int 0, .int (-1), .int (-1), .int 0, .int 0, .int 0, .ref (q 208), .int 0, .int 0, .ref (q 209), .ref (q 210), .ref (q 211), .ref (q 212), .ref (q 213), .int 0, .int 0, .ref (q 214), .ref (q 215), .ref (q 216), .int 0, .int 0] (Nat.le_of_ble_eq_true rfl) 1 (by decide)) ci_X12_is qm_X12_89 ⟨Nat.le_of_ble_eq_true rfl, Nat.le_of_ble_eq_true rfl⟩ ⟨Nat.le_of_ble_eq_true rfl, Nat.le_of_ble_eq_true rfl⟩ [0] [1] rfl rfl rfl rfl rfl (by decide) 0 rfl rfl rfl hl.1 rfl (Nat.le_of_ble_eq_true rfl) dX12_pour_30 (fun u_126 H locs hφ hP hD hS => ?_)
              have hP : va_P D vwCl [((q 204), .inl (k 1, 4, .inl (fun _ => -1)))] H := hP
              have hD : va_D A [((q 204), .inl (k 1, 4, .inl (fun _ => -1)))] := hD
              refine W.eq (g2 := F0 m 33 ls [.int 0]) rfl ?_
              exact EWz hx hb hr hlocks hS () rfl rfl trivial nil_P nil_D dX12_pour_33
            ·
              refine lv_iload hx hb dX12_pour_23 (lv_at hl 5 rfl) ?_
              refine lv_if_ge (tgt := 34) hx hb dX12_pour_25 (by decide) (fun c_127 => ?_) (fun c_127 => ?_)
              ·
                refine lv_aload_n hx hb dX12_pour_34 rfl (lv_at hl 0 rfl) ?_
                refine va_get (D := D) (ci := 12) (v := .ref (q 204)) (C := RX12) (T := TX12) (N := 36) hx hb hts iX12 hown hK hP 0 rfl rfl 6 (by decide) (hts _ qf_X12_24) (fun _ h => h) rfl dX12_pour_35 ?_
                refine lv_iload_n hx hb dX12_pour_38 rfl (lv_at hl 1 rfl) ?_
                refine va_iald hx hb hK hP 1 1 rfl rfl (xin 3 4 rfl (by decide) (by decide)) dX12_pour_39 ?_
                refine lv_topi (fun x_128 ex_128 => ?_)
                obtain rfl : x_128 = (-1) := ex_128.trans (by decide +kernel)
                refine lv_iconst (v := (-1)) hx hb dX12_pour_40 (by decide) ?_
                refine lv_icmp_eq (tgt := 54) hx hb dX12_pour_41 (by decide) (fun _ => ?_) (fun c => absurd (by decide) c)
                refine lv_aload_n hx hb dX12_pour_54 rfl (lv_at hl 0 rfl) ?_
                refine lv_iconst (v := 2) hx hb dX12_pour_55 (by decide) ?_
                refine CWV (As := [.int 2]) (rest := []) (wc := [((q 200), .inr (12, [.ref (q 201), .ref (q 202), .int 0, .long 0, .long 1, .ref (q 203), .ref (q 204), .ref (q 205), .ref (q 206), .ref (q 207), .int 0, .int 0, .int 0, .int 0, .int 0, .int 0, .int (-1), .int (-1), .int 0, .int 0, .int 0, .ref (q 208), .int 0, .int 0, .ref (q 209), .ref (q 210), .ref (q 211), .ref (q 212), .ref (q 213), .int 0, .int 0, .ref (q 214), .ref (q 215), .ref (q 216), .int 0, .int 0]))]) (wr := [((q 204), .inl (k 1, 4, .inl (fun _ => -1)))]) hx hb hml hown hts hKK hP hD hS hA (m_is1 l D k (q 200) [.ref (q 201), .ref (q 202), .int 0, .long 0, .long 1, .ref (q 203), .ref (q 204), .ref (q 205), .ref (q 206), .ref (q 207), .int 0, .int 0, .int 0, .int 0, .int 0, .int 0, .int (-1), .int (-1), .int 0, .int 0, .int 0, .ref (q 208), .int 0, .int 0, .ref (q 209), .ref (q 210), .ref (q 211), .ref (q 212), .ref (q 213), .int 0, .int 0, .ref (q 214), .ref (q 215), .ref (q 216), .int 0, .int 0] (Nat.le_of_ble_eq_true rfl) 2 (by decide)) ci_X12_is qm_X12_89 ⟨Nat.le_of_ble_eq_true rfl, Nat.le_of_ble_eq_true rfl⟩ ⟨Nat.le_of_ble_eq_true rfl, Nat.le_of_ble_eq_true rfl⟩ [0] [1] rfl rfl rfl rfl rfl (by decide) 0 rfl rfl rfl hl.1 rfl (Nat.le_of_ble_eq_true rfl) dX12_pour_56 (fun u_129 H locs hφ hP hD hS => ?_)
                have hP : va_P D vwCl [((q 204), .inl (k 1, 4, .inl (fun _ => -1)))] H := hP
                have hD : va_D A [((q 204), .inl (k 1, 4, .inl (fun _ => -1)))] := hD
                refine W.eq (g2 := F0 m 59 ls [.int 0]) rfl ?_
                exact EWz hx hb hr hlocks hS () rfl rfl trivial nil_P nil_D dX12_pour_59
              ·
                refine lv_aload_n hx hb dX12_pour_28 rfl (lv_at hl 0 rfl) ?_
                refine lv_iconst (v := 1) hx hb dX12_pour_29 (by decide) ?_
                refine CWV (As := [.int 1]) (rest := []) (wc := [((q 200), .inr (12, [.ref (q 201), .ref (q 202), .int 0, .long 0, .long 1, .ref (q 203), .ref (q 204), .ref (q 205), .ref (q 206), .ref (q 207), .int 0, .int 0, .int 0, .int 0, .int 0, .int 0, .int (-1), .int (-1), .int 0, .int 0, .int 0, .ref (q 208), .int 0, .int 0, .ref (q 209), .ref (q 210), .ref (q 211), .ref (q 212), .ref (q 213), .int 0, .int 0, .ref (q 214), .ref (q 215), .ref (q 216), .int 0, .int 0]))]) (wr := [((q 204), .inl (k 1, 4, .inl (fun _ => -1)))]) hx hb hml hown hts hKK hP hD hS hA (m_is1 l D k (q 200) [.ref (q 201), .ref (q 202), .int 0, .long 0, .long 1, .ref (q 203), .ref (q 204), .ref (q 205), .ref (q 206), .ref (q 207), .int 0, .int 0, .int 0, .int 0, .int 0, .int 0, .int (-1), .int (-1), .int 0, .int 0, .int 0, .ref (q 208), .int 0, .int 0, .ref (q 209), .ref (q 210), .ref (q 211), .ref (q 212), .ref (q 213), .int 0, .int 0, .ref (q 214), .ref (q 215), .ref (q 216), .int 0, .int 0] (Nat.le_of_ble_eq_true rfl) 1 (by decide)) ci_X12_is qm_X12_89 ⟨Nat.le_of_ble_eq_true rfl, Nat.le_of_ble_eq_true rfl⟩ ⟨Nat.le_of_ble_eq_true rfl, Nat.le_of_ble_eq_true rfl⟩ [0] [1] rfl rfl rfl rfl rfl (by decide) 0 rfl rfl rfl hl.1 rfl (Nat.le_of_ble_eq_true rfl) dX12_pour_30 (fun u_130 H locs hφ hP hD hS => ?_)
                have hP : va_P D vwCl [((q 204), .inl (k 1, 4, .inl (fun _ => -1)))] H := hP
                have hD : va_D A [((q 204), .inl (k 1, 4, .inl (fun _ => -1)))] := hD
                refine W.eq (g2 := F0 m 33 ls [.int 0]) rfl ?_
                exact EWz hx hb hr hlocks hS () rfl rfl trivial nil_P nil_D dX12_pour_33
        ·
          refine lv_iload_n hx hb dX12_pour_14 rfl (lv_at hl 2 rfl) ?_
          refine lv_if_lt (tgt := 28) hx hb dX12_pour_15 (by decide) (fun c_131 => ?_) (fun c_131 => ?_)
          ·
            refine lv_aload_n hx hb dX12_pour_28 rfl (lv_at hl 0 rfl) ?_
            refine lv_iconst (v := 1) hx hb dX12_pour_29 (by decide) ?_
            refine CWV (As := [.int 1]) (rest := []) (wc := [((q 200), .inr (12, [.ref (q 201), .ref (q 202), .int 0, .long 0, .long 1, .ref (q 203), .ref (q 204), .ref (q 205), .ref (q 206), .ref (q 207), .int 0, .int 0, .int 0, .int 0, .int 0, .int 0, .int (-1), .int (-1), .int 0, .int 0, .int 0, .ref (q 208), .int 0, .int 0, .ref (q 209), .ref (q 210), .ref (q 211), .ref (q 212), .ref (q 213), .int 0, .int 0, .ref (q 214), .ref (q 215), .ref (q 216), .int 0, .int 0]))]) (wr := [((q 204), .inl (k 1, 4, .inl (fun _ => -1)))]) hx hb hml hown hts hKK hP hD hS hA (m_is1 l D k (q 200) [.ref (q 201), .ref (q 202), .int 0, .long 0, .long 1, .ref (q 203), .ref (q 204), .ref (q 205), .ref (q 206), .ref (q 207), .int 0, .int 0, .int 0, .int 0, .int 0, .int 0, .int (-1), .int (-1), .int 0, .int 0, .int 0, .ref (q 208), .int 0, .int 0, .ref (q 209), .ref (q 210), .ref (q 211), .ref (q 212), .ref (q 213), .int 0, .int 0, .ref (q 214), .ref (q 215), .ref (q 216), .int 0, .int 0] (Nat.le_of_ble_eq_true rfl) 1 (by decide)) ci_X12_is qm_X12_89 ⟨Nat.le_of_ble_eq_true rfl, Nat.le_of_ble_eq_true rfl⟩ ⟨Nat.le_of_ble_eq_true rfl, Nat.le_of_ble_eq_true rfl⟩ [0] [1] rfl rfl rfl rfl rfl (by decide) 0 rfl rfl rfl hl.1 rfl (Nat.le_of_ble_eq_true rfl) dX12_pour_30 (fun u_132 H locs hφ hP hD hS => ?_)
            have hP : va_P D vwCl [((q 204), .inl (k 1, 4, .inl (fun _ => -1)))] H := hP
            have hD : va_D A [((q 204), .inl (k 1, 4, .inl (fun _ => -1)))] := hD
            refine W.eq (g2 := F0 m 33 ls [.int 0]) rfl ?_
            exact EWz hx hb hr hlocks hS () rfl rfl trivial nil_P nil_D dX12_pour_33
          ·
            refine lv_iload hx hb dX12_pour_18 (lv_at hl 4 rfl) ?_
            refine lv_if_lt (tgt := 28) hx hb dX12_pour_20 (by decide) (fun c_133 => ?_) (fun c_133 => ?_)
            ·
              refine lv_aload_n hx hb dX12_pour_28 rfl (lv_at hl 0 rfl) ?_
              refine lv_iconst (v := 1) hx hb dX12_pour_29 (by decide) ?_
              refine CWV (As := [.int 1]) (rest := []) (wc := [((q 200), .inr (12, [.ref (q 201), .ref (q 202), .int 0, .long 0, .long 1, .ref (q 203), .ref (q 204), .ref (q 205), .ref (q 206), .ref (q 207), .int 0, .int 0, .int 0, .int 0, .int 0, .int 0, .int (-1), .int (-1), .int 0, .int 0, .int 0, .ref (q 208), .int 0, .int 0, .ref (q 209), .ref (q 210), .ref (q 211), .ref (q 212), .ref (q 213), .int 0, .int 0, .ref (q 214), .ref (q 215), .ref (q 216), .int 0, .int 0]))]) (wr := [((q 204), .inl (k 1, 4, .inl (fun _ => -1)))]) hx hb hml hown hts hKK hP hD hS hA (m_is1 l D k (q 200) [.ref (q 201), .ref (q 202), .int 0, .long 0, .long 1, .ref (q 203), .ref (q 204), .ref (q 205), .ref (q 206), .ref (q 207), .int 0, .int 0, .int 0, .int 0, .int 0, .int 0, .int (-1), .int (-1), .int 0, .int 0, .int 0, .ref (q 208), .int 0, .int 0, .ref (q 209), .ref (q 210), .ref (q 211), .ref (q 212), .ref (q 213), .int 0, .int 0, .ref (q 214), .ref (q 215), .ref (q 216), .int 0, .int 0] (Nat.le_of_ble_eq_true rfl) 1 (by decide)) ci_X12_is qm_X12_89 ⟨Nat.le_of_ble_eq_true rfl, Nat.le_of_ble_eq_true rfl⟩ ⟨Nat.le_of_ble_eq_true rfl, Nat.le_of_ble_eq_true rfl⟩ [0] [1] rfl rfl rfl rfl rfl (by decide) 0 rfl rfl rfl hl.1 rfl (Nat.le_of_ble_eq_true rfl) dX12_pour_30 (fun u_134 H locs hφ hP hD hS => ?_)
              have hP : va_P D vwCl [((q 204), .inl (k 1, 4, .inl (fun _ => -1)))] H := hP
              have hD : va_D A [((q 204), .inl (k 1, 4, .inl (fun _ => -1)))] := hD
              refine W.eq (g2 := F0 m 33 ls [.int 0]) rfl ?_
              exact EWz hx hb hr hlocks hS () rfl rfl trivial nil_P nil_D dX12_pour_33
            ·
              refine lv_iload hx hb dX12_pour_23 (lv_at hl 5 rfl) ?_
              refine lv_if_ge (tgt := 34) hx hb dX12_pour_25 (by decide) (fun c_135 => ?_) (fun c_135 => ?_)
              ·
                refine lv_aload_n hx hb dX12_pour_34 rfl (lv_at hl 0 rfl) ?_
                refine va_get (D := D) (ci := 12) (v := .ref (q 204)) (C := RX12) (T := TX12) (N := 36) hx hb hts iX12 hown hK hP 0 rfl rfl 6 (by decide) (hts _ qf_X12_24) (fun _ h => h) rfl dX12_pour_35 ?_
                refine lv_iload_n hx hb dX12_pour_38 rfl (lv_at hl 1 rfl) ?_
                refine va_iald hx hb hK hP 1 1 rfl rfl (xin 3 4 rfl (by decide) (by decide)) dX12_pour_39 ?_
                refine lv_topi (fun x_136 ex_136 => ?_)
                obtain rfl : x_136 = (-1) := ex_136.trans (by decide +kernel)
                refine lv_iconst (v := (-1)) hx hb dX12_pour_40 (by decide) ?_
                refine lv_icmp_eq (tgt := 54) hx hb dX12_pour_41 (by decide) (fun _ => ?_) (fun c => absurd (by decide) c)
                refine lv_aload_n hx hb dX12_pour_54 rfl (lv_at hl 0 rfl) ?_
                refine lv_iconst (v := 2) hx hb dX12_pour_55 (by decide) ?_
                refine CWV (As := [.int 2]) (rest := []) (wc := [((q 200), .inr (12, [.ref (q 201), .ref (q 202), .int 0, .long 0, .long 1, .ref (q 203), .ref (q 204), .ref (q 205), .ref (q 206), .ref (q 207), .int 0, .int 0, .int 0, .int 0, .int 0, .int 0, .int (-1), .int (-1), .int 0, .int 0, .int 0, .ref (q 208), .int 0, .int 0, .ref (q 209), .ref (q 210), .ref (q 211), .ref (q 212), .ref (q 213), .int 0, .int 0, .ref (q 214), .ref (q 215), .ref (q 216), .int 0, .int 0]))]) (wr := [((q 204), .inl (k 1, 4, .inl (fun _ => -1)))]) hx hb hml hown hts hKK hP hD hS hA (m_is1 l D k (q 200) [.ref (q 201), .ref (q 202), .int 0, .long 0, .long 1, .ref (q 203), .ref (q 204), .ref (q 205), .ref (q 206), .ref (q 207), .int 0, .int 0, .int 0, .int 0, .int 0, .int 0, .int (-1), .int (-1), .int 0, .int 0, .int 0, .ref (q 208), .int 0, .int 0, .ref (q 209), .ref (q 210), .ref (q 211), .ref (q 212), .ref (q 213), .int 0, .int 0, .ref (q 214), .ref (q 215), .ref (q 216), .int 0, .int 0] (Nat.le_of_ble_eq_true rfl) 2 (by decide)) ci_X12_is qm_X12_89 ⟨Nat.le_of_ble_eq_true rfl, Nat.le_of_ble_eq_true rfl⟩ ⟨Nat.le_of_ble_eq_true rfl, Nat.le_of_ble_eq_true rfl⟩ [0] [1] rfl rfl rfl rfl rfl (by decide) 0 rfl rfl rfl hl.1 rfl (Nat.le_of_ble_eq_true rfl) dX12_pour_56 (fun u_137 H locs hφ hP hD hS => ?_)
                have hP : va_P D vwCl [((q 204), .inl (k 1, 4, .inl (fun _ => -1)))] H := hP
                have hD : va_D A [((q 204), .inl (k 1, 4, .inl (fun _ => -1)))] := hD
                refine W.eq (g2 := F0 m 59 ls [.int 0]) rfl ?_
                exact EWz hx hb hr hlocks hS () rfl rfl trivial nil_P nil_D dX12_pour_59
              ·
                refine lv_aload_n hx hb dX12_pour_28 rfl (lv_at hl 0 rfl) ?_
                refine lv_iconst (v := 1) hx hb dX12_pour_29 (by decide) ?_
                refine CWV (As := [.int 1]) (rest := []) (wc := [((q 200), .inr (12, [.ref (q 201), .ref (q 202), .int 0, .long 0, .long 1, .ref (q 203), .ref (q 204), .ref (q 205), .ref (q 206), .ref (q 207), .int 0, .int 0, .int 0, .int 0, .int 0, .int 0, .int (-1), .int (-1), .int 0, .int 0, .int 0, .ref (q 208), .int 0, .int 0, .ref (q 209), .ref (q 210), .ref (q 211), .ref (q 212), .ref (q 213), .int 0, .int 0, .ref (q 214), .ref (q 215), .ref (q 216), .int 0, .int 0]))]) (wr := [((q 204), .inl (k 1, 4, .inl (fun _ => -1)))]) hx hb hml hown hts hKK hP hD hS hA (m_is1 l D k (q 200) [.ref (q 201), .ref (q 202), .int 0, .long 0, .long 1, .ref (q 203), .ref (q 204), .ref (q 205), .ref (q 206), .ref (q 207), .int 0, .int 0, .int 0, .int 0, .int 0, .int 0, .int (-1), .int (-1), .int 0, .int 0, .int 0, .ref (q 208), .int 0, .int 0, .ref (q 209), .ref (q 210), .ref (q 211), .ref (q 212), .ref (q 213), .int 0, .int 0, .ref (q 214), .ref (q 215), .ref (q 216), .int 0, .int 0] (Nat.le_of_ble_eq_true rfl) 1 (by decide)) ci_X12_is qm_X12_89 ⟨Nat.le_of_ble_eq_true rfl, Nat.le_of_ble_eq_true rfl⟩ ⟨Nat.le_of_ble_eq_true rfl, Nat.le_of_ble_eq_true rfl⟩ [0] [1] rfl rfl rfl rfl rfl (by decide) 0 rfl rfl rfl hl.1 rfl (Nat.le_of_ble_eq_true rfl) dX12_pour_30 (fun u_138 H locs hφ hP hD hS => ?_)
                have hP : va_P D vwCl [((q 204), .inl (k 1, 4, .inl (fun _ => -1)))] H := hP
                have hD : va_D A [((q 204), .inl (k 1, 4, .inl (fun _ => -1)))] := hD
                refine W.eq (g2 := F0 m 33 ls [.int 0]) rfl ?_
                exact EWz hx hb hr hlocks hS () rfl rfl trivial nil_P nil_D dX12_pour_33
theorem c1_sp {c : Int32} (h : ¬ c < 0) (h2 : c ≤ 60) : ¬ bw c 60 = 0 := by
  unfold bw
  rw [if_neg h, if_neg (Int32.not_lt.mpr h2)]
  decide
set_option maxHeartbeats 4000000 in
set_option maxRecDepth 100000 in
theorem r_tray (l : Launch) (D : va_G) (k : Nat → ClassId) (q : Nat → Nat) (a : Int32) (b : Int32) (c1 : Int32) : WD (σ := Unit) l yX12_tray cX12_tray 5 (some .boolean) 8 0 0 D k [.ref (q 200), .int a, .int b, .int c1] [((q 200), .inr (12, [.ref (q 201), .ref (q 202), .int 0, .long 0, .long 1, .ref (q 203), .ref (q 204), .ref (q 205), .ref (q 206), .ref (q 207), .int 0, .int 0, .int 0, .int 0, .int 0, .int 0, .int (-1), .int (-1), .int 0, .int 0, .int 0, .ref (q 208), .int 0, .int 0, .ref (q 209), .ref (q 210), .ref (q 211), .ref (q 212), .ref (q 213), .int 0, .int 0, .ref (q 214), .ref (q 215), .ref (q 216), .int 0, .int 0])), ((q 203), .inl (k 1, 4, .inl (fun _ => 0))), ((q 204), .inl (k 1, 4, .inl (fun _ => -1))), ((q 205), .inl (k 2, 240, .inr (.inl (fun _ => 0))))] (fun _ => some (.int (trA a b c1))) (fun _ => True) (fun _ => []) := by
  refine MW (by decide) (Nat.le_of_ble_eq_true rfl) (fun p e s m below meth c ls A hx hb hml hr hlocks hin hts hown hKK hP hD hS hA hl => ?_)
  have hK := hKK.1
  have hl : lv_has ls 5 [(0, .ref (q 200)), (1, .int a), (2, .int b), (3, .int c1)] := hl
  refine lv_iload_n hx hb dX12_tray_0 rfl (lv_at hl 1 rfl) ?_
  refine CRS (As := [.int a]) (rest := []) hx hb hml hown hts hKK (hP.sub (ws' := []) [] rfl) (m_isTray l D k a) ci_X12_isTray qm_X12_93 ⟨Nat.le_of_ble_eq_true rfl, Nat.le_of_ble_eq_true rfl⟩ ⟨Nat.le_of_ble_eq_true rfl, Nat.le_of_ble_eq_true rfl⟩ rfl hl.1 rfl (Nat.le_of_ble_eq_true rfl) dX12_tray_1 ?_
  refine lv_if_eq (tgt := 26) hx hb dX12_tray_4 (by decide) (fun c_1 => ?_) (fun c_1 => ?_)
  ·
    refine lv_aload_n hx hb dX12_tray_26 rfl (lv_at hl 0 rfl) ?_
    refine lv_iconst (v := 1) hx hb dX12_tray_27 (by decide) ?_
    refine CWV (As := [.int 1]) (rest := []) (wc := [((q 200), .inr (12, [.ref (q 201), .ref (q 202), .int 0, .long 0, .long 1, .ref (q 203), .ref (q 204), .ref (q 205), .ref (q 206), .ref (q 207), .int 0, .int 0, .int 0, .int 0, .int 0, .int 0, .int (-1), .int (-1), .int 0, .int 0, .int 0, .ref (q 208), .int 0, .int 0, .ref (q 209), .ref (q 210), .ref (q 211), .ref (q 212), .ref (q 213), .int 0, .int 0, .ref (q 214), .ref (q 215), .ref (q 216), .int 0, .int 0]))]) (wr := [((q 203), .inl (k 1, 4, .inl (fun _ => 0))), ((q 204), .inl (k 1, 4, .inl (fun _ => -1))), ((q 205), .inl (k 2, 240, .inr (.inl (fun _ => 0))))]) hx hb hml hown hts hKK hP hD hS hA (m_is1 l D k (q 200) [.ref (q 201), .ref (q 202), .int 0, .long 0, .long 1, .ref (q 203), .ref (q 204), .ref (q 205), .ref (q 206), .ref (q 207), .int 0, .int 0, .int 0, .int 0, .int 0, .int 0, .int (-1), .int (-1), .int 0, .int 0, .int 0, .ref (q 208), .int 0, .int 0, .ref (q 209), .ref (q 210), .ref (q 211), .ref (q 212), .ref (q 213), .int 0, .int 0, .ref (q 214), .ref (q 215), .ref (q 216), .int 0, .int 0] (Nat.le_of_ble_eq_true rfl) 1 (by decide)) ci_X12_is qm_X12_89 ⟨Nat.le_of_ble_eq_true rfl, Nat.le_of_ble_eq_true rfl⟩ ⟨Nat.le_of_ble_eq_true rfl, Nat.le_of_ble_eq_true rfl⟩ [0] [1, 2, 3] rfl rfl rfl rfl rfl (by decide) 0 rfl rfl rfl hl.1 rfl (Nat.le_of_ble_eq_true rfl) dX12_tray_28 (fun u_2 H locs hφ hP hD hS => ?_)
    have hP : va_P D vwCl [((q 203), .inl (k 1, 4, .inl (fun _ => 0))), ((q 204), .inl (k 1, 4, .inl (fun _ => -1))), ((q 205), .inl (k 2, 240, .inr (.inl (fun _ => 0))))] H := hP
    have hD : va_D A [((q 203), .inl (k 1, 4, .inl (fun _ => 0))), ((q 204), .inl (k 1, 4, .inl (fun _ => -1))), ((q 205), .inl (k 2, 240, .inr (.inl (fun _ => 0))))] := hD
    refine W.eq (g2 := F0 m 31 ls [.int 0]) rfl ?_
    exact EWz hx hb hr hlocks hS () (by simp [trA, c_1]) rfl trivial nil_P nil_D dX12_tray_31
  ·
    obtain rfl | rfl | rfl | rfl := bw4 c_1
    ·
      refine lv_iload_n hx hb dX12_tray_7 rfl (lv_at hl 2 rfl) ?_
      refine lv_if_lt (tgt := 26) hx hb dX12_tray_8 (by decide) (fun c_3 => ?_) (fun c_3 => ?_)
      ·
        refine lv_aload_n hx hb dX12_tray_26 rfl (lv_at hl 0 rfl) ?_
        refine lv_iconst (v := 1) hx hb dX12_tray_27 (by decide) ?_
        refine CWV (As := [.int 1]) (rest := []) (wc := [((q 200), .inr (12, [.ref (q 201), .ref (q 202), .int 0, .long 0, .long 1, .ref (q 203), .ref (q 204), .ref (q 205), .ref (q 206), .ref (q 207), .int 0, .int 0, .int 0, .int 0, .int 0, .int 0, .int (-1), .int (-1), .int 0, .int 0, .int 0, .ref (q 208), .int 0, .int 0, .ref (q 209), .ref (q 210), .ref (q 211), .ref (q 212), .ref (q 213), .int 0, .int 0, .ref (q 214), .ref (q 215), .ref (q 216), .int 0, .int 0]))]) (wr := [((q 203), .inl (k 1, 4, .inl (fun _ => 0))), ((q 204), .inl (k 1, 4, .inl (fun _ => -1))), ((q 205), .inl (k 2, 240, .inr (.inl (fun _ => 0))))]) hx hb hml hown hts hKK hP hD hS hA (m_is1 l D k (q 200) [.ref (q 201), .ref (q 202), .int 0, .long 0, .long 1, .ref (q 203), .ref (q 204), .ref (q 205), .ref (q 206), .ref (q 207), .int 0, .int 0, .int 0, .int 0, .int 0, .int 0, .int (-1), .int (-1), .int 0, .int 0, .int 0, .ref (q 208), .int 0, .int 0, .ref (q 209), .ref (q 210), .ref (q 211), .ref (q 212), .ref (q 213), .int 0, .int 0, .ref (q 214), .ref (q 215), .ref (q 216), .int 0, .int 0] (Nat.le_of_ble_eq_true rfl) 1 (by decide)) ci_X12_is qm_X12_89 ⟨Nat.le_of_ble_eq_true rfl, Nat.le_of_ble_eq_true rfl⟩ ⟨Nat.le_of_ble_eq_true rfl, Nat.le_of_ble_eq_true rfl⟩ [0] [1, 2, 3] rfl rfl rfl rfl rfl (by decide) 0 rfl rfl rfl hl.1 rfl (Nat.le_of_ble_eq_true rfl) dX12_tray_28 (fun u_4 H locs hφ hP hD hS => ?_)
        have hP : va_P D vwCl [((q 203), .inl (k 1, 4, .inl (fun _ => 0))), ((q 204), .inl (k 1, 4, .inl (fun _ => -1))), ((q 205), .inl (k 2, 240, .inr (.inl (fun _ => 0))))] H := hP
        have hD : va_D A [((q 203), .inl (k 1, 4, .inl (fun _ => 0))), ((q 204), .inl (k 1, 4, .inl (fun _ => -1))), ((q 205), .inl (k 2, 240, .inr (.inl (fun _ => 0))))] := hD
        refine W.eq (g2 := F0 m 31 ls [.int 0]) rfl ?_
        exact EWz hx hb hr hlocks hS () (by simp [trA, c_1, bw, c_1, c_3]) rfl trivial nil_P nil_D dX12_tray_31
      ·
        refine lv_iload_n hx hb dX12_tray_11 rfl (lv_at hl 2 rfl) ?_
        refine lv_iconst (v := 3) hx hb dX12_tray_12 (by decide) ?_
        refine lv_icmp_gt (tgt := 26) hx hb dX12_tray_13 (by decide) (fun c_5 => ?_) (fun c_5 => ?_)
        ·
          refine lv_aload_n hx hb dX12_tray_26 rfl (lv_at hl 0 rfl) ?_
          refine lv_iconst (v := 1) hx hb dX12_tray_27 (by decide) ?_
          refine CWV (As := [.int 1]) (rest := []) (wc := [((q 200), .inr (12, [.ref (q 201), .ref (q 202), .int 0, .long 0, .long 1, .ref (q 203), .ref (q 204), .ref (q 205), .ref (q 206), .ref (q 207), .int 0, .int 0, .int 0, .int 0, .int 0, .int 0, .int (-1), .int (-1), .int 0, .int 0, .int 0, .ref (q 208), .int 0, .int 0, .ref (q 209), .ref (q 210), .ref (q 211), .ref (q 212), .ref (q 213), .int 0, .int 0, .ref (q 214), .ref (q 215), .ref (q 216), .int 0, .int 0]))]) (wr := [((q 203), .inl (k 1, 4, .inl (fun _ => 0))), ((q 204), .inl (k 1, 4, .inl (fun _ => -1))), ((q 205), .inl (k 2, 240, .inr (.inl (fun _ => 0))))]) hx hb hml hown hts hKK hP hD hS hA (m_is1 l D k (q 200) [.ref (q 201), .ref (q 202), .int 0, .long 0, .long 1, .ref (q 203), .ref (q 204), .ref (q 205), .ref (q 206), .ref (q 207), .int 0, .int 0, .int 0, .int 0, .int 0, .int 0, .int (-1), .int (-1), .int 0, .int 0, .int 0, .ref (q 208), .int 0, .int 0, .ref (q 209), .ref (q 210), .ref (q 211), .ref (q 212), .ref (q 213), .int 0, .int 0, .ref (q 214), .ref (q 215), .ref (q 216), .int 0, .int 0] (Nat.le_of_ble_eq_true rfl) 1 (by decide)) ci_X12_is qm_X12_89 ⟨Nat.le_of_ble_eq_true rfl, Nat.le_of_ble_eq_true rfl⟩ ⟨Nat.le_of_ble_eq_true rfl, Nat.le_of_ble_eq_true rfl⟩ [0] [1, 2, 3] rfl rfl rfl rfl rfl (by decide) 0 rfl rfl rfl hl.1 rfl (Nat.le_of_ble_eq_true rfl) dX12_tray_28 (fun u_6 H locs hφ hP hD hS => ?_)
          have hP : va_P D vwCl [((q 203), .inl (k 1, 4, .inl (fun _ => 0))), ((q 204), .inl (k 1, 4, .inl (fun _ => -1))), ((q 205), .inl (k 2, 240, .inr (.inl (fun _ => 0))))] H := hP
          have hD : va_D A [((q 203), .inl (k 1, 4, .inl (fun _ => 0))), ((q 204), .inl (k 1, 4, .inl (fun _ => -1))), ((q 205), .inl (k 2, 240, .inr (.inl (fun _ => 0))))] := hD
          refine W.eq (g2 := F0 m 31 ls [.int 0]) rfl ?_
          exact EWz hx hb hr hlocks hS () (by simp [trA, c_1, bw, c_1, c_3, c_5]) rfl trivial nil_P nil_D dX12_tray_31
        ·
          refine lv_iload_n hx hb dX12_tray_16 rfl (lv_at hl 3 rfl) ?_
          refine lv_if_lt (tgt := 26) hx hb dX12_tray_17 (by decide) (fun c_7 => ?_) (fun c_7 => ?_)
          ·
            refine lv_aload_n hx hb dX12_tray_26 rfl (lv_at hl 0 rfl) ?_
            refine lv_iconst (v := 1) hx hb dX12_tray_27 (by decide) ?_
            refine CWV (As := [.int 1]) (rest := []) (wc := [((q 200), .inr (12, [.ref (q 201), .ref (q 202), .int 0, .long 0, .long 1, .ref (q 203), .ref (q 204), .ref (q 205), .ref (q 206), .ref (q 207), .int 0, .int 0, .int 0, .int 0, .int 0, .int 0, .int (-1), .int (-1), .int 0, .int 0, .int 0, .ref (q 208), .int 0, .int 0, .ref (q 209), .ref (q 210), .ref (q 211), .ref (q 212), .ref (q 213), .int 0, .int 0, .ref (q 214), .ref (q 215), .ref (q 216), .int 0, .int 0]))]) (wr := [((q 203), .inl (k 1, 4, .inl (fun _ => 0))), ((q 204), .inl (k 1, 4, .inl (fun _ => -1))), ((q 205), .inl (k 2, 240, .inr (.inl (fun _ => 0))))]) hx hb hml hown hts hKK hP hD hS hA (m_is1 l D k (q 200) [.ref (q 201), .ref (q 202), .int 0, .long 0, .long 1, .ref (q 203), .ref (q 204), .ref (q 205), .ref (q 206), .ref (q 207), .int 0, .int 0, .int 0, .int 0, .int 0, .int 0, .int (-1), .int (-1), .int 0, .int 0, .int 0, .ref (q 208), .int 0, .int 0, .ref (q 209), .ref (q 210), .ref (q 211), .ref (q 212), .ref (q 213), .int 0, .int 0, .ref (q 214), .ref (q 215), .ref (q 216), .int 0, .int 0] (Nat.le_of_ble_eq_true rfl) 1 (by decide)) ci_X12_is qm_X12_89 ⟨Nat.le_of_ble_eq_true rfl, Nat.le_of_ble_eq_true rfl⟩ ⟨Nat.le_of_ble_eq_true rfl, Nat.le_of_ble_eq_true rfl⟩ [0] [1, 2, 3] rfl rfl rfl rfl rfl (by decide) 0 rfl rfl rfl hl.1 rfl (Nat.le_of_ble_eq_true rfl) dX12_tray_28 (fun u_8 H locs hφ hP hD hS => ?_)
            have hP : va_P D vwCl [((q 203), .inl (k 1, 4, .inl (fun _ => 0))), ((q 204), .inl (k 1, 4, .inl (fun _ => -1))), ((q 205), .inl (k 2, 240, .inr (.inl (fun _ => 0))))] H := hP
            have hD : va_D A [((q 203), .inl (k 1, 4, .inl (fun _ => 0))), ((q 204), .inl (k 1, 4, .inl (fun _ => -1))), ((q 205), .inl (k 2, 240, .inr (.inl (fun _ => 0))))] := hD
            refine W.eq (g2 := F0 m 31 ls [.int 0]) rfl ?_
            exact EWz hx hb hr hlocks hS () (by simp [trA, c_1, bw, c_1, c_3, c_5, c_7]) rfl trivial nil_P nil_D dX12_tray_31
          ·
            refine lv_iload_n hx hb dX12_tray_20 rfl (lv_at hl 3 rfl) ?_
            refine lv_bipush (v := 60) hx hb dX12_tray_21 (by decide) ?_
            refine lv_icmp_le (tgt := 32) hx hb dX12_tray_23 (by decide) (fun c_9 => ?_) (fun c_9 => ?_)
            ·
              have hsp := c1_sp c_7 c_9
              obtain ⟨w0, hw0, rfl⟩ := nI_of2 (M := 60) (n := 60) rfl c_7 c_9
              refine lv_aload_n hx hb dX12_tray_32 rfl (lv_at hl 0 rfl) ?_
              refine va_get (D := D) (ci := 12) (v := .ref (q 203)) (C := RX12) (T := TX12) (N := 36) hx hb hts iX12 hown hK hP 0 rfl rfl 5 (by decide) (hts _ qf_X12_21) (fun _ h => h) rfl dX12_tray_33 ?_
              refine lv_iload_n hx hb dX12_tray_36 rfl (lv_at hl 1 rfl) ?_
              refine lv_iload_n hx hb dX12_tray_37 rfl (lv_at hl 2 rfl) ?_
              refine va_iast hx hb hK hP hD hS 1 1 rfl rfl (xin 0 4 rfl (by decide) (by decide)) dX12_tray_38 (fun H locs hP hD hS => ?_)
              have hP : va_P D vwCl [((q 200), .inr (12, [.ref (q 201), .ref (q 202), .int 0, .long 0, .long 1, .ref (q 203), .ref (q 204), .ref (q 205), .ref (q 206), .ref (q 207), .int 0, .int 0, .int 0, .int 0, .int 0, .int 0, .int (-1), .int (-1), .int 0, .int 0, .int 0, .ref (q 208), .int 0, .int 0, .ref (q 209), .ref (q 210), .ref (q 211), .ref (q 212), .ref (q 213), .int 0, .int 0, .ref (q 214), .ref (q 215), .ref (q 216), .int 0, .int 0])), ((q 203), .inl (k 1, 4, .inl (upd (fun _ => 0) (0 : Int32).toNatClampNeg b))), ((q 204), .inl (k 1, 4, .inl (fun _ => -1))), ((q 205), .inl (k 2, 240, .inr (.inl (fun _ => 0))))] H := hP
              have hD : va_D A [((q 200), .inr (12, [.ref (q 201), .ref (q 202), .int 0, .long 0, .long 1, .ref (q 203), .ref (q 204), .ref (q 205), .ref (q 206), .ref (q 207), .int 0, .int 0, .int 0, .int 0, .int 0, .int 0, .int (-1), .int (-1), .int 0, .int 0, .int 0, .ref (q 208), .int 0, .int 0, .ref (q 209), .ref (q 210), .ref (q 211), .ref (q 212), .ref (q 213), .int 0, .int 0, .ref (q 214), .ref (q 215), .ref (q 216), .int 0, .int 0])), ((q 203), .inl (k 1, 4, .inl (upd (fun _ => 0) (0 : Int32).toNatClampNeg b))), ((q 204), .inl (k 1, 4, .inl (fun _ => -1))), ((q 205), .inl (k 2, 240, .inr (.inl (fun _ => 0))))] := hD
              refine lv_aload_n hx hb dX12_tray_39 rfl (lv_at hl 0 rfl) ?_
              refine va_get (D := D) (ci := 12) (v := .ref (q 204)) (C := RX12) (T := TX12) (N := 36) hx hb hts iX12 hown hK hP 0 rfl rfl 6 (by decide) (hts _ qf_X12_24) (fun _ h => h) rfl dX12_tray_40 ?_
              refine lv_iload_n hx hb dX12_tray_43 rfl (lv_at hl 1 rfl) ?_
              refine lv_iload_n hx hb dX12_tray_44 rfl (lv_at hl 3 rfl) ?_
              refine va_iast hx hb hK hP hD hS 2 1 rfl rfl (xin 0 4 rfl (by decide) (by decide)) dX12_tray_45 (fun H locs hP hD hS => ?_)
              have hP : va_P D vwCl [((q 200), .inr (12, [.ref (q 201), .ref (q 202), .int 0, .long 0, .long 1, .ref (q 203), .ref (q 204), .ref (q 205), .ref (q 206), .ref (q 207), .int 0, .int 0, .int 0, .int 0, .int 0, .int 0, .int (-1), .int (-1), .int 0, .int 0, .int 0, .ref (q 208), .int 0, .int 0, .ref (q 209), .ref (q 210), .ref (q 211), .ref (q 212), .ref (q 213), .int 0, .int 0, .ref (q 214), .ref (q 215), .ref (q 216), .int 0, .int 0])), ((q 203), .inl (k 1, 4, .inl (upd (fun _ => 0) (0 : Int32).toNatClampNeg b))), ((q 204), .inl (k 1, 4, .inl (upd (fun _ => -1) (0 : Int32).toNatClampNeg (nI w0)))), ((q 205), .inl (k 2, 240, .inr (.inl (fun _ => 0))))] H := hP
              have hD : va_D A [((q 200), .inr (12, [.ref (q 201), .ref (q 202), .int 0, .long 0, .long 1, .ref (q 203), .ref (q 204), .ref (q 205), .ref (q 206), .ref (q 207), .int 0, .int 0, .int 0, .int 0, .int 0, .int 0, .int (-1), .int (-1), .int 0, .int 0, .int 0, .ref (q 208), .int 0, .int 0, .ref (q 209), .ref (q 210), .ref (q 211), .ref (q 212), .ref (q 213), .int 0, .int 0, .ref (q 214), .ref (q 215), .ref (q 216), .int 0, .int 0])), ((q 203), .inl (k 1, 4, .inl (upd (fun _ => 0) (0 : Int32).toNatClampNeg b))), ((q 204), .inl (k 1, 4, .inl (upd (fun _ => -1) (0 : Int32).toNatClampNeg (nI w0)))), ((q 205), .inl (k 2, 240, .inr (.inl (fun _ => 0))))] := hD
              refine lv_iconst (v := 0) hx hb dX12_tray_46 (by decide) ?_
              refine lv_istore (lv' := [(4, .int 0), (0, .ref (q 200)), (1, .int 0), (2, .int b), (3, .int (nI w0))]) hx hb dX12_tray_47 hl (by decide) rfl (fun ls hl => ?_)
              have HL : ∀ (r i : Nat) (g : Nat → Int64) (H : Heap) (locs : List Loc) (ls : Array Slot), i + r = w0 → va_P D vwCl [((q 200), .inr (12, [.ref (q 201), .ref (q 202), .int 0, .long 0, .long 1, .ref (q 203), .ref (q 204), .ref (q 205), .ref (q 206), .ref (q 207), .int 0, .int 0, .int 0, .int 0, .int 0, .int 0, .int (-1), .int (-1), .int 0, .int 0, .int 0, .ref (q 208), .int 0, .int 0, .ref (q 209), .ref (q 210), .ref (q 211), .ref (q 212), .ref (q 213), .int 0, .int 0, .ref (q 214), .ref (q 215), .ref (q 216), .int 0, .int 0])), ((q 203), .inl (k 1, 4, .inl (upd (fun _ => 0) (0 : Int32).toNatClampNeg b))), ((q 204), .inl (k 1, 4, .inl (upd (fun _ => -1) (0 : Int32).toNatClampNeg (nI w0)))), ((q 205), .inl (k 2, 240, .inr (.inl g)))] H → va_D A [((q 200), .inr (12, [.ref (q 201), .ref (q 202), .int 0, .long 0, .long 1, .ref (q 203), .ref (q 204), .ref (q 205), .ref (q 206), .ref (q 207), .int 0, .int 0, .int 0, .int 0, .int 0, .int 0, .int (-1), .int (-1), .int 0, .int 0, .int 0, .ref (q 208), .int 0, .int 0, .ref (q 209), .ref (q 210), .ref (q 211), .ref (q 212), .ref (q 213), .int 0, .int 0, .ref (q 214), .ref (q 215), .ref (q 216), .int 0, .int 0])), ((q 203), .inl (k 1, 4, .inl (upd (fun _ => 0) (0 : Int32).toNatClampNeg b))), ((q 204), .inl (k 1, 4, .inl (upd (fun _ => -1) (0 : Int32).toNatClampNeg (nI w0)))), ((q 205), .inl (k 2, 240, .inr (.inl g)))] → va_S A s.heap H locs → lv_has ls 5 [(4, .int (nI i)), (0, .ref (q 200)), (1, .int 0), (2, .int b), (3, .int (nI w0))] → W p l e (rj 8 0 0) s m [.ref (q 200), .int 0, .int b, .int (nI w0)].toArray below meth c H locs 0 0 (MQ below (QW (σ := Unit) (fun _ => some (.int (trA 0 b (nI w0)))) (fun _ => True) (fun _ => []) D A) [.ref (q 200), .int 0, .int b, .int (nI w0)].toArray s 0 0 A) (F0 m 49 ls []) := by
                intro r
                induction r with
                | zero =>
                  intro i g H locs ls hi  hP hD hS hl
                  refine lv_iload hx hb dX12_tray_49 (lv_at hl 0 rfl) ?_
                  refine lv_iload_n hx hb dX12_tray_51 rfl (lv_at hl 4 rfl) ?_
                  refine lv_icmp_ge (tgt := 74) hx hb dX12_tray_52 (by decide) (fun _ => ?_) (fun c => absurd (nI_le (a := w0) (b := i) (by omega) (by omega)) c)
                  refine lv_aload_n hx hb dX12_tray_74 rfl (lv_at hl 1 rfl) ?_
                  refine lv_iconst (v := 0) hx hb dX12_tray_75 (by decide) ?_
                  refine CWV (As := [.int 0]) (rest := []) (wc := [((q 200), .inr (12, [.ref (q 201), .ref (q 202), .int 0, .long 0, .long 1, .ref (q 203), .ref (q 204), .ref (q 205), .ref (q 206), .ref (q 207), .int 0, .int 0, .int 0, .int 0, .int 0, .int 0, .int (-1), .int (-1), .int 0, .int 0, .int 0, .ref (q 208), .int 0, .int 0, .ref (q 209), .ref (q 210), .ref (q 211), .ref (q 212), .ref (q 213), .int 0, .int 0, .ref (q 214), .ref (q 215), .ref (q 216), .int 0, .int 0]))]) (wr := [((q 203), .inl (k 1, 4, .inl (upd (fun _ => 0) (0 : Int32).toNatClampNeg b))), ((q 204), .inl (k 1, 4, .inl (upd (fun _ => -1) (0 : Int32).toNatClampNeg (nI w0)))), ((q 205), .inl (k 2, 240, .inr (.inl g)))]) hx hb hml hown hts hKK hP hD hS hA (m_is0 l D k (q 200) [.ref (q 201), .ref (q 202), .int 0, .long 0, .long 1, .ref (q 203), .ref (q 204), .ref (q 205), .ref (q 206), .ref (q 207), .int 0, .int 0, .int 0, .int 0, .int 0, .int 0, .int (-1), .int (-1), .int 0, .int 0, .int 0, .ref (q 208), .int 0, .int 0, .ref (q 209), .ref (q 210), .ref (q 211), .ref (q 212), .ref (q 213), .int 0, .int 0, .ref (q 214), .ref (q 215), .ref (q 216), .int 0, .int 0] (Nat.le_of_ble_eq_true rfl)) ci_X12_is qm_X12_89 ⟨Nat.le_of_ble_eq_true rfl, Nat.le_of_ble_eq_true rfl⟩ ⟨Nat.le_of_ble_eq_true rfl, Nat.le_of_ble_eq_true rfl⟩ [0] [1, 2, 3] rfl rfl rfl rfl rfl (by decide) 0 rfl rfl rfl hl.1 rfl (Nat.le_of_ble_eq_true rfl) dX12_tray_76 (fun u_10 H locs hφ hP hD hS => ?_)
                  have hP : va_P D vwCl [((q 203), .inl (k 1, 4, .inl (upd (fun _ => 0) (0 : Int32).toNatClampNeg b))), ((q 204), .inl (k 1, 4, .inl (upd (fun _ => -1) (0 : Int32).toNatClampNeg (nI w0)))), ((q 205), .inl (k 2, 240, .inr (.inl g)))] H := hP
                  have hD : va_D A [((q 203), .inl (k 1, 4, .inl (upd (fun _ => 0) (0 : Int32).toNatClampNeg b))), ((q 204), .inl (k 1, 4, .inl (upd (fun _ => -1) (0 : Int32).toNatClampNeg (nI w0)))), ((q 205), .inl (k 2, 240, .inr (.inl g)))] := hD
                  refine W.eq (g2 := F0 m 79 ls [.int 1]) rfl ?_
                  exact EWz hx hb hr hlocks hS () (by simp [trA, hsp, show ¬ bw b 3 = 0 by simp [bw, c_3, c_5], c_1]) rfl trivial nil_P nil_D dX12_tray_79
                | succ r ih =>
                  intro i g H locs ls hi  hP hD hS hl
                  refine lv_iload hx hb dX12_tray_49 (lv_at hl 0 rfl) ?_
                  refine lv_iload_n hx hb dX12_tray_51 rfl (lv_at hl 4 rfl) ?_
                  refine lv_icmp_ge (tgt := 74) hx hb dX12_tray_52 (by decide) (fun c => absurd c (nI_ge (a := i) (b := w0) (by omega) (by omega))) (fun _ => ?_)
                  refine lv_aload_n hx hb dX12_tray_55 rfl (lv_at hl 1 rfl) ?_
                  refine va_get (D := D) (ci := 12) (v := .ref (q 205)) (C := RX12) (T := TX12) (N := 36) hx hb hts iX12 hown hK hP 0 rfl rfl 7 (by decide) (hts _ qf_X12_27) (fun _ h => h) rfl dX12_tray_56 ?_
                  refine lv_bipush (v := 60) hx hb dX12_tray_59 (by decide) ?_
                  refine lv_iload_n hx hb dX12_tray_61 rfl (lv_at hl 2 rfl) ?_
                  refine lv_imul hx hb dX12_tray_62 ?_
                  refine lv_topi (fun x_11 ex_11 => ?_)
                  obtain rfl : x_11 = 0 := ex_11.trans (by decide +kernel)
                  refine lv_iload hx hb dX12_tray_63 (lv_at hl 0 rfl) ?_
                  refine lv_iadd hx hb dX12_tray_65 ?_
                  refine lv_topi (fun x_12 ex_12 => ?_)
                  obtain rfl : x_12 = nI (0 + i) := ex_12.trans (nI_add 0 i)
                  refine lv_lconst (v := 0) hx hb dX12_tray_66 rfl ?_
                  refine va_last hx hb hK hP hD hS 3 2 rfl rfl (vp_in_nI (by omega) (by decide)) dX12_tray_67 (fun H locs hP hD hS => ?_)
                  have hP : va_P D vwCl [((q 200), .inr (12, [.ref (q 201), .ref (q 202), .int 0, .long 0, .long 1, .ref (q 203), .ref (q 204), .ref (q 205), .ref (q 206), .ref (q 207), .int 0, .int 0, .int 0, .int 0, .int 0, .int 0, .int (-1), .int (-1), .int 0, .int 0, .int 0, .ref (q 208), .int 0, .int 0, .ref (q 209), .ref (q 210), .ref (q 211), .ref (q 212), .ref (q 213), .int 0, .int 0, .ref (q 214), .ref (q 215), .ref (q 216), .int 0, .int 0])), ((q 203), .inl (k 1, 4, .inl (upd (fun _ => 0) (0 : Int32).toNatClampNeg b))), ((q 204), .inl (k 1, 4, .inl (upd (fun _ => -1) (0 : Int32).toNatClampNeg (nI w0)))), ((q 205), .inl (k 2, 240, .inr (.inl (vp_updL g (nI (0 + i) : Int32).toNatClampNeg 0))))] H := hP
                  have hD : va_D A [((q 200), .inr (12, [.ref (q 201), .ref (q 202), .int 0, .long 0, .long 1, .ref (q 203), .ref (q 204), .ref (q 205), .ref (q 206), .ref (q 207), .int 0, .int 0, .int 0, .int 0, .int 0, .int 0, .int (-1), .int (-1), .int 0, .int 0, .int 0, .ref (q 208), .int 0, .int 0, .ref (q 209), .ref (q 210), .ref (q 211), .ref (q 212), .ref (q 213), .int 0, .int 0, .ref (q 214), .ref (q 215), .ref (q 216), .int 0, .int 0])), ((q 203), .inl (k 1, 4, .inl (upd (fun _ => 0) (0 : Int32).toNatClampNeg b))), ((q 204), .inl (k 1, 4, .inl (upd (fun _ => -1) (0 : Int32).toNatClampNeg (nI w0)))), ((q 205), .inl (k 2, 240, .inr (.inl (vp_updL g (nI (0 + i) : Int32).toNatClampNeg 0))))] := hD
                  refine lv_iinc (v := nI (i + 1)) (lv' := [(4, .int (nI (i + 1))), (0, .ref (q 200)), (1, .int 0), (2, .int b), (3, .int (nI w0))]) hx hb dX12_tray_68 hl (k := 0) rfl (nI_1 i) (by decide) rfl (fun ls hl => ?_)
                  refine lv_goto (tgt := 49) hx hb dX12_tray_71 (by decide) ?_
                  exact ih (i + 1) _ _ _ _ (by omega)  (hP.sub [0, 1, 2, 3] rfl) (hD.sub [0, 1, 2, 3] rfl rfl) hS (lv_sub hl [0, 1, 2, 3, 4] rfl)
              exact HL w0 0 _ _ _ _ (by omega)  (hP.sub [0, 1, 2, 3] rfl) (hD.sub [0, 1, 2, 3] rfl rfl) hS (lv_sub hl [0, 1, 2, 3, 4] rfl)
            ·
              refine lv_aload_n hx hb dX12_tray_26 rfl (lv_at hl 0 rfl) ?_
              refine lv_iconst (v := 1) hx hb dX12_tray_27 (by decide) ?_
              refine CWV (As := [.int 1]) (rest := []) (wc := [((q 200), .inr (12, [.ref (q 201), .ref (q 202), .int 0, .long 0, .long 1, .ref (q 203), .ref (q 204), .ref (q 205), .ref (q 206), .ref (q 207), .int 0, .int 0, .int 0, .int 0, .int 0, .int 0, .int (-1), .int (-1), .int 0, .int 0, .int 0, .ref (q 208), .int 0, .int 0, .ref (q 209), .ref (q 210), .ref (q 211), .ref (q 212), .ref (q 213), .int 0, .int 0, .ref (q 214), .ref (q 215), .ref (q 216), .int 0, .int 0]))]) (wr := [((q 203), .inl (k 1, 4, .inl (fun _ => 0))), ((q 204), .inl (k 1, 4, .inl (fun _ => -1))), ((q 205), .inl (k 2, 240, .inr (.inl (fun _ => 0))))]) hx hb hml hown hts hKK hP hD hS hA (m_is1 l D k (q 200) [.ref (q 201), .ref (q 202), .int 0, .long 0, .long 1, .ref (q 203), .ref (q 204), .ref (q 205), .ref (q 206), .ref (q 207), .int 0, .int 0, .int 0, .int 0, .int 0, .int 0, .int (-1), .int (-1), .int 0, .int 0, .int 0, .ref (q 208), .int 0, .int 0, .ref (q 209), .ref (q 210), .ref (q 211), .ref (q 212), .ref (q 213), .int 0, .int 0, .ref (q 214), .ref (q 215), .ref (q 216), .int 0, .int 0] (Nat.le_of_ble_eq_true rfl) 1 (by decide)) ci_X12_is qm_X12_89 ⟨Nat.le_of_ble_eq_true rfl, Nat.le_of_ble_eq_true rfl⟩ ⟨Nat.le_of_ble_eq_true rfl, Nat.le_of_ble_eq_true rfl⟩ [0] [1, 2, 3] rfl rfl rfl rfl rfl (by decide) 0 rfl rfl rfl hl.1 rfl (Nat.le_of_ble_eq_true rfl) dX12_tray_28 (fun u_13 H locs hφ hP hD hS => ?_)
              have hP : va_P D vwCl [((q 203), .inl (k 1, 4, .inl (fun _ => 0))), ((q 204), .inl (k 1, 4, .inl (fun _ => -1))), ((q 205), .inl (k 2, 240, .inr (.inl (fun _ => 0))))] H := hP
              have hD : va_D A [((q 203), .inl (k 1, 4, .inl (fun _ => 0))), ((q 204), .inl (k 1, 4, .inl (fun _ => -1))), ((q 205), .inl (k 2, 240, .inr (.inl (fun _ => 0))))] := hD
              refine W.eq (g2 := F0 m 31 ls [.int 0]) rfl ?_
              exact EWz hx hb hr hlocks hS () (by simp [trA, c_1, bw, c_1, c_3, c_5, c_7, c_9, Int32.not_le.mp c_9]) rfl trivial nil_P nil_D dX12_tray_31
    ·
      refine lv_iload_n hx hb dX12_tray_7 rfl (lv_at hl 2 rfl) ?_
      refine lv_if_lt (tgt := 26) hx hb dX12_tray_8 (by decide) (fun c_14 => ?_) (fun c_14 => ?_)
      ·
        refine lv_aload_n hx hb dX12_tray_26 rfl (lv_at hl 0 rfl) ?_
        refine lv_iconst (v := 1) hx hb dX12_tray_27 (by decide) ?_
        refine CWV (As := [.int 1]) (rest := []) (wc := [((q 200), .inr (12, [.ref (q 201), .ref (q 202), .int 0, .long 0, .long 1, .ref (q 203), .ref (q 204), .ref (q 205), .ref (q 206), .ref (q 207), .int 0, .int 0, .int 0, .int 0, .int 0, .int 0, .int (-1), .int (-1), .int 0, .int 0, .int 0, .ref (q 208), .int 0, .int 0, .ref (q 209), .ref (q 210), .ref (q 211), .ref (q 212), .ref (q 213), .int 0, .int 0, .ref (q 214), .ref (q 215), .ref (q 216), .int 0, .int 0]))]) (wr := [((q 203), .inl (k 1, 4, .inl (fun _ => 0))), ((q 204), .inl (k 1, 4, .inl (fun _ => -1))), ((q 205), .inl (k 2, 240, .inr (.inl (fun _ => 0))))]) hx hb hml hown hts hKK hP hD hS hA (m_is1 l D k (q 200) [.ref (q 201), .ref (q 202), .int 0, .long 0, .long 1, .ref (q 203), .ref (q 204), .ref (q 205), .ref (q 206), .ref (q 207), .int 0, .int 0, .int 0, .int 0, .int 0, .int 0, .int (-1), .int (-1), .int 0, .int 0, .int 0, .ref (q 208), .int 0, .int 0, .ref (q 209), .ref (q 210), .ref (q 211), .ref (q 212), .ref (q 213), .int 0, .int 0, .ref (q 214), .ref (q 215), .ref (q 216), .int 0, .int 0] (Nat.le_of_ble_eq_true rfl) 1 (by decide)) ci_X12_is qm_X12_89 ⟨Nat.le_of_ble_eq_true rfl, Nat.le_of_ble_eq_true rfl⟩ ⟨Nat.le_of_ble_eq_true rfl, Nat.le_of_ble_eq_true rfl⟩ [0] [1, 2, 3] rfl rfl rfl rfl rfl (by decide) 0 rfl rfl rfl hl.1 rfl (Nat.le_of_ble_eq_true rfl) dX12_tray_28 (fun u_15 H locs hφ hP hD hS => ?_)
        have hP : va_P D vwCl [((q 203), .inl (k 1, 4, .inl (fun _ => 0))), ((q 204), .inl (k 1, 4, .inl (fun _ => -1))), ((q 205), .inl (k 2, 240, .inr (.inl (fun _ => 0))))] H := hP
        have hD : va_D A [((q 203), .inl (k 1, 4, .inl (fun _ => 0))), ((q 204), .inl (k 1, 4, .inl (fun _ => -1))), ((q 205), .inl (k 2, 240, .inr (.inl (fun _ => 0))))] := hD
        refine W.eq (g2 := F0 m 31 ls [.int 0]) rfl ?_
        exact EWz hx hb hr hlocks hS () (by simp [trA, c_1, bw, c_1, c_14]) rfl trivial nil_P nil_D dX12_tray_31
      ·
        refine lv_iload_n hx hb dX12_tray_11 rfl (lv_at hl 2 rfl) ?_
        refine lv_iconst (v := 3) hx hb dX12_tray_12 (by decide) ?_
        refine lv_icmp_gt (tgt := 26) hx hb dX12_tray_13 (by decide) (fun c_16 => ?_) (fun c_16 => ?_)
        ·
          refine lv_aload_n hx hb dX12_tray_26 rfl (lv_at hl 0 rfl) ?_
          refine lv_iconst (v := 1) hx hb dX12_tray_27 (by decide) ?_
          refine CWV (As := [.int 1]) (rest := []) (wc := [((q 200), .inr (12, [.ref (q 201), .ref (q 202), .int 0, .long 0, .long 1, .ref (q 203), .ref (q 204), .ref (q 205), .ref (q 206), .ref (q 207), .int 0, .int 0, .int 0, .int 0, .int 0, .int 0, .int (-1), .int (-1), .int 0, .int 0, .int 0, .ref (q 208), .int 0, .int 0, .ref (q 209), .ref (q 210), .ref (q 211), .ref (q 212), .ref (q 213), .int 0, .int 0, .ref (q 214), .ref (q 215), .ref (q 216), .int 0, .int 0]))]) (wr := [((q 203), .inl (k 1, 4, .inl (fun _ => 0))), ((q 204), .inl (k 1, 4, .inl (fun _ => -1))), ((q 205), .inl (k 2, 240, .inr (.inl (fun _ => 0))))]) hx hb hml hown hts hKK hP hD hS hA (m_is1 l D k (q 200) [.ref (q 201), .ref (q 202), .int 0, .long 0, .long 1, .ref (q 203), .ref (q 204), .ref (q 205), .ref (q 206), .ref (q 207), .int 0, .int 0, .int 0, .int 0, .int 0, .int 0, .int (-1), .int (-1), .int 0, .int 0, .int 0, .ref (q 208), .int 0, .int 0, .ref (q 209), .ref (q 210), .ref (q 211), .ref (q 212), .ref (q 213), .int 0, .int 0, .ref (q 214), .ref (q 215), .ref (q 216), .int 0, .int 0] (Nat.le_of_ble_eq_true rfl) 1 (by decide)) ci_X12_is qm_X12_89 ⟨Nat.le_of_ble_eq_true rfl, Nat.le_of_ble_eq_true rfl⟩ ⟨Nat.le_of_ble_eq_true rfl, Nat.le_of_ble_eq_true rfl⟩ [0] [1, 2, 3] rfl rfl rfl rfl rfl (by decide) 0 rfl rfl rfl hl.1 rfl (Nat.le_of_ble_eq_true rfl) dX12_tray_28 (fun u_17 H locs hφ hP hD hS => ?_)
          have hP : va_P D vwCl [((q 203), .inl (k 1, 4, .inl (fun _ => 0))), ((q 204), .inl (k 1, 4, .inl (fun _ => -1))), ((q 205), .inl (k 2, 240, .inr (.inl (fun _ => 0))))] H := hP
          have hD : va_D A [((q 203), .inl (k 1, 4, .inl (fun _ => 0))), ((q 204), .inl (k 1, 4, .inl (fun _ => -1))), ((q 205), .inl (k 2, 240, .inr (.inl (fun _ => 0))))] := hD
          refine W.eq (g2 := F0 m 31 ls [.int 0]) rfl ?_
          exact EWz hx hb hr hlocks hS () (by simp [trA, c_1, bw, c_1, c_14, c_16]) rfl trivial nil_P nil_D dX12_tray_31
        ·
          refine lv_iload_n hx hb dX12_tray_16 rfl (lv_at hl 3 rfl) ?_
          refine lv_if_lt (tgt := 26) hx hb dX12_tray_17 (by decide) (fun c_18 => ?_) (fun c_18 => ?_)
          ·
            refine lv_aload_n hx hb dX12_tray_26 rfl (lv_at hl 0 rfl) ?_
            refine lv_iconst (v := 1) hx hb dX12_tray_27 (by decide) ?_
            refine CWV (As := [.int 1]) (rest := []) (wc := [((q 200), .inr (12, [.ref (q 201), .ref (q 202), .int 0, .long 0, .long 1, .ref (q 203), .ref (q 204), .ref (q 205), .ref (q 206), .ref (q 207), .int 0, .int 0, .int 0, .int 0, .int 0, .int 0, .int (-1), .int (-1), .int 0, .int 0, .int 0, .ref (q 208), .int 0, .int 0, .ref (q 209), .ref (q 210), .ref (q 211), .ref (q 212), .ref (q 213), .int 0, .int 0, .ref (q 214), .ref (q 215), .ref (q 216), .int 0, .int 0]))]) (wr := [((q 203), .inl (k 1, 4, .inl (fun _ => 0))), ((q 204), .inl (k 1, 4, .inl (fun _ => -1))), ((q 205), .inl (k 2, 240, .inr (.inl (fun _ => 0))))]) hx hb hml hown hts hKK hP hD hS hA (m_is1 l D k (q 200) [.ref (q 201), .ref (q 202), .int 0, .long 0, .long 1, .ref (q 203), .ref (q 204), .ref (q 205), .ref (q 206), .ref (q 207), .int 0, .int 0, .int 0, .int 0, .int 0, .int 0, .int (-1), .int (-1), .int 0, .int 0, .int 0, .ref (q 208), .int 0, .int 0, .ref (q 209), .ref (q 210), .ref (q 211), .ref (q 212), .ref (q 213), .int 0, .int 0, .ref (q 214), .ref (q 215), .ref (q 216), .int 0, .int 0] (Nat.le_of_ble_eq_true rfl) 1 (by decide)) ci_X12_is qm_X12_89 ⟨Nat.le_of_ble_eq_true rfl, Nat.le_of_ble_eq_true rfl⟩ ⟨Nat.le_of_ble_eq_true rfl, Nat.le_of_ble_eq_true rfl⟩ [0] [1, 2, 3] rfl rfl rfl rfl rfl (by decide) 0 rfl rfl rfl hl.1 rfl (Nat.le_of_ble_eq_true rfl) dX12_tray_28 (fun u_19 H locs hφ hP hD hS => ?_)
            have hP : va_P D vwCl [((q 203), .inl (k 1, 4, .inl (fun _ => 0))), ((q 204), .inl (k 1, 4, .inl (fun _ => -1))), ((q 205), .inl (k 2, 240, .inr (.inl (fun _ => 0))))] H := hP
            have hD : va_D A [((q 203), .inl (k 1, 4, .inl (fun _ => 0))), ((q 204), .inl (k 1, 4, .inl (fun _ => -1))), ((q 205), .inl (k 2, 240, .inr (.inl (fun _ => 0))))] := hD
            refine W.eq (g2 := F0 m 31 ls [.int 0]) rfl ?_
            exact EWz hx hb hr hlocks hS () (by simp [trA, c_1, bw, c_1, c_14, c_16, c_18]) rfl trivial nil_P nil_D dX12_tray_31
          ·
            refine lv_iload_n hx hb dX12_tray_20 rfl (lv_at hl 3 rfl) ?_
            refine lv_bipush (v := 60) hx hb dX12_tray_21 (by decide) ?_
            refine lv_icmp_le (tgt := 32) hx hb dX12_tray_23 (by decide) (fun c_20 => ?_) (fun c_20 => ?_)
            ·
              have hsp := c1_sp c_18 c_20
              obtain ⟨w0, hw0, rfl⟩ := nI_of2 (M := 60) (n := 60) rfl c_18 c_20
              refine lv_aload_n hx hb dX12_tray_32 rfl (lv_at hl 0 rfl) ?_
              refine va_get (D := D) (ci := 12) (v := .ref (q 203)) (C := RX12) (T := TX12) (N := 36) hx hb hts iX12 hown hK hP 0 rfl rfl 5 (by decide) (hts _ qf_X12_21) (fun _ h => h) rfl dX12_tray_33 ?_
              refine lv_iload_n hx hb dX12_tray_36 rfl (lv_at hl 1 rfl) ?_
              refine lv_iload_n hx hb dX12_tray_37 rfl (lv_at hl 2 rfl) ?_
              refine va_iast hx hb hK hP hD hS 1 1 rfl rfl (xin 1 4 rfl (by decide) (by decide)) dX12_tray_38 (fun H locs hP hD hS => ?_)
              have hP : va_P D vwCl [((q 200), .inr (12, [.ref (q 201), .ref (q 202), .int 0, .long 0, .long 1, .ref (q 203), .ref (q 204), .ref (q 205), .ref (q 206), .ref (q 207), .int 0, .int 0, .int 0, .int 0, .int 0, .int 0, .int (-1), .int (-1), .int 0, .int 0, .int 0, .ref (q 208), .int 0, .int 0, .ref (q 209), .ref (q 210), .ref (q 211), .ref (q 212), .ref (q 213), .int 0, .int 0, .ref (q 214), .ref (q 215), .ref (q 216), .int 0, .int 0])), ((q 203), .inl (k 1, 4, .inl (upd (fun _ => 0) (1 : Int32).toNatClampNeg b))), ((q 204), .inl (k 1, 4, .inl (fun _ => -1))), ((q 205), .inl (k 2, 240, .inr (.inl (fun _ => 0))))] H := hP
              have hD : va_D A [((q 200), .inr (12, [.ref (q 201), .ref (q 202), .int 0, .long 0, .long 1, .ref (q 203), .ref (q 204), .ref (q 205), .ref (q 206), .ref (q 207), .int 0, .int 0, .int 0, .int 0, .int 0, .int 0, .int (-1), .int (-1), .int 0, .int 0, .int 0, .ref (q 208), .int 0, .int 0, .ref (q 209), .ref (q 210), .ref (q 211), .ref (q 212), .ref (q 213), .int 0, .int 0, .ref (q 214), .ref (q 215), .ref (q 216), .int 0, .int 0])), ((q 203), .inl (k 1, 4, .inl (upd (fun _ => 0) (1 : Int32).toNatClampNeg b))), ((q 204), .inl (k 1, 4, .inl (fun _ => -1))), ((q 205), .inl (k 2, 240, .inr (.inl (fun _ => 0))))] := hD
              refine lv_aload_n hx hb dX12_tray_39 rfl (lv_at hl 0 rfl) ?_
              refine va_get (D := D) (ci := 12) (v := .ref (q 204)) (C := RX12) (T := TX12) (N := 36) hx hb hts iX12 hown hK hP 0 rfl rfl 6 (by decide) (hts _ qf_X12_24) (fun _ h => h) rfl dX12_tray_40 ?_
              refine lv_iload_n hx hb dX12_tray_43 rfl (lv_at hl 1 rfl) ?_
              refine lv_iload_n hx hb dX12_tray_44 rfl (lv_at hl 3 rfl) ?_
              refine va_iast hx hb hK hP hD hS 2 1 rfl rfl (xin 1 4 rfl (by decide) (by decide)) dX12_tray_45 (fun H locs hP hD hS => ?_)
              have hP : va_P D vwCl [((q 200), .inr (12, [.ref (q 201), .ref (q 202), .int 0, .long 0, .long 1, .ref (q 203), .ref (q 204), .ref (q 205), .ref (q 206), .ref (q 207), .int 0, .int 0, .int 0, .int 0, .int 0, .int 0, .int (-1), .int (-1), .int 0, .int 0, .int 0, .ref (q 208), .int 0, .int 0, .ref (q 209), .ref (q 210), .ref (q 211), .ref (q 212), .ref (q 213), .int 0, .int 0, .ref (q 214), .ref (q 215), .ref (q 216), .int 0, .int 0])), ((q 203), .inl (k 1, 4, .inl (upd (fun _ => 0) (1 : Int32).toNatClampNeg b))), ((q 204), .inl (k 1, 4, .inl (upd (fun _ => -1) (1 : Int32).toNatClampNeg (nI w0)))), ((q 205), .inl (k 2, 240, .inr (.inl (fun _ => 0))))] H := hP
              have hD : va_D A [((q 200), .inr (12, [.ref (q 201), .ref (q 202), .int 0, .long 0, .long 1, .ref (q 203), .ref (q 204), .ref (q 205), .ref (q 206), .ref (q 207), .int 0, .int 0, .int 0, .int 0, .int 0, .int 0, .int (-1), .int (-1), .int 0, .int 0, .int 0, .ref (q 208), .int 0, .int 0, .ref (q 209), .ref (q 210), .ref (q 211), .ref (q 212), .ref (q 213), .int 0, .int 0, .ref (q 214), .ref (q 215), .ref (q 216), .int 0, .int 0])), ((q 203), .inl (k 1, 4, .inl (upd (fun _ => 0) (1 : Int32).toNatClampNeg b))), ((q 204), .inl (k 1, 4, .inl (upd (fun _ => -1) (1 : Int32).toNatClampNeg (nI w0)))), ((q 205), .inl (k 2, 240, .inr (.inl (fun _ => 0))))] := hD
              refine lv_iconst (v := 0) hx hb dX12_tray_46 (by decide) ?_
              refine lv_istore (lv' := [(4, .int 0), (0, .ref (q 200)), (1, .int 1), (2, .int b), (3, .int (nI w0))]) hx hb dX12_tray_47 hl (by decide) rfl (fun ls hl => ?_)
              have HL : ∀ (r i : Nat) (g : Nat → Int64) (H : Heap) (locs : List Loc) (ls : Array Slot), i + r = w0 → va_P D vwCl [((q 200), .inr (12, [.ref (q 201), .ref (q 202), .int 0, .long 0, .long 1, .ref (q 203), .ref (q 204), .ref (q 205), .ref (q 206), .ref (q 207), .int 0, .int 0, .int 0, .int 0, .int 0, .int 0, .int (-1), .int (-1), .int 0, .int 0, .int 0, .ref (q 208), .int 0, .int 0, .ref (q 209), .ref (q 210), .ref (q 211), .ref (q 212), .ref (q 213), .int 0, .int 0, .ref (q 214), .ref (q 215), .ref (q 216), .int 0, .int 0])), ((q 203), .inl (k 1, 4, .inl (upd (fun _ => 0) (1 : Int32).toNatClampNeg b))), ((q 204), .inl (k 1, 4, .inl (upd (fun _ => -1) (1 : Int32).toNatClampNeg (nI w0)))), ((q 205), .inl (k 2, 240, .inr (.inl g)))] H → va_D A [((q 200), .inr (12, [.ref (q 201), .ref (q 202), .int 0, .long 0, .long 1, .ref (q 203), .ref (q 204), .ref (q 205), .ref (q 206), .ref (q 207), .int 0, .int 0, .int 0, .int 0, .int 0, .int 0, .int (-1), .int (-1), .int 0, .int 0, .int 0, .ref (q 208), .int 0, .int 0, .ref (q 209), .ref (q 210), .ref (q 211), .ref (q 212), .ref (q 213), .int 0, .int 0, .ref (q 214), .ref (q 215), .ref (q 216), .int 0, .int 0])), ((q 203), .inl (k 1, 4, .inl (upd (fun _ => 0) (1 : Int32).toNatClampNeg b))), ((q 204), .inl (k 1, 4, .inl (upd (fun _ => -1) (1 : Int32).toNatClampNeg (nI w0)))), ((q 205), .inl (k 2, 240, .inr (.inl g)))] → va_S A s.heap H locs → lv_has ls 5 [(4, .int (nI i)), (0, .ref (q 200)), (1, .int 1), (2, .int b), (3, .int (nI w0))] → W p l e (rj 8 0 0) s m [.ref (q 200), .int 1, .int b, .int (nI w0)].toArray below meth c H locs 0 0 (MQ below (QW (σ := Unit) (fun _ => some (.int (trA 1 b (nI w0)))) (fun _ => True) (fun _ => []) D A) [.ref (q 200), .int 1, .int b, .int (nI w0)].toArray s 0 0 A) (F0 m 49 ls []) := by
                intro r
                induction r with
                | zero =>
                  intro i g H locs ls hi  hP hD hS hl
                  refine lv_iload hx hb dX12_tray_49 (lv_at hl 0 rfl) ?_
                  refine lv_iload_n hx hb dX12_tray_51 rfl (lv_at hl 4 rfl) ?_
                  refine lv_icmp_ge (tgt := 74) hx hb dX12_tray_52 (by decide) (fun _ => ?_) (fun c => absurd (nI_le (a := w0) (b := i) (by omega) (by omega)) c)
                  refine lv_aload_n hx hb dX12_tray_74 rfl (lv_at hl 1 rfl) ?_
                  refine lv_iconst (v := 0) hx hb dX12_tray_75 (by decide) ?_
                  refine CWV (As := [.int 0]) (rest := []) (wc := [((q 200), .inr (12, [.ref (q 201), .ref (q 202), .int 0, .long 0, .long 1, .ref (q 203), .ref (q 204), .ref (q 205), .ref (q 206), .ref (q 207), .int 0, .int 0, .int 0, .int 0, .int 0, .int 0, .int (-1), .int (-1), .int 0, .int 0, .int 0, .ref (q 208), .int 0, .int 0, .ref (q 209), .ref (q 210), .ref (q 211), .ref (q 212), .ref (q 213), .int 0, .int 0, .ref (q 214), .ref (q 215), .ref (q 216), .int 0, .int 0]))]) (wr := [((q 203), .inl (k 1, 4, .inl (upd (fun _ => 0) (1 : Int32).toNatClampNeg b))), ((q 204), .inl (k 1, 4, .inl (upd (fun _ => -1) (1 : Int32).toNatClampNeg (nI w0)))), ((q 205), .inl (k 2, 240, .inr (.inl g)))]) hx hb hml hown hts hKK hP hD hS hA (m_is0 l D k (q 200) [.ref (q 201), .ref (q 202), .int 0, .long 0, .long 1, .ref (q 203), .ref (q 204), .ref (q 205), .ref (q 206), .ref (q 207), .int 0, .int 0, .int 0, .int 0, .int 0, .int 0, .int (-1), .int (-1), .int 0, .int 0, .int 0, .ref (q 208), .int 0, .int 0, .ref (q 209), .ref (q 210), .ref (q 211), .ref (q 212), .ref (q 213), .int 0, .int 0, .ref (q 214), .ref (q 215), .ref (q 216), .int 0, .int 0] (Nat.le_of_ble_eq_true rfl)) ci_X12_is qm_X12_89 ⟨Nat.le_of_ble_eq_true rfl, Nat.le_of_ble_eq_true rfl⟩ ⟨Nat.le_of_ble_eq_true rfl, Nat.le_of_ble_eq_true rfl⟩ [0] [1, 2, 3] rfl rfl rfl rfl rfl (by decide) 0 rfl rfl rfl hl.1 rfl (Nat.le_of_ble_eq_true rfl) dX12_tray_76 (fun u_21 H locs hφ hP hD hS => ?_)
                  have hP : va_P D vwCl [((q 203), .inl (k 1, 4, .inl (upd (fun _ => 0) (1 : Int32).toNatClampNeg b))), ((q 204), .inl (k 1, 4, .inl (upd (fun _ => -1) (1 : Int32).toNatClampNeg (nI w0)))), ((q 205), .inl (k 2, 240, .inr (.inl g)))] H := hP
                  have hD : va_D A [((q 203), .inl (k 1, 4, .inl (upd (fun _ => 0) (1 : Int32).toNatClampNeg b))), ((q 204), .inl (k 1, 4, .inl (upd (fun _ => -1) (1 : Int32).toNatClampNeg (nI w0)))), ((q 205), .inl (k 2, 240, .inr (.inl g)))] := hD
                  refine W.eq (g2 := F0 m 79 ls [.int 1]) rfl ?_
                  exact EWz hx hb hr hlocks hS () (by simp [trA, hsp, show ¬ bw b 3 = 0 by simp [bw, c_14, c_16], c_1]) rfl trivial nil_P nil_D dX12_tray_79
                | succ r ih =>
                  intro i g H locs ls hi  hP hD hS hl
                  refine lv_iload hx hb dX12_tray_49 (lv_at hl 0 rfl) ?_
                  refine lv_iload_n hx hb dX12_tray_51 rfl (lv_at hl 4 rfl) ?_
                  refine lv_icmp_ge (tgt := 74) hx hb dX12_tray_52 (by decide) (fun c => absurd c (nI_ge (a := i) (b := w0) (by omega) (by omega))) (fun _ => ?_)
                  refine lv_aload_n hx hb dX12_tray_55 rfl (lv_at hl 1 rfl) ?_
                  refine va_get (D := D) (ci := 12) (v := .ref (q 205)) (C := RX12) (T := TX12) (N := 36) hx hb hts iX12 hown hK hP 0 rfl rfl 7 (by decide) (hts _ qf_X12_27) (fun _ h => h) rfl dX12_tray_56 ?_
                  refine lv_bipush (v := 60) hx hb dX12_tray_59 (by decide) ?_
                  refine lv_iload_n hx hb dX12_tray_61 rfl (lv_at hl 2 rfl) ?_
                  refine lv_imul hx hb dX12_tray_62 ?_
                  refine lv_topi (fun x_22 ex_22 => ?_)
                  obtain rfl : x_22 = 60 := ex_22.trans (by decide +kernel)
                  refine lv_iload hx hb dX12_tray_63 (lv_at hl 0 rfl) ?_
                  refine lv_iadd hx hb dX12_tray_65 ?_
                  refine lv_topi (fun x_23 ex_23 => ?_)
                  obtain rfl : x_23 = nI (60 + i) := ex_23.trans (nI_add 60 i)
                  refine lv_lconst (v := 0) hx hb dX12_tray_66 rfl ?_
                  refine va_last hx hb hK hP hD hS 3 2 rfl rfl (vp_in_nI (by omega) (by decide)) dX12_tray_67 (fun H locs hP hD hS => ?_)
                  have hP : va_P D vwCl [((q 200), .inr (12, [.ref (q 201), .ref (q 202), .int 0, .long 0, .long 1, .ref (q 203), .ref (q 204), .ref (q 205), .ref (q 206), .ref (q 207), .int 0, .int 0, .int 0, .int 0, .int 0, .int 0, .int (-1), .int (-1), .int 0, .int 0, .int 0, .ref (q 208), .int 0, .int 0, .ref (q 209), .ref (q 210), .ref (q 211), .ref (q 212), .ref (q 213), .int 0, .int 0, .ref (q 214), .ref (q 215), .ref (q 216), .int 0, .int 0])), ((q 203), .inl (k 1, 4, .inl (upd (fun _ => 0) (1 : Int32).toNatClampNeg b))), ((q 204), .inl (k 1, 4, .inl (upd (fun _ => -1) (1 : Int32).toNatClampNeg (nI w0)))), ((q 205), .inl (k 2, 240, .inr (.inl (vp_updL g (nI (60 + i) : Int32).toNatClampNeg 0))))] H := hP
                  have hD : va_D A [((q 200), .inr (12, [.ref (q 201), .ref (q 202), .int 0, .long 0, .long 1, .ref (q 203), .ref (q 204), .ref (q 205), .ref (q 206), .ref (q 207), .int 0, .int 0, .int 0, .int 0, .int 0, .int 0, .int (-1), .int (-1), .int 0, .int 0, .int 0, .ref (q 208), .int 0, .int 0, .ref (q 209), .ref (q 210), .ref (q 211), .ref (q 212), .ref (q 213), .int 0, .int 0, .ref (q 214), .ref (q 215), .ref (q 216), .int 0, .int 0])), ((q 203), .inl (k 1, 4, .inl (upd (fun _ => 0) (1 : Int32).toNatClampNeg b))), ((q 204), .inl (k 1, 4, .inl (upd (fun _ => -1) (1 : Int32).toNatClampNeg (nI w0)))), ((q 205), .inl (k 2, 240, .inr (.inl (vp_updL g (nI (60 + i) : Int32).toNatClampNeg 0))))] := hD
                  refine lv_iinc (v := nI (i + 1)) (lv' := [(4, .int (nI (i + 1))), (0, .ref (q 200)), (1, .int 1), (2, .int b), (3, .int (nI w0))]) hx hb dX12_tray_68 hl (k := 0) rfl (nI_1 i) (by decide) rfl (fun ls hl => ?_)
                  refine lv_goto (tgt := 49) hx hb dX12_tray_71 (by decide) ?_
                  exact ih (i + 1) _ _ _ _ (by omega)  (hP.sub [0, 1, 2, 3] rfl) (hD.sub [0, 1, 2, 3] rfl rfl) hS (lv_sub hl [0, 1, 2, 3, 4] rfl)
              exact HL w0 0 _ _ _ _ (by omega)  (hP.sub [0, 1, 2, 3] rfl) (hD.sub [0, 1, 2, 3] rfl rfl) hS (lv_sub hl [0, 1, 2, 3, 4] rfl)
            ·
              refine lv_aload_n hx hb dX12_tray_26 rfl (lv_at hl 0 rfl) ?_
              refine lv_iconst (v := 1) hx hb dX12_tray_27 (by decide) ?_
              refine CWV (As := [.int 1]) (rest := []) (wc := [((q 200), .inr (12, [.ref (q 201), .ref (q 202), .int 0, .long 0, .long 1, .ref (q 203), .ref (q 204), .ref (q 205), .ref (q 206), .ref (q 207), .int 0, .int 0, .int 0, .int 0, .int 0, .int 0, .int (-1), .int (-1), .int 0, .int 0, .int 0, .ref (q 208), .int 0, .int 0, .ref (q 209), .ref (q 210), .ref (q 211), .ref (q 212), .ref (q 213), .int 0, .int 0, .ref (q 214), .ref (q 215), .ref (q 216), .int 0, .int 0]))]) (wr := [((q 203), .inl (k 1, 4, .inl (fun _ => 0))), ((q 204), .inl (k 1, 4, .inl (fun _ => -1))), ((q 205), .inl (k 2, 240, .inr (.inl (fun _ => 0))))]) hx hb hml hown hts hKK hP hD hS hA (m_is1 l D k (q 200) [.ref (q 201), .ref (q 202), .int 0, .long 0, .long 1, .ref (q 203), .ref (q 204), .ref (q 205), .ref (q 206), .ref (q 207), .int 0, .int 0, .int 0, .int 0, .int 0, .int 0, .int (-1), .int (-1), .int 0, .int 0, .int 0, .ref (q 208), .int 0, .int 0, .ref (q 209), .ref (q 210), .ref (q 211), .ref (q 212), .ref (q 213), .int 0, .int 0, .ref (q 214), .ref (q 215), .ref (q 216), .int 0, .int 0] (Nat.le_of_ble_eq_true rfl) 1 (by decide)) ci_X12_is qm_X12_89 ⟨Nat.le_of_ble_eq_true rfl, Nat.le_of_ble_eq_true rfl⟩ ⟨Nat.le_of_ble_eq_true rfl, Nat.le_of_ble_eq_true rfl⟩ [0] [1, 2, 3] rfl rfl rfl rfl rfl (by decide) 0 rfl rfl rfl hl.1 rfl (Nat.le_of_ble_eq_true rfl) dX12_tray_28 (fun u_24 H locs hφ hP hD hS => ?_)
              have hP : va_P D vwCl [((q 203), .inl (k 1, 4, .inl (fun _ => 0))), ((q 204), .inl (k 1, 4, .inl (fun _ => -1))), ((q 205), .inl (k 2, 240, .inr (.inl (fun _ => 0))))] H := hP
              have hD : va_D A [((q 203), .inl (k 1, 4, .inl (fun _ => 0))), ((q 204), .inl (k 1, 4, .inl (fun _ => -1))), ((q 205), .inl (k 2, 240, .inr (.inl (fun _ => 0))))] := hD
              refine W.eq (g2 := F0 m 31 ls [.int 0]) rfl ?_
              exact EWz hx hb hr hlocks hS () (by simp [trA, c_1, bw, c_1, c_14, c_16, c_18, c_20, Int32.not_le.mp c_20]) rfl trivial nil_P nil_D dX12_tray_31
    ·
      refine lv_iload_n hx hb dX12_tray_7 rfl (lv_at hl 2 rfl) ?_
      refine lv_if_lt (tgt := 26) hx hb dX12_tray_8 (by decide) (fun c_25 => ?_) (fun c_25 => ?_)
      ·
        refine lv_aload_n hx hb dX12_tray_26 rfl (lv_at hl 0 rfl) ?_
        refine lv_iconst (v := 1) hx hb dX12_tray_27 (by decide) ?_
        refine CWV (As := [.int 1]) (rest := []) (wc := [((q 200), .inr (12, [.ref (q 201), .ref (q 202), .int 0, .long 0, .long 1, .ref (q 203), .ref (q 204), .ref (q 205), .ref (q 206), .ref (q 207), .int 0, .int 0, .int 0, .int 0, .int 0, .int 0, .int (-1), .int (-1), .int 0, .int 0, .int 0, .ref (q 208), .int 0, .int 0, .ref (q 209), .ref (q 210), .ref (q 211), .ref (q 212), .ref (q 213), .int 0, .int 0, .ref (q 214), .ref (q 215), .ref (q 216), .int 0, .int 0]))]) (wr := [((q 203), .inl (k 1, 4, .inl (fun _ => 0))), ((q 204), .inl (k 1, 4, .inl (fun _ => -1))), ((q 205), .inl (k 2, 240, .inr (.inl (fun _ => 0))))]) hx hb hml hown hts hKK hP hD hS hA (m_is1 l D k (q 200) [.ref (q 201), .ref (q 202), .int 0, .long 0, .long 1, .ref (q 203), .ref (q 204), .ref (q 205), .ref (q 206), .ref (q 207), .int 0, .int 0, .int 0, .int 0, .int 0, .int 0, .int (-1), .int (-1), .int 0, .int 0, .int 0, .ref (q 208), .int 0, .int 0, .ref (q 209), .ref (q 210), .ref (q 211), .ref (q 212), .ref (q 213), .int 0, .int 0, .ref (q 214), .ref (q 215), .ref (q 216), .int 0, .int 0] (Nat.le_of_ble_eq_true rfl) 1 (by decide)) ci_X12_is qm_X12_89 ⟨Nat.le_of_ble_eq_true rfl, Nat.le_of_ble_eq_true rfl⟩ ⟨Nat.le_of_ble_eq_true rfl, Nat.le_of_ble_eq_true rfl⟩ [0] [1, 2, 3] rfl rfl rfl rfl rfl (by decide) 0 rfl rfl rfl hl.1 rfl (Nat.le_of_ble_eq_true rfl) dX12_tray_28 (fun u_26 H locs hφ hP hD hS => ?_)
        have hP : va_P D vwCl [((q 203), .inl (k 1, 4, .inl (fun _ => 0))), ((q 204), .inl (k 1, 4, .inl (fun _ => -1))), ((q 205), .inl (k 2, 240, .inr (.inl (fun _ => 0))))] H := hP
        have hD : va_D A [((q 203), .inl (k 1, 4, .inl (fun _ => 0))), ((q 204), .inl (k 1, 4, .inl (fun _ => -1))), ((q 205), .inl (k 2, 240, .inr (.inl (fun _ => 0))))] := hD
        refine W.eq (g2 := F0 m 31 ls [.int 0]) rfl ?_
        exact EWz hx hb hr hlocks hS () (by simp [trA, c_1, bw, c_1, c_25]) rfl trivial nil_P nil_D dX12_tray_31
      ·
        refine lv_iload_n hx hb dX12_tray_11 rfl (lv_at hl 2 rfl) ?_
        refine lv_iconst (v := 3) hx hb dX12_tray_12 (by decide) ?_
        refine lv_icmp_gt (tgt := 26) hx hb dX12_tray_13 (by decide) (fun c_27 => ?_) (fun c_27 => ?_)
        ·
          refine lv_aload_n hx hb dX12_tray_26 rfl (lv_at hl 0 rfl) ?_
          refine lv_iconst (v := 1) hx hb dX12_tray_27 (by decide) ?_
          refine CWV (As := [.int 1]) (rest := []) (wc := [((q 200), .inr (12, [.ref (q 201), .ref (q 202), .int 0, .long 0, .long 1, .ref (q 203), .ref (q 204), .ref (q 205), .ref (q 206), .ref (q 207), .int 0, .int 0, .int 0, .int 0, .int 0, .int 0, .int (-1), .int (-1), .int 0, .int 0, .int 0, .ref (q 208), .int 0, .int 0, .ref (q 209), .ref (q 210), .ref (q 211), .ref (q 212), .ref (q 213), .int 0, .int 0, .ref (q 214), .ref (q 215), .ref (q 216), .int 0, .int 0]))]) (wr := [((q 203), .inl (k 1, 4, .inl (fun _ => 0))), ((q 204), .inl (k 1, 4, .inl (fun _ => -1))), ((q 205), .inl (k 2, 240, .inr (.inl (fun _ => 0))))]) hx hb hml hown hts hKK hP hD hS hA (m_is1 l D k (q 200) [.ref (q 201), .ref (q 202), .int 0, .long 0, .long 1, .ref (q 203), .ref (q 204), .ref (q 205), .ref (q 206), .ref (q 207), .int 0, .int 0, .int 0, .int 0, .int 0, .int 0, .int (-1), .int (-1), .int 0, .int 0, .int 0, .ref (q 208), .int 0, .int 0, .ref (q 209), .ref (q 210), .ref (q 211), .ref (q 212), .ref (q 213), .int 0, .int 0, .ref (q 214), .ref (q 215), .ref (q 216), .int 0, .int 0] (Nat.le_of_ble_eq_true rfl) 1 (by decide)) ci_X12_is qm_X12_89 ⟨Nat.le_of_ble_eq_true rfl, Nat.le_of_ble_eq_true rfl⟩ ⟨Nat.le_of_ble_eq_true rfl, Nat.le_of_ble_eq_true rfl⟩ [0] [1, 2, 3] rfl rfl rfl rfl rfl (by decide) 0 rfl rfl rfl hl.1 rfl (Nat.le_of_ble_eq_true rfl) dX12_tray_28 (fun u_28 H locs hφ hP hD hS => ?_)
          have hP : va_P D vwCl [((q 203), .inl (k 1, 4, .inl (fun _ => 0))), ((q 204), .inl (k 1, 4, .inl (fun _ => -1))), ((q 205), .inl (k 2, 240, .inr (.inl (fun _ => 0))))] H := hP
          have hD : va_D A [((q 203), .inl (k 1, 4, .inl (fun _ => 0))), ((q 204), .inl (k 1, 4, .inl (fun _ => -1))), ((q 205), .inl (k 2, 240, .inr (.inl (fun _ => 0))))] := hD
          refine W.eq (g2 := F0 m 31 ls [.int 0]) rfl ?_
          exact EWz hx hb hr hlocks hS () (by simp [trA, c_1, bw, c_1, c_25, c_27]) rfl trivial nil_P nil_D dX12_tray_31
        ·
          refine lv_iload_n hx hb dX12_tray_16 rfl (lv_at hl 3 rfl) ?_
          refine lv_if_lt (tgt := 26) hx hb dX12_tray_17 (by decide) (fun c_29 => ?_) (fun c_29 => ?_)
          ·
            refine lv_aload_n hx hb dX12_tray_26 rfl (lv_at hl 0 rfl) ?_
            refine lv_iconst (v := 1) hx hb dX12_tray_27 (by decide) ?_
            refine CWV (As := [.int 1]) (rest := []) (wc := [((q 200), .inr (12, [.ref (q 201), .ref (q 202), .int 0, .long 0, .long 1, .ref (q 203), .ref (q 204), .ref (q 205), .ref (q 206), .ref (q 207), .int 0, .int 0, .int 0, .int 0, .int 0, .int 0, .int (-1), .int (-1), .int 0, .int 0, .int 0, .ref (q 208), .int 0, .int 0, .ref (q 209), .ref (q 210), .ref (q 211), .ref (q 212), .ref (q 213), .int 0, .int 0, .ref (q 214), .ref (q 215), .ref (q 216), .int 0, .int 0]))]) (wr := [((q 203), .inl (k 1, 4, .inl (fun _ => 0))), ((q 204), .inl (k 1, 4, .inl (fun _ => -1))), ((q 205), .inl (k 2, 240, .inr (.inl (fun _ => 0))))]) hx hb hml hown hts hKK hP hD hS hA (m_is1 l D k (q 200) [.ref (q 201), .ref (q 202), .int 0, .long 0, .long 1, .ref (q 203), .ref (q 204), .ref (q 205), .ref (q 206), .ref (q 207), .int 0, .int 0, .int 0, .int 0, .int 0, .int 0, .int (-1), .int (-1), .int 0, .int 0, .int 0, .ref (q 208), .int 0, .int 0, .ref (q 209), .ref (q 210), .ref (q 211), .ref (q 212), .ref (q 213), .int 0, .int 0, .ref (q 214), .ref (q 215), .ref (q 216), .int 0, .int 0] (Nat.le_of_ble_eq_true rfl) 1 (by decide)) ci_X12_is qm_X12_89 ⟨Nat.le_of_ble_eq_true rfl, Nat.le_of_ble_eq_true rfl⟩ ⟨Nat.le_of_ble_eq_true rfl, Nat.le_of_ble_eq_true rfl⟩ [0] [1, 2, 3] rfl rfl rfl rfl rfl (by decide) 0 rfl rfl rfl hl.1 rfl (Nat.le_of_ble_eq_true rfl) dX12_tray_28 (fun u_30 H locs hφ hP hD hS => ?_)
            have hP : va_P D vwCl [((q 203), .inl (k 1, 4, .inl (fun _ => 0))), ((q 204), .inl (k 1, 4, .inl (fun _ => -1))), ((q 205), .inl (k 2, 240, .inr (.inl (fun _ => 0))))] H := hP
            have hD : va_D A [((q 203), .inl (k 1, 4, .inl (fun _ => 0))), ((q 204), .inl (k 1, 4, .inl (fun _ => -1))), ((q 205), .inl (k 2, 240, .inr (.inl (fun _ => 0))))] := hD
            refine W.eq (g2 := F0 m 31 ls [.int 0]) rfl ?_
            exact EWz hx hb hr hlocks hS () (by simp [trA, c_1, bw, c_1, c_25, c_27, c_29]) rfl trivial nil_P nil_D dX12_tray_31
          ·
            refine lv_iload_n hx hb dX12_tray_20 rfl (lv_at hl 3 rfl) ?_
            refine lv_bipush (v := 60) hx hb dX12_tray_21 (by decide) ?_
            refine lv_icmp_le (tgt := 32) hx hb dX12_tray_23 (by decide) (fun c_31 => ?_) (fun c_31 => ?_)
            ·
              have hsp := c1_sp c_29 c_31
              obtain ⟨w0, hw0, rfl⟩ := nI_of2 (M := 60) (n := 60) rfl c_29 c_31
              refine lv_aload_n hx hb dX12_tray_32 rfl (lv_at hl 0 rfl) ?_
              refine va_get (D := D) (ci := 12) (v := .ref (q 203)) (C := RX12) (T := TX12) (N := 36) hx hb hts iX12 hown hK hP 0 rfl rfl 5 (by decide) (hts _ qf_X12_21) (fun _ h => h) rfl dX12_tray_33 ?_
              refine lv_iload_n hx hb dX12_tray_36 rfl (lv_at hl 1 rfl) ?_
              refine lv_iload_n hx hb dX12_tray_37 rfl (lv_at hl 2 rfl) ?_
              refine va_iast hx hb hK hP hD hS 1 1 rfl rfl (xin 2 4 rfl (by decide) (by decide)) dX12_tray_38 (fun H locs hP hD hS => ?_)
              have hP : va_P D vwCl [((q 200), .inr (12, [.ref (q 201), .ref (q 202), .int 0, .long 0, .long 1, .ref (q 203), .ref (q 204), .ref (q 205), .ref (q 206), .ref (q 207), .int 0, .int 0, .int 0, .int 0, .int 0, .int 0, .int (-1), .int (-1), .int 0, .int 0, .int 0, .ref (q 208), .int 0, .int 0, .ref (q 209), .ref (q 210), .ref (q 211), .ref (q 212), .ref (q 213), .int 0, .int 0, .ref (q 214), .ref (q 215), .ref (q 216), .int 0, .int 0])), ((q 203), .inl (k 1, 4, .inl (upd (fun _ => 0) (2 : Int32).toNatClampNeg b))), ((q 204), .inl (k 1, 4, .inl (fun _ => -1))), ((q 205), .inl (k 2, 240, .inr (.inl (fun _ => 0))))] H := hP
              have hD : va_D A [((q 200), .inr (12, [.ref (q 201), .ref (q 202), .int 0, .long 0, .long 1, .ref (q 203), .ref (q 204), .ref (q 205), .ref (q 206), .ref (q 207), .int 0, .int 0, .int 0, .int 0, .int 0, .int 0, .int (-1), .int (-1), .int 0, .int 0, .int 0, .ref (q 208), .int 0, .int 0, .ref (q 209), .ref (q 210), .ref (q 211), .ref (q 212), .ref (q 213), .int 0, .int 0, .ref (q 214), .ref (q 215), .ref (q 216), .int 0, .int 0])), ((q 203), .inl (k 1, 4, .inl (upd (fun _ => 0) (2 : Int32).toNatClampNeg b))), ((q 204), .inl (k 1, 4, .inl (fun _ => -1))), ((q 205), .inl (k 2, 240, .inr (.inl (fun _ => 0))))] := hD
              refine lv_aload_n hx hb dX12_tray_39 rfl (lv_at hl 0 rfl) ?_
              refine va_get (D := D) (ci := 12) (v := .ref (q 204)) (C := RX12) (T := TX12) (N := 36) hx hb hts iX12 hown hK hP 0 rfl rfl 6 (by decide) (hts _ qf_X12_24) (fun _ h => h) rfl dX12_tray_40 ?_
              refine lv_iload_n hx hb dX12_tray_43 rfl (lv_at hl 1 rfl) ?_
              refine lv_iload_n hx hb dX12_tray_44 rfl (lv_at hl 3 rfl) ?_
              refine va_iast hx hb hK hP hD hS 2 1 rfl rfl (xin 2 4 rfl (by decide) (by decide)) dX12_tray_45 (fun H locs hP hD hS => ?_)
              have hP : va_P D vwCl [((q 200), .inr (12, [.ref (q 201), .ref (q 202), .int 0, .long 0, .long 1, .ref (q 203), .ref (q 204), .ref (q 205), .ref (q 206), .ref (q 207), .int 0, .int 0, .int 0, .int 0, .int 0, .int 0, .int (-1), .int (-1), .int 0, .int 0, .int 0, .ref (q 208), .int 0, .int 0, .ref (q 209), .ref (q 210), .ref (q 211), .ref (q 212), .ref (q 213), .int 0, .int 0, .ref (q 214), .ref (q 215), .ref (q 216), .int 0, .int 0])), ((q 203), .inl (k 1, 4, .inl (upd (fun _ => 0) (2 : Int32).toNatClampNeg b))), ((q 204), .inl (k 1, 4, .inl (upd (fun _ => -1) (2 : Int32).toNatClampNeg (nI w0)))), ((q 205), .inl (k 2, 240, .inr (.inl (fun _ => 0))))] H := hP
              have hD : va_D A [((q 200), .inr (12, [.ref (q 201), .ref (q 202), .int 0, .long 0, .long 1, .ref (q 203), .ref (q 204), .ref (q 205), .ref (q 206), .ref (q 207), .int 0, .int 0, .int 0, .int 0, .int 0, .int 0, .int (-1), .int (-1), .int 0, .int 0, .int 0, .ref (q 208), .int 0, .int 0, .ref (q 209), .ref (q 210), .ref (q 211), .ref (q 212), .ref (q 213), .int 0, .int 0, .ref (q 214), .ref (q 215), .ref (q 216), .int 0, .int 0])), ((q 203), .inl (k 1, 4, .inl (upd (fun _ => 0) (2 : Int32).toNatClampNeg b))), ((q 204), .inl (k 1, 4, .inl (upd (fun _ => -1) (2 : Int32).toNatClampNeg (nI w0)))), ((q 205), .inl (k 2, 240, .inr (.inl (fun _ => 0))))] := hD
              refine lv_iconst (v := 0) hx hb dX12_tray_46 (by decide) ?_
              refine lv_istore (lv' := [(4, .int 0), (0, .ref (q 200)), (1, .int 2), (2, .int b), (3, .int (nI w0))]) hx hb dX12_tray_47 hl (by decide) rfl (fun ls hl => ?_)
              have HL : ∀ (r i : Nat) (g : Nat → Int64) (H : Heap) (locs : List Loc) (ls : Array Slot), i + r = w0 → va_P D vwCl [((q 200), .inr (12, [.ref (q 201), .ref (q 202), .int 0, .long 0, .long 1, .ref (q 203), .ref (q 204), .ref (q 205), .ref (q 206), .ref (q 207), .int 0, .int 0, .int 0, .int 0, .int 0, .int 0, .int (-1), .int (-1), .int 0, .int 0, .int 0, .ref (q 208), .int 0, .int 0, .ref (q 209), .ref (q 210), .ref (q 211), .ref (q 212), .ref (q 213), .int 0, .int 0, .ref (q 214), .ref (q 215), .ref (q 216), .int 0, .int 0])), ((q 203), .inl (k 1, 4, .inl (upd (fun _ => 0) (2 : Int32).toNatClampNeg b))), ((q 204), .inl (k 1, 4, .inl (upd (fun _ => -1) (2 : Int32).toNatClampNeg (nI w0)))), ((q 205), .inl (k 2, 240, .inr (.inl g)))] H → va_D A [((q 200), .inr (12, [.ref (q 201), .ref (q 202), .int 0, .long 0, .long 1, .ref (q 203), .ref (q 204), .ref (q 205), .ref (q 206), .ref (q 207), .int 0, .int 0, .int 0, .int 0, .int 0, .int 0, .int (-1), .int (-1), .int 0, .int 0, .int 0, .ref (q 208), .int 0, .int 0, .ref (q 209), .ref (q 210), .ref (q 211), .ref (q 212), .ref (q 213), .int 0, .int 0, .ref (q 214), .ref (q 215), .ref (q 216), .int 0, .int 0])), ((q 203), .inl (k 1, 4, .inl (upd (fun _ => 0) (2 : Int32).toNatClampNeg b))), ((q 204), .inl (k 1, 4, .inl (upd (fun _ => -1) (2 : Int32).toNatClampNeg (nI w0)))), ((q 205), .inl (k 2, 240, .inr (.inl g)))] → va_S A s.heap H locs → lv_has ls 5 [(4, .int (nI i)), (0, .ref (q 200)), (1, .int 2), (2, .int b), (3, .int (nI w0))] → W p l e (rj 8 0 0) s m [.ref (q 200), .int 2, .int b, .int (nI w0)].toArray below meth c H locs 0 0 (MQ below (QW (σ := Unit) (fun _ => some (.int (trA 2 b (nI w0)))) (fun _ => True) (fun _ => []) D A) [.ref (q 200), .int 2, .int b, .int (nI w0)].toArray s 0 0 A) (F0 m 49 ls []) := by
                intro r
                induction r with
                | zero =>
                  intro i g H locs ls hi  hP hD hS hl
                  refine lv_iload hx hb dX12_tray_49 (lv_at hl 0 rfl) ?_
                  refine lv_iload_n hx hb dX12_tray_51 rfl (lv_at hl 4 rfl) ?_
                  refine lv_icmp_ge (tgt := 74) hx hb dX12_tray_52 (by decide) (fun _ => ?_) (fun c => absurd (nI_le (a := w0) (b := i) (by omega) (by omega)) c)
                  refine lv_aload_n hx hb dX12_tray_74 rfl (lv_at hl 1 rfl) ?_
                  refine lv_iconst (v := 0) hx hb dX12_tray_75 (by decide) ?_
                  refine CWV (As := [.int 0]) (rest := []) (wc := [((q 200), .inr (12, [.ref (q 201), .ref (q 202), .int 0, .long 0, .long 1, .ref (q 203), .ref (q 204), .ref (q 205), .ref (q 206), .ref (q 207), .int 0, .int 0, .int 0, .int 0, .int 0, .int 0, .int (-1), .int (-1), .int 0, .int 0, .int 0, .ref (q 208), .int 0, .int 0, .ref (q 209), .ref (q 210), .ref (q 211), .ref (q 212), .ref (q 213), .int 0, .int 0, .ref (q 214), .ref (q 215), .ref (q 216), .int 0, .int 0]))]) (wr := [((q 203), .inl (k 1, 4, .inl (upd (fun _ => 0) (2 : Int32).toNatClampNeg b))), ((q 204), .inl (k 1, 4, .inl (upd (fun _ => -1) (2 : Int32).toNatClampNeg (nI w0)))), ((q 205), .inl (k 2, 240, .inr (.inl g)))]) hx hb hml hown hts hKK hP hD hS hA (m_is0 l D k (q 200) [.ref (q 201), .ref (q 202), .int 0, .long 0, .long 1, .ref (q 203), .ref (q 204), .ref (q 205), .ref (q 206), .ref (q 207), .int 0, .int 0, .int 0, .int 0, .int 0, .int 0, .int (-1), .int (-1), .int 0, .int 0, .int 0, .ref (q 208), .int 0, .int 0, .ref (q 209), .ref (q 210), .ref (q 211), .ref (q 212), .ref (q 213), .int 0, .int 0, .ref (q 214), .ref (q 215), .ref (q 216), .int 0, .int 0] (Nat.le_of_ble_eq_true rfl)) ci_X12_is qm_X12_89 ⟨Nat.le_of_ble_eq_true rfl, Nat.le_of_ble_eq_true rfl⟩ ⟨Nat.le_of_ble_eq_true rfl, Nat.le_of_ble_eq_true rfl⟩ [0] [1, 2, 3] rfl rfl rfl rfl rfl (by decide) 0 rfl rfl rfl hl.1 rfl (Nat.le_of_ble_eq_true rfl) dX12_tray_76 (fun u_32 H locs hφ hP hD hS => ?_)
                  have hP : va_P D vwCl [((q 203), .inl (k 1, 4, .inl (upd (fun _ => 0) (2 : Int32).toNatClampNeg b))), ((q 204), .inl (k 1, 4, .inl (upd (fun _ => -1) (2 : Int32).toNatClampNeg (nI w0)))), ((q 205), .inl (k 2, 240, .inr (.inl g)))] H := hP
                  have hD : va_D A [((q 203), .inl (k 1, 4, .inl (upd (fun _ => 0) (2 : Int32).toNatClampNeg b))), ((q 204), .inl (k 1, 4, .inl (upd (fun _ => -1) (2 : Int32).toNatClampNeg (nI w0)))), ((q 205), .inl (k 2, 240, .inr (.inl g)))] := hD
                  refine W.eq (g2 := F0 m 79 ls [.int 1]) rfl ?_
                  exact EWz hx hb hr hlocks hS () (by simp [trA, hsp, show ¬ bw b 3 = 0 by simp [bw, c_25, c_27], c_1]) rfl trivial nil_P nil_D dX12_tray_79
                | succ r ih =>
                  intro i g H locs ls hi  hP hD hS hl
                  refine lv_iload hx hb dX12_tray_49 (lv_at hl 0 rfl) ?_
                  refine lv_iload_n hx hb dX12_tray_51 rfl (lv_at hl 4 rfl) ?_
                  refine lv_icmp_ge (tgt := 74) hx hb dX12_tray_52 (by decide) (fun c => absurd c (nI_ge (a := i) (b := w0) (by omega) (by omega))) (fun _ => ?_)
                  refine lv_aload_n hx hb dX12_tray_55 rfl (lv_at hl 1 rfl) ?_
                  refine va_get (D := D) (ci := 12) (v := .ref (q 205)) (C := RX12) (T := TX12) (N := 36) hx hb hts iX12 hown hK hP 0 rfl rfl 7 (by decide) (hts _ qf_X12_27) (fun _ h => h) rfl dX12_tray_56 ?_
                  refine lv_bipush (v := 60) hx hb dX12_tray_59 (by decide) ?_
                  refine lv_iload_n hx hb dX12_tray_61 rfl (lv_at hl 2 rfl) ?_
                  refine lv_imul hx hb dX12_tray_62 ?_
                  refine lv_topi (fun x_33 ex_33 => ?_)
                  obtain rfl : x_33 = 120 := ex_33.trans (by decide +kernel)
                  refine lv_iload hx hb dX12_tray_63 (lv_at hl 0 rfl) ?_
                  refine lv_iadd hx hb dX12_tray_65 ?_
                  refine lv_topi (fun x_34 ex_34 => ?_)
                  obtain rfl : x_34 = nI (120 + i) := ex_34.trans (nI_add 120 i)
                  refine lv_lconst (v := 0) hx hb dX12_tray_66 rfl ?_
                  refine va_last hx hb hK hP hD hS 3 2 rfl rfl (vp_in_nI (by omega) (by decide)) dX12_tray_67 (fun H locs hP hD hS => ?_)
                  have hP : va_P D vwCl [((q 200), .inr (12, [.ref (q 201), .ref (q 202), .int 0, .long 0, .long 1, .ref (q 203), .ref (q 204), .ref (q 205), .ref (q 206), .ref (q 207), .int 0, .int 0, .int 0, .int 0, .int 0, .int 0, .int (-1), .int (-1), .int 0, .int 0, .int 0, .ref (q 208), .int 0, .int 0, .ref (q 209), .ref (q 210), .ref (q 211), .ref (q 212), .ref (q 213), .int 0, .int 0, .ref (q 214), .ref (q 215), .ref (q 216), .int 0, .int 0])), ((q 203), .inl (k 1, 4, .inl (upd (fun _ => 0) (2 : Int32).toNatClampNeg b))), ((q 204), .inl (k 1, 4, .inl (upd (fun _ => -1) (2 : Int32).toNatClampNeg (nI w0)))), ((q 205), .inl (k 2, 240, .inr (.inl (vp_updL g (nI (120 + i) : Int32).toNatClampNeg 0))))] H := hP
                  have hD : va_D A [((q 200), .inr (12, [.ref (q 201), .ref (q 202), .int 0, .long 0, .long 1, .ref (q 203), .ref (q 204), .ref (q 205), .ref (q 206), .ref (q 207), .int 0, .int 0, .int 0, .int 0, .int 0, .int 0, .int (-1), .int (-1), .int 0, .int 0, .int 0, .ref (q 208), .int 0, .int 0, .ref (q 209), .ref (q 210), .ref (q 211), .ref (q 212), .ref (q 213), .int 0, .int 0, .ref (q 214), .ref (q 215), .ref (q 216), .int 0, .int 0])), ((q 203), .inl (k 1, 4, .inl (upd (fun _ => 0) (2 : Int32).toNatClampNeg b))), ((q 204), .inl (k 1, 4, .inl (upd (fun _ => -1) (2 : Int32).toNatClampNeg (nI w0)))), ((q 205), .inl (k 2, 240, .inr (.inl (vp_updL g (nI (120 + i) : Int32).toNatClampNeg 0))))] := hD
                  refine lv_iinc (v := nI (i + 1)) (lv' := [(4, .int (nI (i + 1))), (0, .ref (q 200)), (1, .int 2), (2, .int b), (3, .int (nI w0))]) hx hb dX12_tray_68 hl (k := 0) rfl (nI_1 i) (by decide) rfl (fun ls hl => ?_)
                  refine lv_goto (tgt := 49) hx hb dX12_tray_71 (by decide) ?_
                  exact ih (i + 1) _ _ _ _ (by omega)  (hP.sub [0, 1, 2, 3] rfl) (hD.sub [0, 1, 2, 3] rfl rfl) hS (lv_sub hl [0, 1, 2, 3, 4] rfl)
              exact HL w0 0 _ _ _ _ (by omega)  (hP.sub [0, 1, 2, 3] rfl) (hD.sub [0, 1, 2, 3] rfl rfl) hS (lv_sub hl [0, 1, 2, 3, 4] rfl)
            ·
              refine lv_aload_n hx hb dX12_tray_26 rfl (lv_at hl 0 rfl) ?_
              refine lv_iconst (v := 1) hx hb dX12_tray_27 (by decide) ?_
              refine CWV (As := [.int 1]) (rest := []) (wc := [((q 200), .inr (12, [.ref (q 201), .ref (q 202), .int 0, .long 0, .long 1, .ref (q 203), .ref (q 204), .ref (q 205), .ref (q 206), .ref (q 207), .int 0, .int 0, .int 0, .int 0, .int 0, .int 0, .int (-1), .int (-1), .int 0, .int 0, .int 0, .ref (q 208), .int 0, .int 0, .ref (q 209), .ref (q 210), .ref (q 211), .ref (q 212), .ref (q 213), .int 0, .int 0, .ref (q 214), .ref (q 215), .ref (q 216), .int 0, .int 0]))]) (wr := [((q 203), .inl (k 1, 4, .inl (fun _ => 0))), ((q 204), .inl (k 1, 4, .inl (fun _ => -1))), ((q 205), .inl (k 2, 240, .inr (.inl (fun _ => 0))))]) hx hb hml hown hts hKK hP hD hS hA (m_is1 l D k (q 200) [.ref (q 201), .ref (q 202), .int 0, .long 0, .long 1, .ref (q 203), .ref (q 204), .ref (q 205), .ref (q 206), .ref (q 207), .int 0, .int 0, .int 0, .int 0, .int 0, .int 0, .int (-1), .int (-1), .int 0, .int 0, .int 0, .ref (q 208), .int 0, .int 0, .ref (q 209), .ref (q 210), .ref (q 211), .ref (q 212), .ref (q 213), .int 0, .int 0, .ref (q 214), .ref (q 215), .ref (q 216), .int 0, .int 0] (Nat.le_of_ble_eq_true rfl) 1 (by decide)) ci_X12_is qm_X12_89 ⟨Nat.le_of_ble_eq_true rfl, Nat.le_of_ble_eq_true rfl⟩ ⟨Nat.le_of_ble_eq_true rfl, Nat.le_of_ble_eq_true rfl⟩ [0] [1, 2, 3] rfl rfl rfl rfl rfl (by decide) 0 rfl rfl rfl hl.1 rfl (Nat.le_of_ble_eq_true rfl) dX12_tray_28 (fun u_35 H locs hφ hP hD hS => ?_)
              have hP : va_P D vwCl [((q 203), .inl (k 1, 4, .inl (fun _ => 0))), ((q 204), .inl (k 1, 4, .inl (fun _ => -1))), ((q 205), .inl (k 2, 240, .inr (.inl (fun _ => 0))))] H := hP
              have hD : va_D A [((q 203), .inl (k 1, 4, .inl (fun _ => 0))), ((q 204), .inl (k 1, 4, .inl (fun _ => -1))), ((q 205), .inl (k 2, 240, .inr (.inl (fun _ => 0))))] := hD
              refine W.eq (g2 := F0 m 31 ls [.int 0]) rfl ?_
              exact EWz hx hb hr hlocks hS () (by simp [trA, c_1, bw, c_1, c_25, c_27, c_29, c_31, Int32.not_le.mp c_31]) rfl trivial nil_P nil_D dX12_tray_31
    ·
      refine lv_iload_n hx hb dX12_tray_7 rfl (lv_at hl 2 rfl) ?_
      refine lv_if_lt (tgt := 26) hx hb dX12_tray_8 (by decide) (fun c_36 => ?_) (fun c_36 => ?_)
      ·
        refine lv_aload_n hx hb dX12_tray_26 rfl (lv_at hl 0 rfl) ?_
        refine lv_iconst (v := 1) hx hb dX12_tray_27 (by decide) ?_
        refine CWV (As := [.int 1]) (rest := []) (wc := [((q 200), .inr (12, [.ref (q 201), .ref (q 202), .int 0, .long 0, .long 1, .ref (q 203), .ref (q 204), .ref (q 205), .ref (q 206), .ref (q 207), .int 0, .int 0, .int 0, .int 0, .int 0, .int 0, .int (-1), .int (-1), .int 0, .int 0, .int 0, .ref (q 208), .int 0, .int 0, .ref (q 209), .ref (q 210), .ref (q 211), .ref (q 212), .ref (q 213), .int 0, .int 0, .ref (q 214), .ref (q 215), .ref (q 216), .int 0, .int 0]))]) (wr := [((q 203), .inl (k 1, 4, .inl (fun _ => 0))), ((q 204), .inl (k 1, 4, .inl (fun _ => -1))), ((q 205), .inl (k 2, 240, .inr (.inl (fun _ => 0))))]) hx hb hml hown hts hKK hP hD hS hA (m_is1 l D k (q 200) [.ref (q 201), .ref (q 202), .int 0, .long 0, .long 1, .ref (q 203), .ref (q 204), .ref (q 205), .ref (q 206), .ref (q 207), .int 0, .int 0, .int 0, .int 0, .int 0, .int 0, .int (-1), .int (-1), .int 0, .int 0, .int 0, .ref (q 208), .int 0, .int 0, .ref (q 209), .ref (q 210), .ref (q 211), .ref (q 212), .ref (q 213), .int 0, .int 0, .ref (q 214), .ref (q 215), .ref (q 216), .int 0, .int 0] (Nat.le_of_ble_eq_true rfl) 1 (by decide)) ci_X12_is qm_X12_89 ⟨Nat.le_of_ble_eq_true rfl, Nat.le_of_ble_eq_true rfl⟩ ⟨Nat.le_of_ble_eq_true rfl, Nat.le_of_ble_eq_true rfl⟩ [0] [1, 2, 3] rfl rfl rfl rfl rfl (by decide) 0 rfl rfl rfl hl.1 rfl (Nat.le_of_ble_eq_true rfl) dX12_tray_28 (fun u_37 H locs hφ hP hD hS => ?_)
        have hP : va_P D vwCl [((q 203), .inl (k 1, 4, .inl (fun _ => 0))), ((q 204), .inl (k 1, 4, .inl (fun _ => -1))), ((q 205), .inl (k 2, 240, .inr (.inl (fun _ => 0))))] H := hP
        have hD : va_D A [((q 203), .inl (k 1, 4, .inl (fun _ => 0))), ((q 204), .inl (k 1, 4, .inl (fun _ => -1))), ((q 205), .inl (k 2, 240, .inr (.inl (fun _ => 0))))] := hD
        refine W.eq (g2 := F0 m 31 ls [.int 0]) rfl ?_
        exact EWz hx hb hr hlocks hS () (by simp [trA, c_1, bw, c_1, c_36]) rfl trivial nil_P nil_D dX12_tray_31
      ·
        refine lv_iload_n hx hb dX12_tray_11 rfl (lv_at hl 2 rfl) ?_
        refine lv_iconst (v := 3) hx hb dX12_tray_12 (by decide) ?_
        refine lv_icmp_gt (tgt := 26) hx hb dX12_tray_13 (by decide) (fun c_38 => ?_) (fun c_38 => ?_)
        ·
          refine lv_aload_n hx hb dX12_tray_26 rfl (lv_at hl 0 rfl) ?_
          refine lv_iconst (v := 1) hx hb dX12_tray_27 (by decide) ?_
          refine CWV (As := [.int 1]) (rest := []) (wc := [((q 200), .inr (12, [.ref (q 201), .ref (q 202), .int 0, .long 0, .long 1, .ref (q 203), .ref (q 204), .ref (q 205), .ref (q 206), .ref (q 207), .int 0, .int 0, .int 0, .int 0, .int 0, .int 0, .int (-1), .int (-1), .int 0, .int 0, .int 0, .ref (q 208), .int 0, .int 0, .ref (q 209), .ref (q 210), .ref (q 211), .ref (q 212), .ref (q 213), .int 0, .int 0, .ref (q 214), .ref (q 215), .ref (q 216), .int 0, .int 0]))]) (wr := [((q 203), .inl (k 1, 4, .inl (fun _ => 0))), ((q 204), .inl (k 1, 4, .inl (fun _ => -1))), ((q 205), .inl (k 2, 240, .inr (.inl (fun _ => 0))))]) hx hb hml hown hts hKK hP hD hS hA (m_is1 l D k (q 200) [.ref (q 201), .ref (q 202), .int 0, .long 0, .long 1, .ref (q 203), .ref (q 204), .ref (q 205), .ref (q 206), .ref (q 207), .int 0, .int 0, .int 0, .int 0, .int 0, .int 0, .int (-1), .int (-1), .int 0, .int 0, .int 0, .ref (q 208), .int 0, .int 0, .ref (q 209), .ref (q 210), .ref (q 211), .ref (q 212), .ref (q 213), .int 0, .int 0, .ref (q 214), .ref (q 215), .ref (q 216), .int 0, .int 0] (Nat.le_of_ble_eq_true rfl) 1 (by decide)) ci_X12_is qm_X12_89 ⟨Nat.le_of_ble_eq_true rfl, Nat.le_of_ble_eq_true rfl⟩ ⟨Nat.le_of_ble_eq_true rfl, Nat.le_of_ble_eq_true rfl⟩ [0] [1, 2, 3] rfl rfl rfl rfl rfl (by decide) 0 rfl rfl rfl hl.1 rfl (Nat.le_of_ble_eq_true rfl) dX12_tray_28 (fun u_39 H locs hφ hP hD hS => ?_)
          have hP : va_P D vwCl [((q 203), .inl (k 1, 4, .inl (fun _ => 0))), ((q 204), .inl (k 1, 4, .inl (fun _ => -1))), ((q 205), .inl (k 2, 240, .inr (.inl (fun _ => 0))))] H := hP
          have hD : va_D A [((q 203), .inl (k 1, 4, .inl (fun _ => 0))), ((q 204), .inl (k 1, 4, .inl (fun _ => -1))), ((q 205), .inl (k 2, 240, .inr (.inl (fun _ => 0))))] := hD
          refine W.eq (g2 := F0 m 31 ls [.int 0]) rfl ?_
          exact EWz hx hb hr hlocks hS () (by simp [trA, c_1, bw, c_1, c_36, c_38]) rfl trivial nil_P nil_D dX12_tray_31
        ·
          refine lv_iload_n hx hb dX12_tray_16 rfl (lv_at hl 3 rfl) ?_
          refine lv_if_lt (tgt := 26) hx hb dX12_tray_17 (by decide) (fun c_40 => ?_) (fun c_40 => ?_)
          ·
            refine lv_aload_n hx hb dX12_tray_26 rfl (lv_at hl 0 rfl) ?_
            refine lv_iconst (v := 1) hx hb dX12_tray_27 (by decide) ?_
            refine CWV (As := [.int 1]) (rest := []) (wc := [((q 200), .inr (12, [.ref (q 201), .ref (q 202), .int 0, .long 0, .long 1, .ref (q 203), .ref (q 204), .ref (q 205), .ref (q 206), .ref (q 207), .int 0, .int 0, .int 0, .int 0, .int 0, .int 0, .int (-1), .int (-1), .int 0, .int 0, .int 0, .ref (q 208), .int 0, .int 0, .ref (q 209), .ref (q 210), .ref (q 211), .ref (q 212), .ref (q 213), .int 0, .int 0, .ref (q 214), .ref (q 215), .ref (q 216), .int 0, .int 0]))]) (wr := [((q 203), .inl (k 1, 4, .inl (fun _ => 0))), ((q 204), .inl (k 1, 4, .inl (fun _ => -1))), ((q 205), .inl (k 2, 240, .inr (.inl (fun _ => 0))))]) hx hb hml hown hts hKK hP hD hS hA (m_is1 l D k (q 200) [.ref (q 201), .ref (q 202), .int 0, .long 0, .long 1, .ref (q 203), .ref (q 204), .ref (q 205), .ref (q 206), .ref (q 207), .int 0, .int 0, .int 0, .int 0, .int 0, .int 0, .int (-1), .int (-1), .int 0, .int 0, .int 0, .ref (q 208), .int 0, .int 0, .ref (q 209), .ref (q 210), .ref (q 211), .ref (q 212), .ref (q 213), .int 0, .int 0, .ref (q 214), .ref (q 215), .ref (q 216), .int 0, .int 0] (Nat.le_of_ble_eq_true rfl) 1 (by decide)) ci_X12_is qm_X12_89 ⟨Nat.le_of_ble_eq_true rfl, Nat.le_of_ble_eq_true rfl⟩ ⟨Nat.le_of_ble_eq_true rfl, Nat.le_of_ble_eq_true rfl⟩ [0] [1, 2, 3] rfl rfl rfl rfl rfl (by decide) 0 rfl rfl rfl hl.1 rfl (Nat.le_of_ble_eq_true rfl) dX12_tray_28 (fun u_41 H locs hφ hP hD hS => ?_)
            have hP : va_P D vwCl [((q 203), .inl (k 1, 4, .inl (fun _ => 0))), ((q 204), .inl (k 1, 4, .inl (fun _ => -1))), ((q 205), .inl (k 2, 240, .inr (.inl (fun _ => 0))))] H := hP
            have hD : va_D A [((q 203), .inl (k 1, 4, .inl (fun _ => 0))), ((q 204), .inl (k 1, 4, .inl (fun _ => -1))), ((q 205), .inl (k 2, 240, .inr (.inl (fun _ => 0))))] := hD
            refine W.eq (g2 := F0 m 31 ls [.int 0]) rfl ?_
            exact EWz hx hb hr hlocks hS () (by simp [trA, c_1, bw, c_1, c_36, c_38, c_40]) rfl trivial nil_P nil_D dX12_tray_31
          ·
            refine lv_iload_n hx hb dX12_tray_20 rfl (lv_at hl 3 rfl) ?_
            refine lv_bipush (v := 60) hx hb dX12_tray_21 (by decide) ?_
            refine lv_icmp_le (tgt := 32) hx hb dX12_tray_23 (by decide) (fun c_42 => ?_) (fun c_42 => ?_)
            ·
              have hsp := c1_sp c_40 c_42
              obtain ⟨w0, hw0, rfl⟩ := nI_of2 (M := 60) (n := 60) rfl c_40 c_42
              refine lv_aload_n hx hb dX12_tray_32 rfl (lv_at hl 0 rfl) ?_
              refine va_get (D := D) (ci := 12) (v := .ref (q 203)) (C := RX12) (T := TX12) (N := 36) hx hb hts iX12 hown hK hP 0 rfl rfl 5 (by decide) (hts _ qf_X12_21) (fun _ h => h) rfl dX12_tray_33 ?_
              refine lv_iload_n hx hb dX12_tray_36 rfl (lv_at hl 1 rfl) ?_
              refine lv_iload_n hx hb dX12_tray_37 rfl (lv_at hl 2 rfl) ?_
              refine va_iast hx hb hK hP hD hS 1 1 rfl rfl (xin 3 4 rfl (by decide) (by decide)) dX12_tray_38 (fun H locs hP hD hS => ?_)
              have hP : va_P D vwCl [((q 200), .inr (12, [.ref (q 201), .ref (q 202), .int 0, .long 0, .long 1, .ref (q 203), .ref (q 204), .ref (q 205), .ref (q 206), .ref (q 207), .int 0, .int 0, .int 0, .int 0, .int 0, .int 0, .int (-1), .int (-1), .int 0, .int 0, .int 0, .ref (q 208), .int 0, .int 0, .ref (q 209), .ref (q 210), .ref (q 211), .ref (q 212), .ref (q 213), .int 0, .int 0, .ref (q 214), .ref (q 215), .ref (q 216), .int 0, .int 0])), ((q 203), .inl (k 1, 4, .inl (upd (fun _ => 0) (3 : Int32).toNatClampNeg b))), ((q 204), .inl (k 1, 4, .inl (fun _ => -1))), ((q 205), .inl (k 2, 240, .inr (.inl (fun _ => 0))))] H := hP
              have hD : va_D A [((q 200), .inr (12, [.ref (q 201), .ref (q 202), .int 0, .long 0, .long 1, .ref (q 203), .ref (q 204), .ref (q 205), .ref (q 206), .ref (q 207), .int 0, .int 0, .int 0, .int 0, .int 0, .int 0, .int (-1), .int (-1), .int 0, .int 0, .int 0, .ref (q 208), .int 0, .int 0, .ref (q 209), .ref (q 210), .ref (q 211), .ref (q 212), .ref (q 213), .int 0, .int 0, .ref (q 214), .ref (q 215), .ref (q 216), .int 0, .int 0])), ((q 203), .inl (k 1, 4, .inl (upd (fun _ => 0) (3 : Int32).toNatClampNeg b))), ((q 204), .inl (k 1, 4, .inl (fun _ => -1))), ((q 205), .inl (k 2, 240, .inr (.inl (fun _ => 0))))] := hD
              refine lv_aload_n hx hb dX12_tray_39 rfl (lv_at hl 0 rfl) ?_
              refine va_get (D := D) (ci := 12) (v := .ref (q 204)) (C := RX12) (T := TX12) (N := 36) hx hb hts iX12 hown hK hP 0 rfl rfl 6 (by decide) (hts _ qf_X12_24) (fun _ h => h) rfl dX12_tray_40 ?_
              refine lv_iload_n hx hb dX12_tray_43 rfl (lv_at hl 1 rfl) ?_
              refine lv_iload_n hx hb dX12_tray_44 rfl (lv_at hl 3 rfl) ?_
              refine va_iast hx hb hK hP hD hS 2 1 rfl rfl (xin 3 4 rfl (by decide) (by decide)) dX12_tray_45 (fun H locs hP hD hS => ?_)
              have hP : va_P D vwCl [((q 200), .inr (12, [.ref (q 201), .ref (q 202), .int 0, .long 0, .long 1, .ref (q 203), .ref (q 204), .ref (q 205), .ref (q 206), .ref (q 207), .int 0, .int 0, .int 0, .int 0, .int 0, .int 0, .int (-1), .int (-1), .int 0, .int 0, .int 0, .ref (q 208), .int 0, .int 0, .ref (q 209), .ref (q 210), .ref (q 211), .ref (q 212), .ref (q 213), .int 0, .int 0, .ref (q 214), .ref (q 215), .ref (q 216), .int 0, .int 0])), ((q 203), .inl (k 1, 4, .inl (upd (fun _ => 0) (3 : Int32).toNatClampNeg b))), ((q 204), .inl (k 1, 4, .inl (upd (fun _ => -1) (3 : Int32).toNatClampNeg (nI w0)))), ((q 205), .inl (k 2, 240, .inr (.inl (fun _ => 0))))] H := hP
              have hD : va_D A [((q 200), .inr (12, [.ref (q 201), .ref (q 202), .int 0, .long 0, .long 1, .ref (q 203), .ref (q 204), .ref (q 205), .ref (q 206), .ref (q 207), .int 0, .int 0, .int 0, .int 0, .int 0, .int 0, .int (-1), .int (-1), .int 0, .int 0, .int 0, .ref (q 208), .int 0, .int 0, .ref (q 209), .ref (q 210), .ref (q 211), .ref (q 212), .ref (q 213), .int 0, .int 0, .ref (q 214), .ref (q 215), .ref (q 216), .int 0, .int 0])), ((q 203), .inl (k 1, 4, .inl (upd (fun _ => 0) (3 : Int32).toNatClampNeg b))), ((q 204), .inl (k 1, 4, .inl (upd (fun _ => -1) (3 : Int32).toNatClampNeg (nI w0)))), ((q 205), .inl (k 2, 240, .inr (.inl (fun _ => 0))))] := hD
              refine lv_iconst (v := 0) hx hb dX12_tray_46 (by decide) ?_
              refine lv_istore (lv' := [(4, .int 0), (0, .ref (q 200)), (1, .int 3), (2, .int b), (3, .int (nI w0))]) hx hb dX12_tray_47 hl (by decide) rfl (fun ls hl => ?_)
              have HL : ∀ (r i : Nat) (g : Nat → Int64) (H : Heap) (locs : List Loc) (ls : Array Slot), i + r = w0 → va_P D vwCl [((q 200), .inr (12, [.ref (q 201), .ref (q 202), .int 0, .long 0, .long 1, .ref (q 203), .ref (q 204), .ref (q 205), .ref (q 206), .ref (q 207), .int 0, .int 0, .int 0, .int 0, .int 0, .int 0, .int (-1), .int (-1), .int 0, .int 0, .int 0, .ref (q 208), .int 0, .int 0, .ref (q 209), .ref (q 210), .ref (q 211), .ref (q 212), .ref (q 213), .int 0, .int 0, .ref (q 214), .ref (q 215), .ref (q 216), .int 0, .int 0])), ((q 203), .inl (k 1, 4, .inl (upd (fun _ => 0) (3 : Int32).toNatClampNeg b))), ((q 204), .inl (k 1, 4, .inl (upd (fun _ => -1) (3 : Int32).toNatClampNeg (nI w0)))), ((q 205), .inl (k 2, 240, .inr (.inl g)))] H → va_D A [((q 200), .inr (12, [.ref (q 201), .ref (q 202), .int 0, .long 0, .long 1, .ref (q 203), .ref (q 204), .ref (q 205), .ref (q 206), .ref (q 207), .int 0, .int 0, .int 0, .int 0, .int 0, .int 0, .int (-1), .int (-1), .int 0, .int 0, .int 0, .ref (q 208), .int 0, .int 0, .ref (q 209), .ref (q 210), .ref (q 211), .ref (q 212), .ref (q 213), .int 0, .int 0, .ref (q 214), .ref (q 215), .ref (q 216), .int 0, .int 0])), ((q 203), .inl (k 1, 4, .inl (upd (fun _ => 0) (3 : Int32).toNatClampNeg b))), ((q 204), .inl (k 1, 4, .inl (upd (fun _ => -1) (3 : Int32).toNatClampNeg (nI w0)))), ((q 205), .inl (k 2, 240, .inr (.inl g)))] → va_S A s.heap H locs → lv_has ls 5 [(4, .int (nI i)), (0, .ref (q 200)), (1, .int 3), (2, .int b), (3, .int (nI w0))] → W p l e (rj 8 0 0) s m [.ref (q 200), .int 3, .int b, .int (nI w0)].toArray below meth c H locs 0 0 (MQ below (QW (σ := Unit) (fun _ => some (.int (trA 3 b (nI w0)))) (fun _ => True) (fun _ => []) D A) [.ref (q 200), .int 3, .int b, .int (nI w0)].toArray s 0 0 A) (F0 m 49 ls []) := by
                intro r
                induction r with
                | zero =>
                  intro i g H locs ls hi  hP hD hS hl
                  refine lv_iload hx hb dX12_tray_49 (lv_at hl 0 rfl) ?_
                  refine lv_iload_n hx hb dX12_tray_51 rfl (lv_at hl 4 rfl) ?_
                  refine lv_icmp_ge (tgt := 74) hx hb dX12_tray_52 (by decide) (fun _ => ?_) (fun c => absurd (nI_le (a := w0) (b := i) (by omega) (by omega)) c)
                  refine lv_aload_n hx hb dX12_tray_74 rfl (lv_at hl 1 rfl) ?_
                  refine lv_iconst (v := 0) hx hb dX12_tray_75 (by decide) ?_
                  refine CWV (As := [.int 0]) (rest := []) (wc := [((q 200), .inr (12, [.ref (q 201), .ref (q 202), .int 0, .long 0, .long 1, .ref (q 203), .ref (q 204), .ref (q 205), .ref (q 206), .ref (q 207), .int 0, .int 0, .int 0, .int 0, .int 0, .int 0, .int (-1), .int (-1), .int 0, .int 0, .int 0, .ref (q 208), .int 0, .int 0, .ref (q 209), .ref (q 210), .ref (q 211), .ref (q 212), .ref (q 213), .int 0, .int 0, .ref (q 214), .ref (q 215), .ref (q 216), .int 0, .int 0]))]) (wr := [((q 203), .inl (k 1, 4, .inl (upd (fun _ => 0) (3 : Int32).toNatClampNeg b))), ((q 204), .inl (k 1, 4, .inl (upd (fun _ => -1) (3 : Int32).toNatClampNeg (nI w0)))), ((q 205), .inl (k 2, 240, .inr (.inl g)))]) hx hb hml hown hts hKK hP hD hS hA (m_is0 l D k (q 200) [.ref (q 201), .ref (q 202), .int 0, .long 0, .long 1, .ref (q 203), .ref (q 204), .ref (q 205), .ref (q 206), .ref (q 207), .int 0, .int 0, .int 0, .int 0, .int 0, .int 0, .int (-1), .int (-1), .int 0, .int 0, .int 0, .ref (q 208), .int 0, .int 0, .ref (q 209), .ref (q 210), .ref (q 211), .ref (q 212), .ref (q 213), .int 0, .int 0, .ref (q 214), .ref (q 215), .ref (q 216), .int 0, .int 0] (Nat.le_of_ble_eq_true rfl)) ci_X12_is qm_X12_89 ⟨Nat.le_of_ble_eq_true rfl, Nat.le_of_ble_eq_true rfl⟩ ⟨Nat.le_of_ble_eq_true rfl, Nat.le_of_ble_eq_true rfl⟩ [0] [1, 2, 3] rfl rfl rfl rfl rfl (by decide) 0 rfl rfl rfl hl.1 rfl (Nat.le_of_ble_eq_true rfl) dX12_tray_76 (fun u_43 H locs hφ hP hD hS => ?_)
                  have hP : va_P D vwCl [((q 203), .inl (k 1, 4, .inl (upd (fun _ => 0) (3 : Int32).toNatClampNeg b))), ((q 204), .inl (k 1, 4, .inl (upd (fun _ => -1) (3 : Int32).toNatClampNeg (nI w0)))), ((q 205), .inl (k 2, 240, .inr (.inl g)))] H := hP
                  have hD : va_D A [((q 203), .inl (k 1, 4, .inl (upd (fun _ => 0) (3 : Int32).toNatClampNeg b))), ((q 204), .inl (k 1, 4, .inl (upd (fun _ => -1) (3 : Int32).toNatClampNeg (nI w0)))), ((q 205), .inl (k 2, 240, .inr (.inl g)))] := hD
                  refine W.eq (g2 := F0 m 79 ls [.int 1]) rfl ?_
                  exact EWz hx hb hr hlocks hS () (by simp [trA, hsp, show ¬ bw b 3 = 0 by simp [bw, c_36, c_38], c_1]) rfl trivial nil_P nil_D dX12_tray_79
                | succ r ih =>
                  intro i g H locs ls hi  hP hD hS hl
                  refine lv_iload hx hb dX12_tray_49 (lv_at hl 0 rfl) ?_
                  refine lv_iload_n hx hb dX12_tray_51 rfl (lv_at hl 4 rfl) ?_
                  refine lv_icmp_ge (tgt := 74) hx hb dX12_tray_52 (by decide) (fun c => absurd c (nI_ge (a := i) (b := w0) (by omega) (by omega))) (fun _ => ?_)
                  refine lv_aload_n hx hb dX12_tray_55 rfl (lv_at hl 1 rfl) ?_
                  refine va_get (D := D) (ci := 12) (v := .ref (q 205)) (C := RX12) (T := TX12) (N := 36) hx hb hts iX12 hown hK hP 0 rfl rfl 7 (by decide) (hts _ qf_X12_27) (fun _ h => h) rfl dX12_tray_56 ?_
                  refine lv_bipush (v := 60) hx hb dX12_tray_59 (by decide) ?_
                  refine lv_iload_n hx hb dX12_tray_61 rfl (lv_at hl 2 rfl) ?_
                  refine lv_imul hx hb dX12_tray_62 ?_
                  refine lv_topi (fun x_44 ex_44 => ?_)
                  obtain rfl : x_44 = 180 := ex_44.trans (by decide +kernel)
                  refine lv_iload hx hb dX12_tray_63 (lv_at hl 0 rfl) ?_
                  refine lv_iadd hx hb dX12_tray_65 ?_
                  refine lv_topi (fun x_45 ex_45 => ?_)
                  obtain rfl : x_45 = nI (180 + i) := ex_45.trans (nI_add 180 i)
                  refine lv_lconst (v := 0) hx hb dX12_tray_66 rfl ?_
                  refine va_last hx hb hK hP hD hS 3 2 rfl rfl (vp_in_nI (by omega) (by decide)) dX12_tray_67 (fun H locs hP hD hS => ?_)
                  have hP : va_P D vwCl [((q 200), .inr (12, [.ref (q 201), .ref (q 202), .int 0, .long 0, .long 1, .ref (q 203), .ref (q 204), .ref (q 205), .ref (q 206), .ref (q 207), .int 0, .int 0, .int 0, .int 0, .int 0, .int 0, .int (-1), .int (-1), .int 0, .int 0, .int 0, .ref (q 208), .int 0, .int 0, .ref (q 209), .ref (q 210), .ref (q 211), .ref (q 212), .ref (q 213), .int 0, .int 0, .ref (q 214), .ref (q 215), .ref (q 216), .int 0, .int 0])), ((q 203), .inl (k 1, 4, .inl (upd (fun _ => 0) (3 : Int32).toNatClampNeg b))), ((q 204), .inl (k 1, 4, .inl (upd (fun _ => -1) (3 : Int32).toNatClampNeg (nI w0)))), ((q 205), .inl (k 2, 240, .inr (.inl (vp_updL g (nI (180 + i) : Int32).toNatClampNeg 0))))] H := hP
                  have hD : va_D A [((q 200), .inr (12, [.ref (q 201), .ref (q 202), .int 0, .long 0, .long 1, .ref (q 203), .ref (q 204), .ref (q 205), .ref (q 206), .ref (q 207), .int 0, .int 0, .int 0, .int 0, .int 0, .int 0, .int (-1), .int (-1), .int 0, .int 0, .int 0, .ref (q 208), .int 0, .int 0, .ref (q 209), .ref (q 210), .ref (q 211), .ref (q 212), .ref (q 213), .int 0, .int 0, .ref (q 214), .ref (q 215), .ref (q 216), .int 0, .int 0])), ((q 203), .inl (k 1, 4, .inl (upd (fun _ => 0) (3 : Int32).toNatClampNeg b))), ((q 204), .inl (k 1, 4, .inl (upd (fun _ => -1) (3 : Int32).toNatClampNeg (nI w0)))), ((q 205), .inl (k 2, 240, .inr (.inl (vp_updL g (nI (180 + i) : Int32).toNatClampNeg 0))))] := hD
                  refine lv_iinc (v := nI (i + 1)) (lv' := [(4, .int (nI (i + 1))), (0, .ref (q 200)), (1, .int 3), (2, .int b), (3, .int (nI w0))]) hx hb dX12_tray_68 hl (k := 0) rfl (nI_1 i) (by decide) rfl (fun ls hl => ?_)
                  refine lv_goto (tgt := 49) hx hb dX12_tray_71 (by decide) ?_
                  exact ih (i + 1) _ _ _ _ (by omega)  (hP.sub [0, 1, 2, 3] rfl) (hD.sub [0, 1, 2, 3] rfl rfl) hS (lv_sub hl [0, 1, 2, 3, 4] rfl)
              exact HL w0 0 _ _ _ _ (by omega)  (hP.sub [0, 1, 2, 3] rfl) (hD.sub [0, 1, 2, 3] rfl rfl) hS (lv_sub hl [0, 1, 2, 3, 4] rfl)
            ·
              refine lv_aload_n hx hb dX12_tray_26 rfl (lv_at hl 0 rfl) ?_
              refine lv_iconst (v := 1) hx hb dX12_tray_27 (by decide) ?_
              refine CWV (As := [.int 1]) (rest := []) (wc := [((q 200), .inr (12, [.ref (q 201), .ref (q 202), .int 0, .long 0, .long 1, .ref (q 203), .ref (q 204), .ref (q 205), .ref (q 206), .ref (q 207), .int 0, .int 0, .int 0, .int 0, .int 0, .int 0, .int (-1), .int (-1), .int 0, .int 0, .int 0, .ref (q 208), .int 0, .int 0, .ref (q 209), .ref (q 210), .ref (q 211), .ref (q 212), .ref (q 213), .int 0, .int 0, .ref (q 214), .ref (q 215), .ref (q 216), .int 0, .int 0]))]) (wr := [((q 203), .inl (k 1, 4, .inl (fun _ => 0))), ((q 204), .inl (k 1, 4, .inl (fun _ => -1))), ((q 205), .inl (k 2, 240, .inr (.inl (fun _ => 0))))]) hx hb hml hown hts hKK hP hD hS hA (m_is1 l D k (q 200) [.ref (q 201), .ref (q 202), .int 0, .long 0, .long 1, .ref (q 203), .ref (q 204), .ref (q 205), .ref (q 206), .ref (q 207), .int 0, .int 0, .int 0, .int 0, .int 0, .int 0, .int (-1), .int (-1), .int 0, .int 0, .int 0, .ref (q 208), .int 0, .int 0, .ref (q 209), .ref (q 210), .ref (q 211), .ref (q 212), .ref (q 213), .int 0, .int 0, .ref (q 214), .ref (q 215), .ref (q 216), .int 0, .int 0] (Nat.le_of_ble_eq_true rfl) 1 (by decide)) ci_X12_is qm_X12_89 ⟨Nat.le_of_ble_eq_true rfl, Nat.le_of_ble_eq_true rfl⟩ ⟨Nat.le_of_ble_eq_true rfl, Nat.le_of_ble_eq_true rfl⟩ [0] [1, 2, 3] rfl rfl rfl rfl rfl (by decide) 0 rfl rfl rfl hl.1 rfl (Nat.le_of_ble_eq_true rfl) dX12_tray_28 (fun u_46 H locs hφ hP hD hS => ?_)
              have hP : va_P D vwCl [((q 203), .inl (k 1, 4, .inl (fun _ => 0))), ((q 204), .inl (k 1, 4, .inl (fun _ => -1))), ((q 205), .inl (k 2, 240, .inr (.inl (fun _ => 0))))] H := hP
              have hD : va_D A [((q 203), .inl (k 1, 4, .inl (fun _ => 0))), ((q 204), .inl (k 1, 4, .inl (fun _ => -1))), ((q 205), .inl (k 2, 240, .inr (.inl (fun _ => 0))))] := hD
              refine W.eq (g2 := F0 m 31 ls [.int 0]) rfl ?_
              exact EWz hx hb hr hlocks hS () (by simp [trA, c_1, bw, c_1, c_36, c_38, c_40, c_42, Int32.not_le.mp c_42]) rfl trivial nil_P nil_D dX12_tray_31
set_option maxHeartbeats 4000000 in
set_option maxRecDepth 100000 in
theorem m_four0 (l : Launch) (D : va_G) (k : Nat → ClassId) (q : Nat → Nat) (f : Nat → Int32) (x : Int32) : WD (σ := (Nat → Int32)) l yX12_four cX12_four 3 none 0 0 0 D k [.ref (q 200), .int x] [((q 200), .inr (12, [.ref (q 201), .ref (q 202), .int 0, .long 0, .long 1, .ref (q 203), .ref (q 204), .ref (q 205), .ref (q 206), .ref (q 207), .int 0, .int 0, .int 0, .int 0, .int 0, .int 0, .int (-1), .int (-1), .int 0, .int 0, .int 0, .ref (q 208), .int 0, .int 0, .ref (q 209), .ref (q 210), .ref (q 211), .ref (q 212), .ref (q 213), .int 0, .int 0, .ref (q 214), .ref (q 215), .ref (q 216), .int 0, .int 0])), ((q 206), .inl (k 0, 900, .inl f))] (fun _ => none) (fun _ => True) (fun g => [((q 200), .inr (12, [.ref (q 201), .ref (q 202), .int 0, .long 0, .long 1, .ref (q 203), .ref (q 204), .ref (q 205), .ref (q 206), .ref (q 207), .int 4, .int 0, .int 0, .int 0, .int 0, .int 0, .int (-1), .int (-1), .int 0, .int 0, .int 0, .ref (q 208), .int 0, .int 0, .ref (q 209), .ref (q 210), .ref (q 211), .ref (q 212), .ref (q 213), .int 0, .int 0, .ref (q 214), .ref (q 215), .ref (q 216), .int 0, .int 0])), ((q 206), .inl (k 0, 900, .inl g))]) := by
  refine MW (by decide) (Nat.le_of_ble_eq_true rfl) (fun p e s m below meth c ls A hx hb hml hr hlocks hin hts hown hKK hP hD hS hA hl => ?_)
  have hK := hKK.1
  have hl : lv_has ls 3 [(0, .ref (q 200)), (1, .int x)] := hl
  refine lv_bipush (v := 24) hx hb dX12_four_0 (by decide) ?_
  refine lv_istore_n (lv' := [(2, .int 24), (0, .ref (q 200)), (1, .int x)]) hx hb dX12_four_2 rfl hl (by decide) rfl (fun ls hl => ?_)
  refine lv_iload_n hx hb dX12_four_3 rfl (lv_at hl 0 rfl) ?_
  refine lv_if_lt (tgt := 36) hx hb dX12_four_4 (by decide) (fun c => absurd c (by decide)) (fun _ => ?_)
  refine lv_aload_n hx hb dX12_four_7 rfl (lv_at hl 1 rfl) ?_
  refine va_get (D := D) (ci := 12) (v := .ref (q 206)) (C := RX12) (T := TX12) (N := 36) hx hb hts iX12 hown hK hP 0 rfl rfl 8 (by decide) (hts _ qf_X12_30) (fun _ h => h) rfl dX12_four_8 ?_
  refine lv_aload_n hx hb dX12_four_11 rfl (lv_at hl 1 rfl) ?_
  refine va_get (D := D) (ci := 12) (v := .int 0) (C := RX12) (T := TX12) (N := 36) hx hb hts iX12 hown hK hP 0 rfl rfl 10 (by decide) (hts _ qf_X12_106) (fun _ h => h) rfl dX12_four_12 ?_
  refine lv_iload_n hx hb dX12_four_15 rfl (lv_at hl 2 rfl) ?_
  refine lv_iload_n hx hb dX12_four_16 rfl (lv_at hl 0 rfl) ?_
  refine lv_ishr hx hb dX12_four_17 ?_
  refine lv_topi (fun x_1 ex_1 => ?_)
  refine lv_i2b (v := x_1.toInt8.toInt32) hx hb dX12_four_18 rfl ?_
  refine va_bast hx hb hK hP hD hS 1 0 rfl rfl (xin 0 900 rfl (by decide) (by decide)) dX12_four_19 (fun H locs hP hD hS => ?_)
  have hP : va_P D vwCl [((q 200), .inr (12, [.ref (q 201), .ref (q 202), .int 0, .long 0, .long 1, .ref (q 203), .ref (q 204), .ref (q 205), .ref (q 206), .ref (q 207), .int 0, .int 0, .int 0, .int 0, .int 0, .int 0, .int (-1), .int (-1), .int 0, .int 0, .int 0, .ref (q 208), .int 0, .int 0, .ref (q 209), .ref (q 210), .ref (q 211), .ref (q 212), .ref (q 213), .int 0, .int 0, .ref (q 214), .ref (q 215), .ref (q 216), .int 0, .int 0])), ((q 206), .inl (k 0, 900, .inl (upd f (0 : Int32).toNatClampNeg (vp_nar .byte x_1.toInt8.toInt32))))] H := hP
  have hD : va_D A [((q 200), .inr (12, [.ref (q 201), .ref (q 202), .int 0, .long 0, .long 1, .ref (q 203), .ref (q 204), .ref (q 205), .ref (q 206), .ref (q 207), .int 0, .int 0, .int 0, .int 0, .int 0, .int 0, .int (-1), .int (-1), .int 0, .int 0, .int 0, .ref (q 208), .int 0, .int 0, .ref (q 209), .ref (q 210), .ref (q 211), .ref (q 212), .ref (q 213), .int 0, .int 0, .ref (q 214), .ref (q 215), .ref (q 216), .int 0, .int 0])), ((q 206), .inl (k 0, 900, .inl (upd f (0 : Int32).toNatClampNeg (vp_nar .byte x_1.toInt8.toInt32))))] := hD
  refine lv_aload_n hx hb dX12_four_20 rfl (lv_at hl 1 rfl) ?_
  refine lv_dup hx hb dX12_four_21 rfl ?_
  refine va_get (D := D) (ci := 12) (v := .int 0) (C := RX12) (T := TX12) (N := 36) hx hb hts iX12 hown hK hP 0 rfl rfl 10 (by decide) (hts _ qf_X12_106) (fun _ h => h) rfl dX12_four_22 ?_
  refine lv_iconst (v := 1) hx hb dX12_four_25 (by decide) ?_
  refine lv_iadd hx hb dX12_four_26 ?_
  refine lv_topi (fun x_2 ex_2 => ?_)
  obtain rfl : x_2 = 1 := ex_2.trans (by decide +kernel)
  refine va_put (D := D) (ci := 12) (v := .int 1) (ty := .int) (C := RX12) (T := TX12) (N := 36) hx hb hts iX12 tyX12 tyX12_ok nmX12 hown hK hP hD hS 0 rfl rfl 10 (by decide) (hts _ qf_X12_106) (fun _ h => h) rfl (by decide +kernel) rfl rfl (Nat.le_of_ble_eq_true rfl) dX12_four_27 (fun H locs hP hD hS => ?_)
  have hP : va_P D vwCl [((q 200), .inr (12, [.ref (q 201), .ref (q 202), .int 0, .long 0, .long 1, .ref (q 203), .ref (q 204), .ref (q 205), .ref (q 206), .ref (q 207), .int 1, .int 0, .int 0, .int 0, .int 0, .int 0, .int (-1), .int (-1), .int 0, .int 0, .int 0, .ref (q 208), .int 0, .int 0, .ref (q 209), .ref (q 210), .ref (q 211), .ref (q 212), .ref (q 213), .int 0, .int 0, .ref (q 214), .ref (q 215), .ref (q 216), .int 0, .int 0])), ((q 206), .inl (k 0, 900, .inl (upd f (0 : Int32).toNatClampNeg (vp_nar .byte x_1.toInt8.toInt32))))] H := hP
  have hD : va_D A [((q 200), .inr (12, [.ref (q 201), .ref (q 202), .int 0, .long 0, .long 1, .ref (q 203), .ref (q 204), .ref (q 205), .ref (q 206), .ref (q 207), .int 1, .int 0, .int 0, .int 0, .int 0, .int 0, .int (-1), .int (-1), .int 0, .int 0, .int 0, .ref (q 208), .int 0, .int 0, .ref (q 209), .ref (q 210), .ref (q 211), .ref (q 212), .ref (q 213), .int 0, .int 0, .ref (q 214), .ref (q 215), .ref (q 216), .int 0, .int 0])), ((q 206), .inl (k 0, 900, .inl (upd f (0 : Int32).toNatClampNeg (vp_nar .byte x_1.toInt8.toInt32))))] := hD
  refine lv_iinc (v := 16) (lv' := [(2, .int 16), (0, .ref (q 200)), (1, .int x)]) hx hb dX12_four_30 hl (k := 0) rfl (by decide +kernel) (by decide) rfl (fun ls hl => ?_)
  refine lv_goto (tgt := 3) hx hb dX12_four_33 (by decide) ?_
  refine lv_iload_n hx hb dX12_four_3 rfl (lv_at hl 0 rfl) ?_
  refine lv_if_lt (tgt := 36) hx hb dX12_four_4 (by decide) (fun c => absurd c (by decide)) (fun _ => ?_)
  refine lv_aload_n hx hb dX12_four_7 rfl (lv_at hl 1 rfl) ?_
  refine va_get (D := D) (ci := 12) (v := .ref (q 206)) (C := RX12) (T := TX12) (N := 36) hx hb hts iX12 hown hK hP 0 rfl rfl 8 (by decide) (hts _ qf_X12_30) (fun _ h => h) rfl dX12_four_8 ?_
  refine lv_aload_n hx hb dX12_four_11 rfl (lv_at hl 1 rfl) ?_
  refine va_get (D := D) (ci := 12) (v := .int 1) (C := RX12) (T := TX12) (N := 36) hx hb hts iX12 hown hK hP 0 rfl rfl 10 (by decide) (hts _ qf_X12_106) (fun _ h => h) rfl dX12_four_12 ?_
  refine lv_iload_n hx hb dX12_four_15 rfl (lv_at hl 2 rfl) ?_
  refine lv_iload_n hx hb dX12_four_16 rfl (lv_at hl 0 rfl) ?_
  refine lv_ishr hx hb dX12_four_17 ?_
  refine lv_topi (fun x_3 ex_3 => ?_)
  refine lv_i2b (v := x_3.toInt8.toInt32) hx hb dX12_four_18 rfl ?_
  refine va_bast hx hb hK hP hD hS 1 0 rfl rfl (xin 1 900 rfl (by decide) (by decide)) dX12_four_19 (fun H locs hP hD hS => ?_)
  have hP : va_P D vwCl [((q 200), .inr (12, [.ref (q 201), .ref (q 202), .int 0, .long 0, .long 1, .ref (q 203), .ref (q 204), .ref (q 205), .ref (q 206), .ref (q 207), .int 1, .int 0, .int 0, .int 0, .int 0, .int 0, .int (-1), .int (-1), .int 0, .int 0, .int 0, .ref (q 208), .int 0, .int 0, .ref (q 209), .ref (q 210), .ref (q 211), .ref (q 212), .ref (q 213), .int 0, .int 0, .ref (q 214), .ref (q 215), .ref (q 216), .int 0, .int 0])), ((q 206), .inl (k 0, 900, .inl (upd (upd f (0 : Int32).toNatClampNeg (vp_nar .byte x_1.toInt8.toInt32)) (1 : Int32).toNatClampNeg (vp_nar .byte x_3.toInt8.toInt32))))] H := hP
  have hD : va_D A [((q 200), .inr (12, [.ref (q 201), .ref (q 202), .int 0, .long 0, .long 1, .ref (q 203), .ref (q 204), .ref (q 205), .ref (q 206), .ref (q 207), .int 1, .int 0, .int 0, .int 0, .int 0, .int 0, .int (-1), .int (-1), .int 0, .int 0, .int 0, .ref (q 208), .int 0, .int 0, .ref (q 209), .ref (q 210), .ref (q 211), .ref (q 212), .ref (q 213), .int 0, .int 0, .ref (q 214), .ref (q 215), .ref (q 216), .int 0, .int 0])), ((q 206), .inl (k 0, 900, .inl (upd (upd f (0 : Int32).toNatClampNeg (vp_nar .byte x_1.toInt8.toInt32)) (1 : Int32).toNatClampNeg (vp_nar .byte x_3.toInt8.toInt32))))] := hD
  refine lv_aload_n hx hb dX12_four_20 rfl (lv_at hl 1 rfl) ?_
  refine lv_dup hx hb dX12_four_21 rfl ?_
  refine va_get (D := D) (ci := 12) (v := .int 1) (C := RX12) (T := TX12) (N := 36) hx hb hts iX12 hown hK hP 0 rfl rfl 10 (by decide) (hts _ qf_X12_106) (fun _ h => h) rfl dX12_four_22 ?_
  refine lv_iconst (v := 1) hx hb dX12_four_25 (by decide) ?_
  refine lv_iadd hx hb dX12_four_26 ?_
  refine lv_topi (fun x_4 ex_4 => ?_)
  obtain rfl : x_4 = 2 := ex_4.trans (by decide +kernel)
  refine va_put (D := D) (ci := 12) (v := .int 2) (ty := .int) (C := RX12) (T := TX12) (N := 36) hx hb hts iX12 tyX12 tyX12_ok nmX12 hown hK hP hD hS 0 rfl rfl 10 (by decide) (hts _ qf_X12_106) (fun _ h => h) rfl (by decide +kernel) rfl rfl (Nat.le_of_ble_eq_true rfl) dX12_four_27 (fun H locs hP hD hS => ?_)
  have hP : va_P D vwCl [((q 200), .inr (12, [.ref (q 201), .ref (q 202), .int 0, .long 0, .long 1, .ref (q 203), .ref (q 204), .ref (q 205), .ref (q 206), .ref (q 207), .int 2, .int 0, .int 0, .int 0, .int 0, .int 0, .int (-1), .int (-1), .int 0, .int 0, .int 0, .ref (q 208), .int 0, .int 0, .ref (q 209), .ref (q 210), .ref (q 211), .ref (q 212), .ref (q 213), .int 0, .int 0, .ref (q 214), .ref (q 215), .ref (q 216), .int 0, .int 0])), ((q 206), .inl (k 0, 900, .inl (upd (upd f (0 : Int32).toNatClampNeg (vp_nar .byte x_1.toInt8.toInt32)) (1 : Int32).toNatClampNeg (vp_nar .byte x_3.toInt8.toInt32))))] H := hP
  have hD : va_D A [((q 200), .inr (12, [.ref (q 201), .ref (q 202), .int 0, .long 0, .long 1, .ref (q 203), .ref (q 204), .ref (q 205), .ref (q 206), .ref (q 207), .int 2, .int 0, .int 0, .int 0, .int 0, .int 0, .int (-1), .int (-1), .int 0, .int 0, .int 0, .ref (q 208), .int 0, .int 0, .ref (q 209), .ref (q 210), .ref (q 211), .ref (q 212), .ref (q 213), .int 0, .int 0, .ref (q 214), .ref (q 215), .ref (q 216), .int 0, .int 0])), ((q 206), .inl (k 0, 900, .inl (upd (upd f (0 : Int32).toNatClampNeg (vp_nar .byte x_1.toInt8.toInt32)) (1 : Int32).toNatClampNeg (vp_nar .byte x_3.toInt8.toInt32))))] := hD
  refine lv_iinc (v := 8) (lv' := [(2, .int 8), (0, .ref (q 200)), (1, .int x)]) hx hb dX12_four_30 hl (k := 0) rfl (by decide +kernel) (by decide) rfl (fun ls hl => ?_)
  refine lv_goto (tgt := 3) hx hb dX12_four_33 (by decide) ?_
  refine lv_iload_n hx hb dX12_four_3 rfl (lv_at hl 0 rfl) ?_
  refine lv_if_lt (tgt := 36) hx hb dX12_four_4 (by decide) (fun c => absurd c (by decide)) (fun _ => ?_)
  refine lv_aload_n hx hb dX12_four_7 rfl (lv_at hl 1 rfl) ?_
  refine va_get (D := D) (ci := 12) (v := .ref (q 206)) (C := RX12) (T := TX12) (N := 36) hx hb hts iX12 hown hK hP 0 rfl rfl 8 (by decide) (hts _ qf_X12_30) (fun _ h => h) rfl dX12_four_8 ?_
  refine lv_aload_n hx hb dX12_four_11 rfl (lv_at hl 1 rfl) ?_
  refine va_get (D := D) (ci := 12) (v := .int 2) (C := RX12) (T := TX12) (N := 36) hx hb hts iX12 hown hK hP 0 rfl rfl 10 (by decide) (hts _ qf_X12_106) (fun _ h => h) rfl dX12_four_12 ?_
  refine lv_iload_n hx hb dX12_four_15 rfl (lv_at hl 2 rfl) ?_
  refine lv_iload_n hx hb dX12_four_16 rfl (lv_at hl 0 rfl) ?_
  refine lv_ishr hx hb dX12_four_17 ?_
  refine lv_topi (fun x_5 ex_5 => ?_)
  refine lv_i2b (v := x_5.toInt8.toInt32) hx hb dX12_four_18 rfl ?_
  refine va_bast hx hb hK hP hD hS 1 0 rfl rfl (xin 2 900 rfl (by decide) (by decide)) dX12_four_19 (fun H locs hP hD hS => ?_)
  have hP : va_P D vwCl [((q 200), .inr (12, [.ref (q 201), .ref (q 202), .int 0, .long 0, .long 1, .ref (q 203), .ref (q 204), .ref (q 205), .ref (q 206), .ref (q 207), .int 2, .int 0, .int 0, .int 0, .int 0, .int 0, .int (-1), .int (-1), .int 0, .int 0, .int 0, .ref (q 208), .int 0, .int 0, .ref (q 209), .ref (q 210), .ref (q 211), .ref (q 212), .ref (q 213), .int 0, .int 0, .ref (q 214), .ref (q 215), .ref (q 216), .int 0, .int 0])), ((q 206), .inl (k 0, 900, .inl (upd (upd (upd f (0 : Int32).toNatClampNeg (vp_nar .byte x_1.toInt8.toInt32)) (1 : Int32).toNatClampNeg (vp_nar .byte x_3.toInt8.toInt32)) (2 : Int32).toNatClampNeg (vp_nar .byte x_5.toInt8.toInt32))))] H := hP
  have hD : va_D A [((q 200), .inr (12, [.ref (q 201), .ref (q 202), .int 0, .long 0, .long 1, .ref (q 203), .ref (q 204), .ref (q 205), .ref (q 206), .ref (q 207), .int 2, .int 0, .int 0, .int 0, .int 0, .int 0, .int (-1), .int (-1), .int 0, .int 0, .int 0, .ref (q 208), .int 0, .int 0, .ref (q 209), .ref (q 210), .ref (q 211), .ref (q 212), .ref (q 213), .int 0, .int 0, .ref (q 214), .ref (q 215), .ref (q 216), .int 0, .int 0])), ((q 206), .inl (k 0, 900, .inl (upd (upd (upd f (0 : Int32).toNatClampNeg (vp_nar .byte x_1.toInt8.toInt32)) (1 : Int32).toNatClampNeg (vp_nar .byte x_3.toInt8.toInt32)) (2 : Int32).toNatClampNeg (vp_nar .byte x_5.toInt8.toInt32))))] := hD
  refine lv_aload_n hx hb dX12_four_20 rfl (lv_at hl 1 rfl) ?_
  refine lv_dup hx hb dX12_four_21 rfl ?_
  refine va_get (D := D) (ci := 12) (v := .int 2) (C := RX12) (T := TX12) (N := 36) hx hb hts iX12 hown hK hP 0 rfl rfl 10 (by decide) (hts _ qf_X12_106) (fun _ h => h) rfl dX12_four_22 ?_
  refine lv_iconst (v := 1) hx hb dX12_four_25 (by decide) ?_
  refine lv_iadd hx hb dX12_four_26 ?_
  refine lv_topi (fun x_6 ex_6 => ?_)
  obtain rfl : x_6 = 3 := ex_6.trans (by decide +kernel)
  refine va_put (D := D) (ci := 12) (v := .int 3) (ty := .int) (C := RX12) (T := TX12) (N := 36) hx hb hts iX12 tyX12 tyX12_ok nmX12 hown hK hP hD hS 0 rfl rfl 10 (by decide) (hts _ qf_X12_106) (fun _ h => h) rfl (by decide +kernel) rfl rfl (Nat.le_of_ble_eq_true rfl) dX12_four_27 (fun H locs hP hD hS => ?_)
  have hP : va_P D vwCl [((q 200), .inr (12, [.ref (q 201), .ref (q 202), .int 0, .long 0, .long 1, .ref (q 203), .ref (q 204), .ref (q 205), .ref (q 206), .ref (q 207), .int 3, .int 0, .int 0, .int 0, .int 0, .int 0, .int (-1), .int (-1), .int 0, .int 0, .int 0, .ref (q 208), .int 0, .int 0, .ref (q 209), .ref (q 210), .ref (q 211), .ref (q 212), .ref (q 213), .int 0, .int 0, .ref (q 214), .ref (q 215), .ref (q 216), .int 0, .int 0])), ((q 206), .inl (k 0, 900, .inl (upd (upd (upd f (0 : Int32).toNatClampNeg (vp_nar .byte x_1.toInt8.toInt32)) (1 : Int32).toNatClampNeg (vp_nar .byte x_3.toInt8.toInt32)) (2 : Int32).toNatClampNeg (vp_nar .byte x_5.toInt8.toInt32))))] H := hP
  have hD : va_D A [((q 200), .inr (12, [.ref (q 201), .ref (q 202), .int 0, .long 0, .long 1, .ref (q 203), .ref (q 204), .ref (q 205), .ref (q 206), .ref (q 207), .int 3, .int 0, .int 0, .int 0, .int 0, .int 0, .int (-1), .int (-1), .int 0, .int 0, .int 0, .ref (q 208), .int 0, .int 0, .ref (q 209), .ref (q 210), .ref (q 211), .ref (q 212), .ref (q 213), .int 0, .int 0, .ref (q 214), .ref (q 215), .ref (q 216), .int 0, .int 0])), ((q 206), .inl (k 0, 900, .inl (upd (upd (upd f (0 : Int32).toNatClampNeg (vp_nar .byte x_1.toInt8.toInt32)) (1 : Int32).toNatClampNeg (vp_nar .byte x_3.toInt8.toInt32)) (2 : Int32).toNatClampNeg (vp_nar .byte x_5.toInt8.toInt32))))] := hD
  refine lv_iinc (v := 0) (lv' := [(2, .int 0), (0, .ref (q 200)), (1, .int x)]) hx hb dX12_four_30 hl (k := 0) rfl (by decide +kernel) (by decide) rfl (fun ls hl => ?_)
  refine lv_goto (tgt := 3) hx hb dX12_four_33 (by decide) ?_
  refine lv_iload_n hx hb dX12_four_3 rfl (lv_at hl 0 rfl) ?_
  refine lv_if_lt (tgt := 36) hx hb dX12_four_4 (by decide) (fun c => absurd c (by decide)) (fun _ => ?_)
  refine lv_aload_n hx hb dX12_four_7 rfl (lv_at hl 1 rfl) ?_
  refine va_get (D := D) (ci := 12) (v := .ref (q 206)) (C := RX12) (T := TX12) (N := 36) hx hb hts iX12 hown hK hP 0 rfl rfl 8 (by decide) (hts _ qf_X12_30) (fun _ h => h) rfl dX12_four_8 ?_
  refine lv_aload_n hx hb dX12_four_11 rfl (lv_at hl 1 rfl) ?_
  refine va_get (D := D) (ci := 12) (v := .int 3) (C := RX12) (T := TX12) (N := 36) hx hb hts iX12 hown hK hP 0 rfl rfl 10 (by decide) (hts _ qf_X12_106) (fun _ h => h) rfl dX12_four_12 ?_
  refine lv_iload_n hx hb dX12_four_15 rfl (lv_at hl 2 rfl) ?_
  refine lv_iload_n hx hb dX12_four_16 rfl (lv_at hl 0 rfl) ?_
  refine lv_ishr hx hb dX12_four_17 ?_
  refine lv_topi (fun x_7 ex_7 => ?_)
  refine lv_i2b (v := x_7.toInt8.toInt32) hx hb dX12_four_18 rfl ?_
  refine va_bast hx hb hK hP hD hS 1 0 rfl rfl (xin 3 900 rfl (by decide) (by decide)) dX12_four_19 (fun H locs hP hD hS => ?_)
  have hP : va_P D vwCl [((q 200), .inr (12, [.ref (q 201), .ref (q 202), .int 0, .long 0, .long 1, .ref (q 203), .ref (q 204), .ref (q 205), .ref (q 206), .ref (q 207), .int 3, .int 0, .int 0, .int 0, .int 0, .int 0, .int (-1), .int (-1), .int 0, .int 0, .int 0, .ref (q 208), .int 0, .int 0, .ref (q 209), .ref (q 210), .ref (q 211), .ref (q 212), .ref (q 213), .int 0, .int 0, .ref (q 214), .ref (q 215), .ref (q 216), .int 0, .int 0])), ((q 206), .inl (k 0, 900, .inl (upd (upd (upd (upd f (0 : Int32).toNatClampNeg (vp_nar .byte x_1.toInt8.toInt32)) (1 : Int32).toNatClampNeg (vp_nar .byte x_3.toInt8.toInt32)) (2 : Int32).toNatClampNeg (vp_nar .byte x_5.toInt8.toInt32)) (3 : Int32).toNatClampNeg (vp_nar .byte x_7.toInt8.toInt32))))] H := hP
  have hD : va_D A [((q 200), .inr (12, [.ref (q 201), .ref (q 202), .int 0, .long 0, .long 1, .ref (q 203), .ref (q 204), .ref (q 205), .ref (q 206), .ref (q 207), .int 3, .int 0, .int 0, .int 0, .int 0, .int 0, .int (-1), .int (-1), .int 0, .int 0, .int 0, .ref (q 208), .int 0, .int 0, .ref (q 209), .ref (q 210), .ref (q 211), .ref (q 212), .ref (q 213), .int 0, .int 0, .ref (q 214), .ref (q 215), .ref (q 216), .int 0, .int 0])), ((q 206), .inl (k 0, 900, .inl (upd (upd (upd (upd f (0 : Int32).toNatClampNeg (vp_nar .byte x_1.toInt8.toInt32)) (1 : Int32).toNatClampNeg (vp_nar .byte x_3.toInt8.toInt32)) (2 : Int32).toNatClampNeg (vp_nar .byte x_5.toInt8.toInt32)) (3 : Int32).toNatClampNeg (vp_nar .byte x_7.toInt8.toInt32))))] := hD
  refine lv_aload_n hx hb dX12_four_20 rfl (lv_at hl 1 rfl) ?_
  refine lv_dup hx hb dX12_four_21 rfl ?_
  refine va_get (D := D) (ci := 12) (v := .int 3) (C := RX12) (T := TX12) (N := 36) hx hb hts iX12 hown hK hP 0 rfl rfl 10 (by decide) (hts _ qf_X12_106) (fun _ h => h) rfl dX12_four_22 ?_
  refine lv_iconst (v := 1) hx hb dX12_four_25 (by decide) ?_
  refine lv_iadd hx hb dX12_four_26 ?_
  refine lv_topi (fun x_8 ex_8 => ?_)
  obtain rfl : x_8 = 4 := ex_8.trans (by decide +kernel)
  refine va_put (D := D) (ci := 12) (v := .int 4) (ty := .int) (C := RX12) (T := TX12) (N := 36) hx hb hts iX12 tyX12 tyX12_ok nmX12 hown hK hP hD hS 0 rfl rfl 10 (by decide) (hts _ qf_X12_106) (fun _ h => h) rfl (by decide +kernel) rfl rfl (Nat.le_of_ble_eq_true rfl) dX12_four_27 (fun H locs hP hD hS => ?_)
  have hP : va_P D vwCl [((q 200), .inr (12, [.ref (q 201), .ref (q 202), .int 0, .long 0, .long 1, .ref (q 203), .ref (q 204), .ref (q 205), .ref (q 206), .ref (q 207), .int 4, .int 0, .int 0, .int 0, .int 0, .int 0, .int (-1), .int (-1), .int 0, .int 0, .int 0, .ref (q 208), .int 0, .int 0, .ref (q 209), .ref (q 210), .ref (q 211), .ref (q 212), .ref (q 213), .int 0, .int 0, .ref (q 214), .ref (q 215), .ref (q 216), .int 0, .int 0])), ((q 206), .inl (k 0, 900, .inl (upd (upd (upd (upd f (0 : Int32).toNatClampNeg (vp_nar .byte x_1.toInt8.toInt32)) (1 : Int32).toNatClampNeg (vp_nar .byte x_3.toInt8.toInt32)) (2 : Int32).toNatClampNeg (vp_nar .byte x_5.toInt8.toInt32)) (3 : Int32).toNatClampNeg (vp_nar .byte x_7.toInt8.toInt32))))] H := hP
  have hD : va_D A [((q 200), .inr (12, [.ref (q 201), .ref (q 202), .int 0, .long 0, .long 1, .ref (q 203), .ref (q 204), .ref (q 205), .ref (q 206), .ref (q 207), .int 4, .int 0, .int 0, .int 0, .int 0, .int 0, .int (-1), .int (-1), .int 0, .int 0, .int 0, .ref (q 208), .int 0, .int 0, .ref (q 209), .ref (q 210), .ref (q 211), .ref (q 212), .ref (q 213), .int 0, .int 0, .ref (q 214), .ref (q 215), .ref (q 216), .int 0, .int 0])), ((q 206), .inl (k 0, 900, .inl (upd (upd (upd (upd f (0 : Int32).toNatClampNeg (vp_nar .byte x_1.toInt8.toInt32)) (1 : Int32).toNatClampNeg (vp_nar .byte x_3.toInt8.toInt32)) (2 : Int32).toNatClampNeg (vp_nar .byte x_5.toInt8.toInt32)) (3 : Int32).toNatClampNeg (vp_nar .byte x_7.toInt8.toInt32))))] := hD
  refine lv_iinc (v := (-8)) (lv' := [(2, .int (-8)), (0, .ref (q 200)), (1, .int x)]) hx hb dX12_four_30 hl (k := 0) rfl (by decide +kernel) (by decide) rfl (fun ls hl => ?_)
  refine lv_goto (tgt := 3) hx hb dX12_four_33 (by decide) ?_
  refine lv_iload_n hx hb dX12_four_3 rfl (lv_at hl 0 rfl) ?_
  refine lv_if_lt (tgt := 36) hx hb dX12_four_4 (by decide) (fun _ => ?_) (fun c => absurd (by decide) c)
  exact EWv hx hb hr hlocks hS (upd (upd (upd (upd f (0 : Int32).toNatClampNeg (vp_nar .byte x_1.toInt8.toInt32)) (1 : Int32).toNatClampNeg (vp_nar .byte x_3.toInt8.toInt32)) (2 : Int32).toNatClampNeg (vp_nar .byte x_5.toInt8.toInt32)) (3 : Int32).toNatClampNeg (vp_nar .byte x_7.toInt8.toInt32)) rfl trivial hP hD dX12_four_36
set_option maxHeartbeats 4000000 in
set_option maxRecDepth 100000 in
theorem m_four4 (l : Launch) (D : va_G) (k : Nat → ClassId) (q : Nat → Nat) (f : Nat → Int32) (x : Int32) : WD (σ := (Nat → Int32)) l yX12_four cX12_four 3 none 0 0 0 D k [.ref (q 200), .int x] [((q 200), .inr (12, [.ref (q 201), .ref (q 202), .int 0, .long 0, .long 1, .ref (q 203), .ref (q 204), .ref (q 205), .ref (q 206), .ref (q 207), .int 4, .int 0, .int 0, .int 0, .int 0, .int 0, .int (-1), .int (-1), .int 0, .int 0, .int 0, .ref (q 208), .int 0, .int 0, .ref (q 209), .ref (q 210), .ref (q 211), .ref (q 212), .ref (q 213), .int 0, .int 0, .ref (q 214), .ref (q 215), .ref (q 216), .int 0, .int 0])), ((q 206), .inl (k 0, 900, .inl f))] (fun _ => none) (fun _ => True) (fun g => [((q 200), .inr (12, [.ref (q 201), .ref (q 202), .int 0, .long 0, .long 1, .ref (q 203), .ref (q 204), .ref (q 205), .ref (q 206), .ref (q 207), .int 8, .int 0, .int 0, .int 0, .int 0, .int 0, .int (-1), .int (-1), .int 0, .int 0, .int 0, .ref (q 208), .int 0, .int 0, .ref (q 209), .ref (q 210), .ref (q 211), .ref (q 212), .ref (q 213), .int 0, .int 0, .ref (q 214), .ref (q 215), .ref (q 216), .int 0, .int 0])), ((q 206), .inl (k 0, 900, .inl g))]) := by
  refine MW (by decide) (Nat.le_of_ble_eq_true rfl) (fun p e s m below meth c ls A hx hb hml hr hlocks hin hts hown hKK hP hD hS hA hl => ?_)
  have hK := hKK.1
  have hl : lv_has ls 3 [(0, .ref (q 200)), (1, .int x)] := hl
  refine lv_bipush (v := 24) hx hb dX12_four_0 (by decide) ?_
  refine lv_istore_n (lv' := [(2, .int 24), (0, .ref (q 200)), (1, .int x)]) hx hb dX12_four_2 rfl hl (by decide) rfl (fun ls hl => ?_)
  refine lv_iload_n hx hb dX12_four_3 rfl (lv_at hl 0 rfl) ?_
  refine lv_if_lt (tgt := 36) hx hb dX12_four_4 (by decide) (fun c => absurd c (by decide)) (fun _ => ?_)
  refine lv_aload_n hx hb dX12_four_7 rfl (lv_at hl 1 rfl) ?_
  refine va_get (D := D) (ci := 12) (v := .ref (q 206)) (C := RX12) (T := TX12) (N := 36) hx hb hts iX12 hown hK hP 0 rfl rfl 8 (by decide) (hts _ qf_X12_30) (fun _ h => h) rfl dX12_four_8 ?_
  refine lv_aload_n hx hb dX12_four_11 rfl (lv_at hl 1 rfl) ?_
  refine va_get (D := D) (ci := 12) (v := .int 4) (C := RX12) (T := TX12) (N := 36) hx hb hts iX12 hown hK hP 0 rfl rfl 10 (by decide) (hts _ qf_X12_106) (fun _ h => h) rfl dX12_four_12 ?_
  refine lv_iload_n hx hb dX12_four_15 rfl (lv_at hl 2 rfl) ?_
  refine lv_iload_n hx hb dX12_four_16 rfl (lv_at hl 0 rfl) ?_
  refine lv_ishr hx hb dX12_four_17 ?_
  refine lv_topi (fun x_1 ex_1 => ?_)
  refine lv_i2b (v := x_1.toInt8.toInt32) hx hb dX12_four_18 rfl ?_
  refine va_bast hx hb hK hP hD hS 1 0 rfl rfl (xin 4 900 rfl (by decide) (by decide)) dX12_four_19 (fun H locs hP hD hS => ?_)
  have hP : va_P D vwCl [((q 200), .inr (12, [.ref (q 201), .ref (q 202), .int 0, .long 0, .long 1, .ref (q 203), .ref (q 204), .ref (q 205), .ref (q 206), .ref (q 207), .int 4, .int 0, .int 0, .int 0, .int 0, .int 0, .int (-1), .int (-1), .int 0, .int 0, .int 0, .ref (q 208), .int 0, .int 0, .ref (q 209), .ref (q 210), .ref (q 211), .ref (q 212), .ref (q 213), .int 0, .int 0, .ref (q 214), .ref (q 215), .ref (q 216), .int 0, .int 0])), ((q 206), .inl (k 0, 900, .inl (upd f (4 : Int32).toNatClampNeg (vp_nar .byte x_1.toInt8.toInt32))))] H := hP
  have hD : va_D A [((q 200), .inr (12, [.ref (q 201), .ref (q 202), .int 0, .long 0, .long 1, .ref (q 203), .ref (q 204), .ref (q 205), .ref (q 206), .ref (q 207), .int 4, .int 0, .int 0, .int 0, .int 0, .int 0, .int (-1), .int (-1), .int 0, .int 0, .int 0, .ref (q 208), .int 0, .int 0, .ref (q 209), .ref (q 210), .ref (q 211), .ref (q 212), .ref (q 213), .int 0, .int 0, .ref (q 214), .ref (q 215), .ref (q 216), .int 0, .int 0])), ((q 206), .inl (k 0, 900, .inl (upd f (4 : Int32).toNatClampNeg (vp_nar .byte x_1.toInt8.toInt32))))] := hD
  refine lv_aload_n hx hb dX12_four_20 rfl (lv_at hl 1 rfl) ?_
  refine lv_dup hx hb dX12_four_21 rfl ?_
  refine va_get (D := D) (ci := 12) (v := .int 4) (C := RX12) (T := TX12) (N := 36) hx hb hts iX12 hown hK hP 0 rfl rfl 10 (by decide) (hts _ qf_X12_106) (fun _ h => h) rfl dX12_four_22 ?_
  refine lv_iconst (v := 1) hx hb dX12_four_25 (by decide) ?_
  refine lv_iadd hx hb dX12_four_26 ?_
  refine lv_topi (fun x_2 ex_2 => ?_)
  obtain rfl : x_2 = 5 := ex_2.trans (by decide +kernel)
  refine va_put (D := D) (ci := 12) (v := .int 5) (ty := .int) (C := RX12) (T := TX12) (N := 36) hx hb hts iX12 tyX12 tyX12_ok nmX12 hown hK hP hD hS 0 rfl rfl 10 (by decide) (hts _ qf_X12_106) (fun _ h => h) rfl (by decide +kernel) rfl rfl (Nat.le_of_ble_eq_true rfl) dX12_four_27 (fun H locs hP hD hS => ?_)
  have hP : va_P D vwCl [((q 200), .inr (12, [.ref (q 201), .ref (q 202), .int 0, .long 0, .long 1, .ref (q 203), .ref (q 204), .ref (q 205), .ref (q 206), .ref (q 207), .int 5, .int 0, .int 0, .int 0, .int 0, .int 0, .int (-1), .int (-1), .int 0, .int 0, .int 0, .ref (q 208), .int 0, .int 0, .ref (q 209), .ref (q 210), .ref (q 211), .ref (q 212), .ref (q 213), .int 0, .int 0, .ref (q 214), .ref (q 215), .ref (q 216), .int 0, .int 0])), ((q 206), .inl (k 0, 900, .inl (upd f (4 : Int32).toNatClampNeg (vp_nar .byte x_1.toInt8.toInt32))))] H := hP
  have hD : va_D A [((q 200), .inr (12, [.ref (q 201), .ref (q 202), .int 0, .long 0, .long 1, .ref (q 203), .ref (q 204), .ref (q 205), .ref (q 206), .ref (q 207), .int 5, .int 0, .int 0, .int 0, .int 0, .int 0, .int (-1), .int (-1), .int 0, .int 0, .int 0, .ref (q 208), .int 0, .int 0, .ref (q 209), .ref (q 210), .ref (q 211), .ref (q 212), .ref (q 213), .int 0, .int 0, .ref (q 214), .ref (q 215), .ref (q 216), .int 0, .int 0])), ((q 206), .inl (k 0, 900, .inl (upd f (4 : Int32).toNatClampNeg (vp_nar .byte x_1.toInt8.toInt32))))] := hD
  refine lv_iinc (v := 16) (lv' := [(2, .int 16), (0, .ref (q 200)), (1, .int x)]) hx hb dX12_four_30 hl (k := 0) rfl (by decide +kernel) (by decide) rfl (fun ls hl => ?_)
  refine lv_goto (tgt := 3) hx hb dX12_four_33 (by decide) ?_
  refine lv_iload_n hx hb dX12_four_3 rfl (lv_at hl 0 rfl) ?_
  refine lv_if_lt (tgt := 36) hx hb dX12_four_4 (by decide) (fun c => absurd c (by decide)) (fun _ => ?_)
  refine lv_aload_n hx hb dX12_four_7 rfl (lv_at hl 1 rfl) ?_
  refine va_get (D := D) (ci := 12) (v := .ref (q 206)) (C := RX12) (T := TX12) (N := 36) hx hb hts iX12 hown hK hP 0 rfl rfl 8 (by decide) (hts _ qf_X12_30) (fun _ h => h) rfl dX12_four_8 ?_
  refine lv_aload_n hx hb dX12_four_11 rfl (lv_at hl 1 rfl) ?_
  refine va_get (D := D) (ci := 12) (v := .int 5) (C := RX12) (T := TX12) (N := 36) hx hb hts iX12 hown hK hP 0 rfl rfl 10 (by decide) (hts _ qf_X12_106) (fun _ h => h) rfl dX12_four_12 ?_
  refine lv_iload_n hx hb dX12_four_15 rfl (lv_at hl 2 rfl) ?_
  refine lv_iload_n hx hb dX12_four_16 rfl (lv_at hl 0 rfl) ?_
  refine lv_ishr hx hb dX12_four_17 ?_
  refine lv_topi (fun x_3 ex_3 => ?_)
  refine lv_i2b (v := x_3.toInt8.toInt32) hx hb dX12_four_18 rfl ?_
  refine va_bast hx hb hK hP hD hS 1 0 rfl rfl (xin 5 900 rfl (by decide) (by decide)) dX12_four_19 (fun H locs hP hD hS => ?_)
  have hP : va_P D vwCl [((q 200), .inr (12, [.ref (q 201), .ref (q 202), .int 0, .long 0, .long 1, .ref (q 203), .ref (q 204), .ref (q 205), .ref (q 206), .ref (q 207), .int 5, .int 0, .int 0, .int 0, .int 0, .int 0, .int (-1), .int (-1), .int 0, .int 0, .int 0, .ref (q 208), .int 0, .int 0, .ref (q 209), .ref (q 210), .ref (q 211), .ref (q 212), .ref (q 213), .int 0, .int 0, .ref (q 214), .ref (q 215), .ref (q 216), .int 0, .int 0])), ((q 206), .inl (k 0, 900, .inl (upd (upd f (4 : Int32).toNatClampNeg (vp_nar .byte x_1.toInt8.toInt32)) (5 : Int32).toNatClampNeg (vp_nar .byte x_3.toInt8.toInt32))))] H := hP
  have hD : va_D A [((q 200), .inr (12, [.ref (q 201), .ref (q 202), .int 0, .long 0, .long 1, .ref (q 203), .ref (q 204), .ref (q 205), .ref (q 206), .ref (q 207), .int 5, .int 0, .int 0, .int 0, .int 0, .int 0, .int (-1), .int (-1), .int 0, .int 0, .int 0, .ref (q 208), .int 0, .int 0, .ref (q 209), .ref (q 210), .ref (q 211), .ref (q 212), .ref (q 213), .int 0, .int 0, .ref (q 214), .ref (q 215), .ref (q 216), .int 0, .int 0])), ((q 206), .inl (k 0, 900, .inl (upd (upd f (4 : Int32).toNatClampNeg (vp_nar .byte x_1.toInt8.toInt32)) (5 : Int32).toNatClampNeg (vp_nar .byte x_3.toInt8.toInt32))))] := hD
  refine lv_aload_n hx hb dX12_four_20 rfl (lv_at hl 1 rfl) ?_
  refine lv_dup hx hb dX12_four_21 rfl ?_
  refine va_get (D := D) (ci := 12) (v := .int 5) (C := RX12) (T := TX12) (N := 36) hx hb hts iX12 hown hK hP 0 rfl rfl 10 (by decide) (hts _ qf_X12_106) (fun _ h => h) rfl dX12_four_22 ?_
  refine lv_iconst (v := 1) hx hb dX12_four_25 (by decide) ?_
  refine lv_iadd hx hb dX12_four_26 ?_
  refine lv_topi (fun x_4 ex_4 => ?_)
  obtain rfl : x_4 = 6 := ex_4.trans (by decide +kernel)
  refine va_put (D := D) (ci := 12) (v := .int 6) (ty := .int) (C := RX12) (T := TX12) (N := 36) hx hb hts iX12 tyX12 tyX12_ok nmX12 hown hK hP hD hS 0 rfl rfl 10 (by decide) (hts _ qf_X12_106) (fun _ h => h) rfl (by decide +kernel) rfl rfl (Nat.le_of_ble_eq_true rfl) dX12_four_27 (fun H locs hP hD hS => ?_)
  have hP : va_P D vwCl [((q 200), .inr (12, [.ref (q 201), .ref (q 202), .int 0, .long 0, .long 1, .ref (q 203), .ref (q 204), .ref (q 205), .ref (q 206), .ref (q 207), .int 6, .int 0, .int 0, .int 0, .int 0, .int 0, .int (-1), .int (-1), .int 0, .int 0, .int 0, .ref (q 208), .int 0, .int 0, .ref (q 209), .ref (q 210), .ref (q 211), .ref (q 212), .ref (q 213), .int 0, .int 0, .ref (q 214), .ref (q 215), .ref (q 216), .int 0, .int 0])), ((q 206), .inl (k 0, 900, .inl (upd (upd f (4 : Int32).toNatClampNeg (vp_nar .byte x_1.toInt8.toInt32)) (5 : Int32).toNatClampNeg (vp_nar .byte x_3.toInt8.toInt32))))] H := hP
  have hD : va_D A [((q 200), .inr (12, [.ref (q 201), .ref (q 202), .int 0, .long 0, .long 1, .ref (q 203), .ref (q 204), .ref (q 205), .ref (q 206), .ref (q 207), .int 6, .int 0, .int 0, .int 0, .int 0, .int 0, .int (-1), .int (-1), .int 0, .int 0, .int 0, .ref (q 208), .int 0, .int 0, .ref (q 209), .ref (q 210), .ref (q 211), .ref (q 212), .ref (q 213), .int 0, .int 0, .ref (q 214), .ref (q 215), .ref (q 216), .int 0, .int 0])), ((q 206), .inl (k 0, 900, .inl (upd (upd f (4 : Int32).toNatClampNeg (vp_nar .byte x_1.toInt8.toInt32)) (5 : Int32).toNatClampNeg (vp_nar .byte x_3.toInt8.toInt32))))] := hD
  refine lv_iinc (v := 8) (lv' := [(2, .int 8), (0, .ref (q 200)), (1, .int x)]) hx hb dX12_four_30 hl (k := 0) rfl (by decide +kernel) (by decide) rfl (fun ls hl => ?_)
  refine lv_goto (tgt := 3) hx hb dX12_four_33 (by decide) ?_
  refine lv_iload_n hx hb dX12_four_3 rfl (lv_at hl 0 rfl) ?_
  refine lv_if_lt (tgt := 36) hx hb dX12_four_4 (by decide) (fun c => absurd c (by decide)) (fun _ => ?_)
  refine lv_aload_n hx hb dX12_four_7 rfl (lv_at hl 1 rfl) ?_
  refine va_get (D := D) (ci := 12) (v := .ref (q 206)) (C := RX12) (T := TX12) (N := 36) hx hb hts iX12 hown hK hP 0 rfl rfl 8 (by decide) (hts _ qf_X12_30) (fun _ h => h) rfl dX12_four_8 ?_
  refine lv_aload_n hx hb dX12_four_11 rfl (lv_at hl 1 rfl) ?_
  refine va_get (D := D) (ci := 12) (v := .int 6) (C := RX12) (T := TX12) (N := 36) hx hb hts iX12 hown hK hP 0 rfl rfl 10 (by decide) (hts _ qf_X12_106) (fun _ h => h) rfl dX12_four_12 ?_
  refine lv_iload_n hx hb dX12_four_15 rfl (lv_at hl 2 rfl) ?_
  refine lv_iload_n hx hb dX12_four_16 rfl (lv_at hl 0 rfl) ?_
  refine lv_ishr hx hb dX12_four_17 ?_
  refine lv_topi (fun x_5 ex_5 => ?_)
  refine lv_i2b (v := x_5.toInt8.toInt32) hx hb dX12_four_18 rfl ?_
  refine va_bast hx hb hK hP hD hS 1 0 rfl rfl (xin 6 900 rfl (by decide) (by decide)) dX12_four_19 (fun H locs hP hD hS => ?_)
  have hP : va_P D vwCl [((q 200), .inr (12, [.ref (q 201), .ref (q 202), .int 0, .long 0, .long 1, .ref (q 203), .ref (q 204), .ref (q 205), .ref (q 206), .ref (q 207), .int 6, .int 0, .int 0, .int 0, .int 0, .int 0, .int (-1), .int (-1), .int 0, .int 0, .int 0, .ref (q 208), .int 0, .int 0, .ref (q 209), .ref (q 210), .ref (q 211), .ref (q 212), .ref (q 213), .int 0, .int 0, .ref (q 214), .ref (q 215), .ref (q 216), .int 0, .int 0])), ((q 206), .inl (k 0, 900, .inl (upd (upd (upd f (4 : Int32).toNatClampNeg (vp_nar .byte x_1.toInt8.toInt32)) (5 : Int32).toNatClampNeg (vp_nar .byte x_3.toInt8.toInt32)) (6 : Int32).toNatClampNeg (vp_nar .byte x_5.toInt8.toInt32))))] H := hP
  have hD : va_D A [((q 200), .inr (12, [.ref (q 201), .ref (q 202), .int 0, .long 0, .long 1, .ref (q 203), .ref (q 204), .ref (q 205), .ref (q 206), .ref (q 207), .int 6, .int 0, .int 0, .int 0, .int 0, .int 0, .int (-1), .int (-1), .int 0, .int 0, .int 0, .ref (q 208), .int 0, .int 0, .ref (q 209), .ref (q 210), .ref (q 211), .ref (q 212), .ref (q 213), .int 0, .int 0, .ref (q 214), .ref (q 215), .ref (q 216), .int 0, .int 0])), ((q 206), .inl (k 0, 900, .inl (upd (upd (upd f (4 : Int32).toNatClampNeg (vp_nar .byte x_1.toInt8.toInt32)) (5 : Int32).toNatClampNeg (vp_nar .byte x_3.toInt8.toInt32)) (6 : Int32).toNatClampNeg (vp_nar .byte x_5.toInt8.toInt32))))] := hD
  refine lv_aload_n hx hb dX12_four_20 rfl (lv_at hl 1 rfl) ?_
  refine lv_dup hx hb dX12_four_21 rfl ?_
  refine va_get (D := D) (ci := 12) (v := .int 6) (C := RX12) (T := TX12) (N := 36) hx hb hts iX12 hown hK hP 0 rfl rfl 10 (by decide) (hts _ qf_X12_106) (fun _ h => h) rfl dX12_four_22 ?_
  refine lv_iconst (v := 1) hx hb dX12_four_25 (by decide) ?_
  refine lv_iadd hx hb dX12_four_26 ?_
  refine lv_topi (fun x_6 ex_6 => ?_)
  obtain rfl : x_6 = 7 := ex_6.trans (by decide +kernel)
  refine va_put (D := D) (ci := 12) (v := .int 7) (ty := .int) (C := RX12) (T := TX12) (N := 36) hx hb hts iX12 tyX12 tyX12_ok nmX12 hown hK hP hD hS 0 rfl rfl 10 (by decide) (hts _ qf_X12_106) (fun _ h => h) rfl (by decide +kernel) rfl rfl (Nat.le_of_ble_eq_true rfl) dX12_four_27 (fun H locs hP hD hS => ?_)
  have hP : va_P D vwCl [((q 200), .inr (12, [.ref (q 201), .ref (q 202), .int 0, .long 0, .long 1, .ref (q 203), .ref (q 204), .ref (q 205), .ref (q 206), .ref (q 207), .int 7, .int 0, .int 0, .int 0, .int 0, .int 0, .int (-1), .int (-1), .int 0, .int 0, .int 0, .ref (q 208), .int 0, .int 0, .ref (q 209), .ref (q 210), .ref (q 211), .ref (q 212), .ref (q 213), .int 0, .int 0, .ref (q 214), .ref (q 215), .ref (q 216), .int 0, .int 0])), ((q 206), .inl (k 0, 900, .inl (upd (upd (upd f (4 : Int32).toNatClampNeg (vp_nar .byte x_1.toInt8.toInt32)) (5 : Int32).toNatClampNeg (vp_nar .byte x_3.toInt8.toInt32)) (6 : Int32).toNatClampNeg (vp_nar .byte x_5.toInt8.toInt32))))] H := hP
  have hD : va_D A [((q 200), .inr (12, [.ref (q 201), .ref (q 202), .int 0, .long 0, .long 1, .ref (q 203), .ref (q 204), .ref (q 205), .ref (q 206), .ref (q 207), .int 7, .int 0, .int 0, .int 0, .int 0, .int 0, .int (-1), .int (-1), .int 0, .int 0, .int 0, .ref (q 208), .int 0, .int 0, .ref (q 209), .ref (q 210), .ref (q 211), .ref (q 212), .ref (q 213), .int 0, .int 0, .ref (q 214), .ref (q 215), .ref (q 216), .int 0, .int 0])), ((q 206), .inl (k 0, 900, .inl (upd (upd (upd f (4 : Int32).toNatClampNeg (vp_nar .byte x_1.toInt8.toInt32)) (5 : Int32).toNatClampNeg (vp_nar .byte x_3.toInt8.toInt32)) (6 : Int32).toNatClampNeg (vp_nar .byte x_5.toInt8.toInt32))))] := hD
  refine lv_iinc (v := 0) (lv' := [(2, .int 0), (0, .ref (q 200)), (1, .int x)]) hx hb dX12_four_30 hl (k := 0) rfl (by decide +kernel) (by decide) rfl (fun ls hl => ?_)
  refine lv_goto (tgt := 3) hx hb dX12_four_33 (by decide) ?_
  refine lv_iload_n hx hb dX12_four_3 rfl (lv_at hl 0 rfl) ?_
  refine lv_if_lt (tgt := 36) hx hb dX12_four_4 (by decide) (fun c => absurd c (by decide)) (fun _ => ?_)
  refine lv_aload_n hx hb dX12_four_7 rfl (lv_at hl 1 rfl) ?_
  refine va_get (D := D) (ci := 12) (v := .ref (q 206)) (C := RX12) (T := TX12) (N := 36) hx hb hts iX12 hown hK hP 0 rfl rfl 8 (by decide) (hts _ qf_X12_30) (fun _ h => h) rfl dX12_four_8 ?_
  refine lv_aload_n hx hb dX12_four_11 rfl (lv_at hl 1 rfl) ?_
  refine va_get (D := D) (ci := 12) (v := .int 7) (C := RX12) (T := TX12) (N := 36) hx hb hts iX12 hown hK hP 0 rfl rfl 10 (by decide) (hts _ qf_X12_106) (fun _ h => h) rfl dX12_four_12 ?_
  refine lv_iload_n hx hb dX12_four_15 rfl (lv_at hl 2 rfl) ?_
  refine lv_iload_n hx hb dX12_four_16 rfl (lv_at hl 0 rfl) ?_
  refine lv_ishr hx hb dX12_four_17 ?_
  refine lv_topi (fun x_7 ex_7 => ?_)
  refine lv_i2b (v := x_7.toInt8.toInt32) hx hb dX12_four_18 rfl ?_
  refine va_bast hx hb hK hP hD hS 1 0 rfl rfl (xin 7 900 rfl (by decide) (by decide)) dX12_four_19 (fun H locs hP hD hS => ?_)
  have hP : va_P D vwCl [((q 200), .inr (12, [.ref (q 201), .ref (q 202), .int 0, .long 0, .long 1, .ref (q 203), .ref (q 204), .ref (q 205), .ref (q 206), .ref (q 207), .int 7, .int 0, .int 0, .int 0, .int 0, .int 0, .int (-1), .int (-1), .int 0, .int 0, .int 0, .ref (q 208), .int 0, .int 0, .ref (q 209), .ref (q 210), .ref (q 211), .ref (q 212), .ref (q 213), .int 0, .int 0, .ref (q 214), .ref (q 215), .ref (q 216), .int 0, .int 0])), ((q 206), .inl (k 0, 900, .inl (upd (upd (upd (upd f (4 : Int32).toNatClampNeg (vp_nar .byte x_1.toInt8.toInt32)) (5 : Int32).toNatClampNeg (vp_nar .byte x_3.toInt8.toInt32)) (6 : Int32).toNatClampNeg (vp_nar .byte x_5.toInt8.toInt32)) (7 : Int32).toNatClampNeg (vp_nar .byte x_7.toInt8.toInt32))))] H := hP
  have hD : va_D A [((q 200), .inr (12, [.ref (q 201), .ref (q 202), .int 0, .long 0, .long 1, .ref (q 203), .ref (q 204), .ref (q 205), .ref (q 206), .ref (q 207), .int 7, .int 0, .int 0, .int 0, .int 0, .int 0, .int (-1), .int (-1), .int 0, .int 0, .int 0, .ref (q 208), .int 0, .int 0, .ref (q 209), .ref (q 210), .ref (q 211), .ref (q 212), .ref (q 213), .int 0, .int 0, .ref (q 214), .ref (q 215), .ref (q 216), .int 0, .int 0])), ((q 206), .inl (k 0, 900, .inl (upd (upd (upd (upd f (4 : Int32).toNatClampNeg (vp_nar .byte x_1.toInt8.toInt32)) (5 : Int32).toNatClampNeg (vp_nar .byte x_3.toInt8.toInt32)) (6 : Int32).toNatClampNeg (vp_nar .byte x_5.toInt8.toInt32)) (7 : Int32).toNatClampNeg (vp_nar .byte x_7.toInt8.toInt32))))] := hD
  refine lv_aload_n hx hb dX12_four_20 rfl (lv_at hl 1 rfl) ?_
  refine lv_dup hx hb dX12_four_21 rfl ?_
  refine va_get (D := D) (ci := 12) (v := .int 7) (C := RX12) (T := TX12) (N := 36) hx hb hts iX12 hown hK hP 0 rfl rfl 10 (by decide) (hts _ qf_X12_106) (fun _ h => h) rfl dX12_four_22 ?_
  refine lv_iconst (v := 1) hx hb dX12_four_25 (by decide) ?_
  refine lv_iadd hx hb dX12_four_26 ?_
  refine lv_topi (fun x_8 ex_8 => ?_)
  obtain rfl : x_8 = 8 := ex_8.trans (by decide +kernel)
  refine va_put (D := D) (ci := 12) (v := .int 8) (ty := .int) (C := RX12) (T := TX12) (N := 36) hx hb hts iX12 tyX12 tyX12_ok nmX12 hown hK hP hD hS 0 rfl rfl 10 (by decide) (hts _ qf_X12_106) (fun _ h => h) rfl (by decide +kernel) rfl rfl (Nat.le_of_ble_eq_true rfl) dX12_four_27 (fun H locs hP hD hS => ?_)
  have hP : va_P D vwCl [((q 200), .inr (12, [.ref (q 201), .ref (q 202), .int 0, .long 0, .long 1, .ref (q 203), .ref (q 204), .ref (q 205), .ref (q 206), .ref (q 207), .int 8, .int 0, .int 0, .int 0, .int 0, .int 0, .int (-1), .int (-1), .int 0, .int 0, .int 0, .ref (q 208), .int 0, .int 0, .ref (q 209), .ref (q 210), .ref (q 211), .ref (q 212), .ref (q 213), .int 0, .int 0, .ref (q 214), .ref (q 215), .ref (q 216), .int 0, .int 0])), ((q 206), .inl (k 0, 900, .inl (upd (upd (upd (upd f (4 : Int32).toNatClampNeg (vp_nar .byte x_1.toInt8.toInt32)) (5 : Int32).toNatClampNeg (vp_nar .byte x_3.toInt8.toInt32)) (6 : Int32).toNatClampNeg (vp_nar .byte x_5.toInt8.toInt32)) (7 : Int32).toNatClampNeg (vp_nar .byte x_7.toInt8.toInt32))))] H := hP
  have hD : va_D A [((q 200), .inr (12, [.ref (q 201), .ref (q 202), .int 0, .long 0, .long 1, .ref (q 203), .ref (q 204), .ref (q 205), .ref (q 206), .ref (q 207), .int 8, .int 0, .int 0, .int 0, .int 0, .int 0, .int (-1), .int (-1), .int 0, .int 0, .int 0, .ref (q 208), .int 0, .int 0, .ref (q 209), .ref (q 210), .ref (q 211), .ref (q 212), .ref (q 213), .int 0, .int 0, .ref (q 214), .ref (q 215), .ref (q 216), .int 0, .int 0])), ((q 206), .inl (k 0, 900, .inl (upd (upd (upd (upd f (4 : Int32).toNatClampNeg (vp_nar .byte x_1.toInt8.toInt32)) (5 : Int32).toNatClampNeg (vp_nar .byte x_3.toInt8.toInt32)) (6 : Int32).toNatClampNeg (vp_nar .byte x_5.toInt8.toInt32)) (7 : Int32).toNatClampNeg (vp_nar .byte x_7.toInt8.toInt32))))] := hD
  refine lv_iinc (v := (-8)) (lv' := [(2, .int (-8)), (0, .ref (q 200)), (1, .int x)]) hx hb dX12_four_30 hl (k := 0) rfl (by decide +kernel) (by decide) rfl (fun ls hl => ?_)
  refine lv_goto (tgt := 3) hx hb dX12_four_33 (by decide) ?_
  refine lv_iload_n hx hb dX12_four_3 rfl (lv_at hl 0 rfl) ?_
  refine lv_if_lt (tgt := 36) hx hb dX12_four_4 (by decide) (fun _ => ?_) (fun c => absurd (by decide) c)
  exact EWv hx hb hr hlocks hS (upd (upd (upd (upd f (4 : Int32).toNatClampNeg (vp_nar .byte x_1.toInt8.toInt32)) (5 : Int32).toNatClampNeg (vp_nar .byte x_3.toInt8.toInt32)) (6 : Int32).toNatClampNeg (vp_nar .byte x_5.toInt8.toInt32)) (7 : Int32).toNatClampNeg (vp_nar .byte x_7.toInt8.toInt32)) rfl trivial hP hD dX12_four_36
set_option maxHeartbeats 4000000 in
set_option maxRecDepth 100000 in
theorem m_four8 (l : Launch) (D : va_G) (k : Nat → ClassId) (q : Nat → Nat) (f : Nat → Int32) (x : Int32) : WD (σ := (Nat → Int32)) l yX12_four cX12_four 3 none 0 0 0 D k [.ref (q 200), .int x] [((q 200), .inr (12, [.ref (q 201), .ref (q 202), .int 0, .long 0, .long 1, .ref (q 203), .ref (q 204), .ref (q 205), .ref (q 206), .ref (q 207), .int 8, .int 0, .int 0, .int 0, .int 0, .int 0, .int (-1), .int (-1), .int 0, .int 0, .int 0, .ref (q 208), .int 0, .int 0, .ref (q 209), .ref (q 210), .ref (q 211), .ref (q 212), .ref (q 213), .int 0, .int 0, .ref (q 214), .ref (q 215), .ref (q 216), .int 0, .int 0])), ((q 206), .inl (k 0, 900, .inl f))] (fun _ => none) (fun _ => True) (fun g => [((q 200), .inr (12, [.ref (q 201), .ref (q 202), .int 0, .long 0, .long 1, .ref (q 203), .ref (q 204), .ref (q 205), .ref (q 206), .ref (q 207), .int 12, .int 0, .int 0, .int 0, .int 0, .int 0, .int (-1), .int (-1), .int 0, .int 0, .int 0, .ref (q 208), .int 0, .int 0, .ref (q 209), .ref (q 210), .ref (q 211), .ref (q 212), .ref (q 213), .int 0, .int 0, .ref (q 214), .ref (q 215), .ref (q 216), .int 0, .int 0])), ((q 206), .inl (k 0, 900, .inl g))]) := by
  refine MW (by decide) (Nat.le_of_ble_eq_true rfl) (fun p e s m below meth c ls A hx hb hml hr hlocks hin hts hown hKK hP hD hS hA hl => ?_)
  have hK := hKK.1
  have hl : lv_has ls 3 [(0, .ref (q 200)), (1, .int x)] := hl
  refine lv_bipush (v := 24) hx hb dX12_four_0 (by decide) ?_
  refine lv_istore_n (lv' := [(2, .int 24), (0, .ref (q 200)), (1, .int x)]) hx hb dX12_four_2 rfl hl (by decide) rfl (fun ls hl => ?_)
  refine lv_iload_n hx hb dX12_four_3 rfl (lv_at hl 0 rfl) ?_
  refine lv_if_lt (tgt := 36) hx hb dX12_four_4 (by decide) (fun c => absurd c (by decide)) (fun _ => ?_)
  refine lv_aload_n hx hb dX12_four_7 rfl (lv_at hl 1 rfl) ?_
  refine va_get (D := D) (ci := 12) (v := .ref (q 206)) (C := RX12) (T := TX12) (N := 36) hx hb hts iX12 hown hK hP 0 rfl rfl 8 (by decide) (hts _ qf_X12_30) (fun _ h => h) rfl dX12_four_8 ?_
  refine lv_aload_n hx hb dX12_four_11 rfl (lv_at hl 1 rfl) ?_
  refine va_get (D := D) (ci := 12) (v := .int 8) (C := RX12) (T := TX12) (N := 36) hx hb hts iX12 hown hK hP 0 rfl rfl 10 (by decide) (hts _ qf_X12_106) (fun _ h => h) rfl dX12_four_12 ?_
  refine lv_iload_n hx hb dX12_four_15 rfl (lv_at hl 2 rfl) ?_
  refine lv_iload_n hx hb dX12_four_16 rfl (lv_at hl 0 rfl) ?_
  refine lv_ishr hx hb dX12_four_17 ?_
  refine lv_topi (fun x_1 ex_1 => ?_)
  refine lv_i2b (v := x_1.toInt8.toInt32) hx hb dX12_four_18 rfl ?_
  refine va_bast hx hb hK hP hD hS 1 0 rfl rfl (xin 8 900 rfl (by decide) (by decide)) dX12_four_19 (fun H locs hP hD hS => ?_)
  have hP : va_P D vwCl [((q 200), .inr (12, [.ref (q 201), .ref (q 202), .int 0, .long 0, .long 1, .ref (q 203), .ref (q 204), .ref (q 205), .ref (q 206), .ref (q 207), .int 8, .int 0, .int 0, .int 0, .int 0, .int 0, .int (-1), .int (-1), .int 0, .int 0, .int 0, .ref (q 208), .int 0, .int 0, .ref (q 209), .ref (q 210), .ref (q 211), .ref (q 212), .ref (q 213), .int 0, .int 0, .ref (q 214), .ref (q 215), .ref (q 216), .int 0, .int 0])), ((q 206), .inl (k 0, 900, .inl (upd f (8 : Int32).toNatClampNeg (vp_nar .byte x_1.toInt8.toInt32))))] H := hP
  have hD : va_D A [((q 200), .inr (12, [.ref (q 201), .ref (q 202), .int 0, .long 0, .long 1, .ref (q 203), .ref (q 204), .ref (q 205), .ref (q 206), .ref (q 207), .int 8, .int 0, .int 0, .int 0, .int 0, .int 0, .int (-1), .int (-1), .int 0, .int 0, .int 0, .ref (q 208), .int 0, .int 0, .ref (q 209), .ref (q 210), .ref (q 211), .ref (q 212), .ref (q 213), .int 0, .int 0, .ref (q 214), .ref (q 215), .ref (q 216), .int 0, .int 0])), ((q 206), .inl (k 0, 900, .inl (upd f (8 : Int32).toNatClampNeg (vp_nar .byte x_1.toInt8.toInt32))))] := hD
  refine lv_aload_n hx hb dX12_four_20 rfl (lv_at hl 1 rfl) ?_
  refine lv_dup hx hb dX12_four_21 rfl ?_
  refine va_get (D := D) (ci := 12) (v := .int 8) (C := RX12) (T := TX12) (N := 36) hx hb hts iX12 hown hK hP 0 rfl rfl 10 (by decide) (hts _ qf_X12_106) (fun _ h => h) rfl dX12_four_22 ?_
  refine lv_iconst (v := 1) hx hb dX12_four_25 (by decide) ?_
  refine lv_iadd hx hb dX12_four_26 ?_
  refine lv_topi (fun x_2 ex_2 => ?_)
  obtain rfl : x_2 = 9 := ex_2.trans (by decide +kernel)
  refine va_put (D := D) (ci := 12) (v := .int 9) (ty := .int) (C := RX12) (T := TX12) (N := 36) hx hb hts iX12 tyX12 tyX12_ok nmX12 hown hK hP hD hS 0 rfl rfl 10 (by decide) (hts _ qf_X12_106) (fun _ h => h) rfl (by decide +kernel) rfl rfl (Nat.le_of_ble_eq_true rfl) dX12_four_27 (fun H locs hP hD hS => ?_)
  have hP : va_P D vwCl [((q 200), .inr (12, [.ref (q 201), .ref (q 202), .int 0, .long 0, .long 1, .ref (q 203), .ref (q 204), .ref (q 205), .ref (q 206), .ref (q 207), .int 9, .int 0, .int 0, .int 0, .int 0, .int 0, .int (-1), .int (-1), .int 0, .int 0, .int 0, .ref (q 208), .int 0, .int 0, .ref (q 209), .ref (q 210), .ref (q 211), .ref (q 212), .ref (q 213), .int 0, .int 0, .ref (q 214), .ref (q 215), .ref (q 216), .int 0, .int 0])), ((q 206), .inl (k 0, 900, .inl (upd f (8 : Int32).toNatClampNeg (vp_nar .byte x_1.toInt8.toInt32))))] H := hP
  have hD : va_D A [((q 200), .inr (12, [.ref (q 201), .ref (q 202), .int 0, .long 0, .long 1, .ref (q 203), .ref (q 204), .ref (q 205), .ref (q 206), .ref (q 207), .int 9, .int 0, .int 0, .int 0, .int 0, .int 0, .int (-1), .int (-1), .int 0, .int 0, .int 0, .ref (q 208), .int 0, .int 0, .ref (q 209), .ref (q 210), .ref (q 211), .ref (q 212), .ref (q 213), .int 0, .int 0, .ref (q 214), .ref (q 215), .ref (q 216), .int 0, .int 0])), ((q 206), .inl (k 0, 900, .inl (upd f (8 : Int32).toNatClampNeg (vp_nar .byte x_1.toInt8.toInt32))))] := hD
  refine lv_iinc (v := 16) (lv' := [(2, .int 16), (0, .ref (q 200)), (1, .int x)]) hx hb dX12_four_30 hl (k := 0) rfl (by decide +kernel) (by decide) rfl (fun ls hl => ?_)
  refine lv_goto (tgt := 3) hx hb dX12_four_33 (by decide) ?_
  refine lv_iload_n hx hb dX12_four_3 rfl (lv_at hl 0 rfl) ?_
  refine lv_if_lt (tgt := 36) hx hb dX12_four_4 (by decide) (fun c => absurd c (by decide)) (fun _ => ?_)
  refine lv_aload_n hx hb dX12_four_7 rfl (lv_at hl 1 rfl) ?_
  refine va_get (D := D) (ci := 12) (v := .ref (q 206)) (C := RX12) (T := TX12) (N := 36) hx hb hts iX12 hown hK hP 0 rfl rfl 8 (by decide) (hts _ qf_X12_30) (fun _ h => h) rfl dX12_four_8 ?_
  refine lv_aload_n hx hb dX12_four_11 rfl (lv_at hl 1 rfl) ?_
  refine va_get (D := D) (ci := 12) (v := .int 9) (C := RX12) (T := TX12) (N := 36) hx hb hts iX12 hown hK hP 0 rfl rfl 10 (by decide) (hts _ qf_X12_106) (fun _ h => h) rfl dX12_four_12 ?_
  refine lv_iload_n hx hb dX12_four_15 rfl (lv_at hl 2 rfl) ?_
  refine lv_iload_n hx hb dX12_four_16 rfl (lv_at hl 0 rfl) ?_
  refine lv_ishr hx hb dX12_four_17 ?_
  refine lv_topi (fun x_3 ex_3 => ?_)
  refine lv_i2b (v := x_3.toInt8.toInt32) hx hb dX12_four_18 rfl ?_
  refine va_bast hx hb hK hP hD hS 1 0 rfl rfl (xin 9 900 rfl (by decide) (by decide)) dX12_four_19 (fun H locs hP hD hS => ?_)
  have hP : va_P D vwCl [((q 200), .inr (12, [.ref (q 201), .ref (q 202), .int 0, .long 0, .long 1, .ref (q 203), .ref (q 204), .ref (q 205), .ref (q 206), .ref (q 207), .int 9, .int 0, .int 0, .int 0, .int 0, .int 0, .int (-1), .int (-1), .int 0, .int 0, .int 0, .ref (q 208), .int 0, .int 0, .ref (q 209), .ref (q 210), .ref (q 211), .ref (q 212), .ref (q 213), .int 0, .int 0, .ref (q 214), .ref (q 215), .ref (q 216), .int 0, .int 0])), ((q 206), .inl (k 0, 900, .inl (upd (upd f (8 : Int32).toNatClampNeg (vp_nar .byte x_1.toInt8.toInt32)) (9 : Int32).toNatClampNeg (vp_nar .byte x_3.toInt8.toInt32))))] H := hP
  have hD : va_D A [((q 200), .inr (12, [.ref (q 201), .ref (q 202), .int 0, .long 0, .long 1, .ref (q 203), .ref (q 204), .ref (q 205), .ref (q 206), .ref (q 207), .int 9, .int 0, .int 0, .int 0, .int 0, .int 0, .int (-1), .int (-1), .int 0, .int 0, .int 0, .ref (q 208), .int 0, .int 0, .ref (q 209), .ref (q 210), .ref (q 211), .ref (q 212), .ref (q 213), .int 0, .int 0, .ref (q 214), .ref (q 215), .ref (q 216), .int 0, .int 0])), ((q 206), .inl (k 0, 900, .inl (upd (upd f (8 : Int32).toNatClampNeg (vp_nar .byte x_1.toInt8.toInt32)) (9 : Int32).toNatClampNeg (vp_nar .byte x_3.toInt8.toInt32))))] := hD
  refine lv_aload_n hx hb dX12_four_20 rfl (lv_at hl 1 rfl) ?_
  refine lv_dup hx hb dX12_four_21 rfl ?_
  refine va_get (D := D) (ci := 12) (v := .int 9) (C := RX12) (T := TX12) (N := 36) hx hb hts iX12 hown hK hP 0 rfl rfl 10 (by decide) (hts _ qf_X12_106) (fun _ h => h) rfl dX12_four_22 ?_
  refine lv_iconst (v := 1) hx hb dX12_four_25 (by decide) ?_
  refine lv_iadd hx hb dX12_four_26 ?_
  refine lv_topi (fun x_4 ex_4 => ?_)
  obtain rfl : x_4 = 10 := ex_4.trans (by decide +kernel)
  refine va_put (D := D) (ci := 12) (v := .int 10) (ty := .int) (C := RX12) (T := TX12) (N := 36) hx hb hts iX12 tyX12 tyX12_ok nmX12 hown hK hP hD hS 0 rfl rfl 10 (by decide) (hts _ qf_X12_106) (fun _ h => h) rfl (by decide +kernel) rfl rfl (Nat.le_of_ble_eq_true rfl) dX12_four_27 (fun H locs hP hD hS => ?_)
  have hP : va_P D vwCl [((q 200), .inr (12, [.ref (q 201), .ref (q 202), .int 0, .long 0, .long 1, .ref (q 203), .ref (q 204), .ref (q 205), .ref (q 206), .ref (q 207), .int 10, .int 0, .int 0, .int 0, .int 0, .int 0, .int (-1), .int (-1), .int 0, .int 0, .int 0, .ref (q 208), .int 0, .int 0, .ref (q 209), .ref (q 210), .ref (q 211), .ref (q 212), .ref (q 213), .int 0, .int 0, .ref (q 214), .ref (q 215), .ref (q 216), .int 0, .int 0])), ((q 206), .inl (k 0, 900, .inl (upd (upd f (8 : Int32).toNatClampNeg (vp_nar .byte x_1.toInt8.toInt32)) (9 : Int32).toNatClampNeg (vp_nar .byte x_3.toInt8.toInt32))))] H := hP
  have hD : va_D A [((q 200), .inr (12, [.ref (q 201), .ref (q 202), .int 0, .long 0, .long 1, .ref (q 203), .ref (q 204), .ref (q 205), .ref (q 206), .ref (q 207), .int 10, .int 0, .int 0, .int 0, .int 0, .int 0, .int (-1), .int (-1), .int 0, .int 0, .int 0, .ref (q 208), .int 0, .int 0, .ref (q 209), .ref (q 210), .ref (q 211), .ref (q 212), .ref (q 213), .int 0, .int 0, .ref (q 214), .ref (q 215), .ref (q 216), .int 0, .int 0])), ((q 206), .inl (k 0, 900, .inl (upd (upd f (8 : Int32).toNatClampNeg (vp_nar .byte x_1.toInt8.toInt32)) (9 : Int32).toNatClampNeg (vp_nar .byte x_3.toInt8.toInt32))))] := hD
  refine lv_iinc (v := 8) (lv' := [(2, .int 8), (0, .ref (q 200)), (1, .int x)]) hx hb dX12_four_30 hl (k := 0) rfl (by decide +kernel) (by decide) rfl (fun ls hl => ?_)
  refine lv_goto (tgt := 3) hx hb dX12_four_33 (by decide) ?_
  refine lv_iload_n hx hb dX12_four_3 rfl (lv_at hl 0 rfl) ?_
  refine lv_if_lt (tgt := 36) hx hb dX12_four_4 (by decide) (fun c => absurd c (by decide)) (fun _ => ?_)
  refine lv_aload_n hx hb dX12_four_7 rfl (lv_at hl 1 rfl) ?_
  refine va_get (D := D) (ci := 12) (v := .ref (q 206)) (C := RX12) (T := TX12) (N := 36) hx hb hts iX12 hown hK hP 0 rfl rfl 8 (by decide) (hts _ qf_X12_30) (fun _ h => h) rfl dX12_four_8 ?_
  refine lv_aload_n hx hb dX12_four_11 rfl (lv_at hl 1 rfl) ?_
  refine va_get (D := D) (ci := 12) (v := .int 10) (C := RX12) (T := TX12) (N := 36) hx hb hts iX12 hown hK hP 0 rfl rfl 10 (by decide) (hts _ qf_X12_106) (fun _ h => h) rfl dX12_four_12 ?_
  refine lv_iload_n hx hb dX12_four_15 rfl (lv_at hl 2 rfl) ?_
  refine lv_iload_n hx hb dX12_four_16 rfl (lv_at hl 0 rfl) ?_
  refine lv_ishr hx hb dX12_four_17 ?_
  refine lv_topi (fun x_5 ex_5 => ?_)
  refine lv_i2b (v := x_5.toInt8.toInt32) hx hb dX12_four_18 rfl ?_
  refine va_bast hx hb hK hP hD hS 1 0 rfl rfl (xin 10 900 rfl (by decide) (by decide)) dX12_four_19 (fun H locs hP hD hS => ?_)
  have hP : va_P D vwCl [((q 200), .inr (12, [.ref (q 201), .ref (q 202), .int 0, .long 0, .long 1, .ref (q 203), .ref (q 204), .ref (q 205), .ref (q 206), .ref (q 207), .int 10, .int 0, .int 0, .int 0, .int 0, .int 0, .int (-1), .int (-1), .int 0, .int 0, .int 0, .ref (q 208), .int 0, .int 0, .ref (q 209), .ref (q 210), .ref (q 211), .ref (q 212), .ref (q 213), .int 0, .int 0, .ref (q 214), .ref (q 215), .ref (q 216), .int 0, .int 0])), ((q 206), .inl (k 0, 900, .inl (upd (upd (upd f (8 : Int32).toNatClampNeg (vp_nar .byte x_1.toInt8.toInt32)) (9 : Int32).toNatClampNeg (vp_nar .byte x_3.toInt8.toInt32)) (10 : Int32).toNatClampNeg (vp_nar .byte x_5.toInt8.toInt32))))] H := hP
  have hD : va_D A [((q 200), .inr (12, [.ref (q 201), .ref (q 202), .int 0, .long 0, .long 1, .ref (q 203), .ref (q 204), .ref (q 205), .ref (q 206), .ref (q 207), .int 10, .int 0, .int 0, .int 0, .int 0, .int 0, .int (-1), .int (-1), .int 0, .int 0, .int 0, .ref (q 208), .int 0, .int 0, .ref (q 209), .ref (q 210), .ref (q 211), .ref (q 212), .ref (q 213), .int 0, .int 0, .ref (q 214), .ref (q 215), .ref (q 216), .int 0, .int 0])), ((q 206), .inl (k 0, 900, .inl (upd (upd (upd f (8 : Int32).toNatClampNeg (vp_nar .byte x_1.toInt8.toInt32)) (9 : Int32).toNatClampNeg (vp_nar .byte x_3.toInt8.toInt32)) (10 : Int32).toNatClampNeg (vp_nar .byte x_5.toInt8.toInt32))))] := hD
  refine lv_aload_n hx hb dX12_four_20 rfl (lv_at hl 1 rfl) ?_
  refine lv_dup hx hb dX12_four_21 rfl ?_
  refine va_get (D := D) (ci := 12) (v := .int 10) (C := RX12) (T := TX12) (N := 36) hx hb hts iX12 hown hK hP 0 rfl rfl 10 (by decide) (hts _ qf_X12_106) (fun _ h => h) rfl dX12_four_22 ?_
  refine lv_iconst (v := 1) hx hb dX12_four_25 (by decide) ?_
  refine lv_iadd hx hb dX12_four_26 ?_
  refine lv_topi (fun x_6 ex_6 => ?_)
  obtain rfl : x_6 = 11 := ex_6.trans (by decide +kernel)
  refine va_put (D := D) (ci := 12) (v := .int 11) (ty := .int) (C := RX12) (T := TX12) (N := 36) hx hb hts iX12 tyX12 tyX12_ok nmX12 hown hK hP hD hS 0 rfl rfl 10 (by decide) (hts _ qf_X12_106) (fun _ h => h) rfl (by decide +kernel) rfl rfl (Nat.le_of_ble_eq_true rfl) dX12_four_27 (fun H locs hP hD hS => ?_)
  have hP : va_P D vwCl [((q 200), .inr (12, [.ref (q 201), .ref (q 202), .int 0, .long 0, .long 1, .ref (q 203), .ref (q 204), .ref (q 205), .ref (q 206), .ref (q 207), .int 11, .int 0, .int 0, .int 0, .int 0, .int 0, .int (-1), .int (-1), .int 0, .int 0, .int 0, .ref (q 208), .int 0, .int 0, .ref (q 209), .ref (q 210), .ref (q 211), .ref (q 212), .ref (q 213), .int 0, .int 0, .ref (q 214), .ref (q 215), .ref (q 216), .int 0, .int 0])), ((q 206), .inl (k 0, 900, .inl (upd (upd (upd f (8 : Int32).toNatClampNeg (vp_nar .byte x_1.toInt8.toInt32)) (9 : Int32).toNatClampNeg (vp_nar .byte x_3.toInt8.toInt32)) (10 : Int32).toNatClampNeg (vp_nar .byte x_5.toInt8.toInt32))))] H := hP
  have hD : va_D A [((q 200), .inr (12, [.ref (q 201), .ref (q 202), .int 0, .long 0, .long 1, .ref (q 203), .ref (q 204), .ref (q 205), .ref (q 206), .ref (q 207), .int 11, .int 0, .int 0, .int 0, .int 0, .int 0, .int (-1), .int (-1), .int 0, .int 0, .int 0, .ref (q 208), .int 0, .int 0, .ref (q 209), .ref (q 210), .ref (q 211), .ref (q 212), .ref (q 213), .int 0, .int 0, .ref (q 214), .ref (q 215), .ref (q 216), .int 0, .int 0])), ((q 206), .inl (k 0, 900, .inl (upd (upd (upd f (8 : Int32).toNatClampNeg (vp_nar .byte x_1.toInt8.toInt32)) (9 : Int32).toNatClampNeg (vp_nar .byte x_3.toInt8.toInt32)) (10 : Int32).toNatClampNeg (vp_nar .byte x_5.toInt8.toInt32))))] := hD
  refine lv_iinc (v := 0) (lv' := [(2, .int 0), (0, .ref (q 200)), (1, .int x)]) hx hb dX12_four_30 hl (k := 0) rfl (by decide +kernel) (by decide) rfl (fun ls hl => ?_)
  refine lv_goto (tgt := 3) hx hb dX12_four_33 (by decide) ?_
  refine lv_iload_n hx hb dX12_four_3 rfl (lv_at hl 0 rfl) ?_
  refine lv_if_lt (tgt := 36) hx hb dX12_four_4 (by decide) (fun c => absurd c (by decide)) (fun _ => ?_)
  refine lv_aload_n hx hb dX12_four_7 rfl (lv_at hl 1 rfl) ?_
  refine va_get (D := D) (ci := 12) (v := .ref (q 206)) (C := RX12) (T := TX12) (N := 36) hx hb hts iX12 hown hK hP 0 rfl rfl 8 (by decide) (hts _ qf_X12_30) (fun _ h => h) rfl dX12_four_8 ?_
  refine lv_aload_n hx hb dX12_four_11 rfl (lv_at hl 1 rfl) ?_
  refine va_get (D := D) (ci := 12) (v := .int 11) (C := RX12) (T := TX12) (N := 36) hx hb hts iX12 hown hK hP 0 rfl rfl 10 (by decide) (hts _ qf_X12_106) (fun _ h => h) rfl dX12_four_12 ?_
  refine lv_iload_n hx hb dX12_four_15 rfl (lv_at hl 2 rfl) ?_
  refine lv_iload_n hx hb dX12_four_16 rfl (lv_at hl 0 rfl) ?_
  refine lv_ishr hx hb dX12_four_17 ?_
  refine lv_topi (fun x_7 ex_7 => ?_)
  refine lv_i2b (v := x_7.toInt8.toInt32) hx hb dX12_four_18 rfl ?_
  refine va_bast hx hb hK hP hD hS 1 0 rfl rfl (xin 11 900 rfl (by decide) (by decide)) dX12_four_19 (fun H locs hP hD hS => ?_)
  have hP : va_P D vwCl [((q 200), .inr (12, [.ref (q 201), .ref (q 202), .int 0, .long 0, .long 1, .ref (q 203), .ref (q 204), .ref (q 205), .ref (q 206), .ref (q 207), .int 11, .int 0, .int 0, .int 0, .int 0, .int 0, .int (-1), .int (-1), .int 0, .int 0, .int 0, .ref (q 208), .int 0, .int 0, .ref (q 209), .ref (q 210), .ref (q 211), .ref (q 212), .ref (q 213), .int 0, .int 0, .ref (q 214), .ref (q 215), .ref (q 216), .int 0, .int 0])), ((q 206), .inl (k 0, 900, .inl (upd (upd (upd (upd f (8 : Int32).toNatClampNeg (vp_nar .byte x_1.toInt8.toInt32)) (9 : Int32).toNatClampNeg (vp_nar .byte x_3.toInt8.toInt32)) (10 : Int32).toNatClampNeg (vp_nar .byte x_5.toInt8.toInt32)) (11 : Int32).toNatClampNeg (vp_nar .byte x_7.toInt8.toInt32))))] H := hP
  have hD : va_D A [((q 200), .inr (12, [.ref (q 201), .ref (q 202), .int 0, .long 0, .long 1, .ref (q 203), .ref (q 204), .ref (q 205), .ref (q 206), .ref (q 207), .int 11, .int 0, .int 0, .int 0, .int 0, .int 0, .int (-1), .int (-1), .int 0, .int 0, .int 0, .ref (q 208), .int 0, .int 0, .ref (q 209), .ref (q 210), .ref (q 211), .ref (q 212), .ref (q 213), .int 0, .int 0, .ref (q 214), .ref (q 215), .ref (q 216), .int 0, .int 0])), ((q 206), .inl (k 0, 900, .inl (upd (upd (upd (upd f (8 : Int32).toNatClampNeg (vp_nar .byte x_1.toInt8.toInt32)) (9 : Int32).toNatClampNeg (vp_nar .byte x_3.toInt8.toInt32)) (10 : Int32).toNatClampNeg (vp_nar .byte x_5.toInt8.toInt32)) (11 : Int32).toNatClampNeg (vp_nar .byte x_7.toInt8.toInt32))))] := hD
  refine lv_aload_n hx hb dX12_four_20 rfl (lv_at hl 1 rfl) ?_
  refine lv_dup hx hb dX12_four_21 rfl ?_
  refine va_get (D := D) (ci := 12) (v := .int 11) (C := RX12) (T := TX12) (N := 36) hx hb hts iX12 hown hK hP 0 rfl rfl 10 (by decide) (hts _ qf_X12_106) (fun _ h => h) rfl dX12_four_22 ?_
  refine lv_iconst (v := 1) hx hb dX12_four_25 (by decide) ?_
  refine lv_iadd hx hb dX12_four_26 ?_
  refine lv_topi (fun x_8 ex_8 => ?_)
  obtain rfl : x_8 = 12 := ex_8.trans (by decide +kernel)
  refine va_put (D := D) (ci := 12) (v := .int 12) (ty := .int) (C := RX12) (T := TX12) (N := 36) hx hb hts iX12 tyX12 tyX12_ok nmX12 hown hK hP hD hS 0 rfl rfl 10 (by decide) (hts _ qf_X12_106) (fun _ h => h) rfl (by decide +kernel) rfl rfl (Nat.le_of_ble_eq_true rfl) dX12_four_27 (fun H locs hP hD hS => ?_)
  have hP : va_P D vwCl [((q 200), .inr (12, [.ref (q 201), .ref (q 202), .int 0, .long 0, .long 1, .ref (q 203), .ref (q 204), .ref (q 205), .ref (q 206), .ref (q 207), .int 12, .int 0, .int 0, .int 0, .int 0, .int 0, .int (-1), .int (-1), .int 0, .int 0, .int 0, .ref (q 208), .int 0, .int 0, .ref (q 209), .ref (q 210), .ref (q 211), .ref (q 212), .ref (q 213), .int 0, .int 0, .ref (q 214), .ref (q 215), .ref (q 216), .int 0, .int 0])), ((q 206), .inl (k 0, 900, .inl (upd (upd (upd (upd f (8 : Int32).toNatClampNeg (vp_nar .byte x_1.toInt8.toInt32)) (9 : Int32).toNatClampNeg (vp_nar .byte x_3.toInt8.toInt32)) (10 : Int32).toNatClampNeg (vp_nar .byte x_5.toInt8.toInt32)) (11 : Int32).toNatClampNeg (vp_nar .byte x_7.toInt8.toInt32))))] H := hP
  have hD : va_D A [((q 200), .inr (12, [.ref (q 201), .ref (q 202), .int 0, .long 0, .long 1, .ref (q 203), .ref (q 204), .ref (q 205), .ref (q 206), .ref (q 207), .int 12, .int 0, .int 0, .int 0, .int 0, .int 0, .int (-1), .int (-1), .int 0, .int 0, .int 0, .ref (q 208), .int 0, .int 0, .ref (q 209), .ref (q 210), .ref (q 211), .ref (q 212), .ref (q 213), .int 0, .int 0, .ref (q 214), .ref (q 215), .ref (q 216), .int 0, .int 0])), ((q 206), .inl (k 0, 900, .inl (upd (upd (upd (upd f (8 : Int32).toNatClampNeg (vp_nar .byte x_1.toInt8.toInt32)) (9 : Int32).toNatClampNeg (vp_nar .byte x_3.toInt8.toInt32)) (10 : Int32).toNatClampNeg (vp_nar .byte x_5.toInt8.toInt32)) (11 : Int32).toNatClampNeg (vp_nar .byte x_7.toInt8.toInt32))))] := hD
  refine lv_iinc (v := (-8)) (lv' := [(2, .int (-8)), (0, .ref (q 200)), (1, .int x)]) hx hb dX12_four_30 hl (k := 0) rfl (by decide +kernel) (by decide) rfl (fun ls hl => ?_)
  refine lv_goto (tgt := 3) hx hb dX12_four_33 (by decide) ?_
  refine lv_iload_n hx hb dX12_four_3 rfl (lv_at hl 0 rfl) ?_
  refine lv_if_lt (tgt := 36) hx hb dX12_four_4 (by decide) (fun _ => ?_) (fun c => absurd (by decide) c)
  exact EWv hx hb hr hlocks hS (upd (upd (upd (upd f (8 : Int32).toNatClampNeg (vp_nar .byte x_1.toInt8.toInt32)) (9 : Int32).toNatClampNeg (vp_nar .byte x_3.toInt8.toInt32)) (10 : Int32).toNatClampNeg (vp_nar .byte x_5.toInt8.toInt32)) (11 : Int32).toNatClampNeg (vp_nar .byte x_7.toInt8.toInt32)) rfl trivial hP hD dX12_four_36
set_option maxHeartbeats 4000000 in
set_option maxRecDepth 100000 in
theorem m_four12 (l : Launch) (D : va_G) (k : Nat → ClassId) (q : Nat → Nat) (f : Nat → Int32) (x : Int32) : WD (σ := (Nat → Int32)) l yX12_four cX12_four 3 none 0 0 0 D k [.ref (q 200), .int x] [((q 200), .inr (12, [.ref (q 201), .ref (q 202), .int 0, .long 0, .long 1, .ref (q 203), .ref (q 204), .ref (q 205), .ref (q 206), .ref (q 207), .int 12, .int 0, .int 0, .int 0, .int 0, .int 0, .int (-1), .int (-1), .int 0, .int 0, .int 0, .ref (q 208), .int 0, .int 0, .ref (q 209), .ref (q 210), .ref (q 211), .ref (q 212), .ref (q 213), .int 0, .int 0, .ref (q 214), .ref (q 215), .ref (q 216), .int 0, .int 0])), ((q 206), .inl (k 0, 900, .inl f))] (fun _ => none) (fun _ => True) (fun g => [((q 200), .inr (12, [.ref (q 201), .ref (q 202), .int 0, .long 0, .long 1, .ref (q 203), .ref (q 204), .ref (q 205), .ref (q 206), .ref (q 207), .int 16, .int 0, .int 0, .int 0, .int 0, .int 0, .int (-1), .int (-1), .int 0, .int 0, .int 0, .ref (q 208), .int 0, .int 0, .ref (q 209), .ref (q 210), .ref (q 211), .ref (q 212), .ref (q 213), .int 0, .int 0, .ref (q 214), .ref (q 215), .ref (q 216), .int 0, .int 0])), ((q 206), .inl (k 0, 900, .inl g))]) := by
  refine MW (by decide) (Nat.le_of_ble_eq_true rfl) (fun p e s m below meth c ls A hx hb hml hr hlocks hin hts hown hKK hP hD hS hA hl => ?_)
  have hK := hKK.1
  have hl : lv_has ls 3 [(0, .ref (q 200)), (1, .int x)] := hl
  refine lv_bipush (v := 24) hx hb dX12_four_0 (by decide) ?_
  refine lv_istore_n (lv' := [(2, .int 24), (0, .ref (q 200)), (1, .int x)]) hx hb dX12_four_2 rfl hl (by decide) rfl (fun ls hl => ?_)
  refine lv_iload_n hx hb dX12_four_3 rfl (lv_at hl 0 rfl) ?_
  refine lv_if_lt (tgt := 36) hx hb dX12_four_4 (by decide) (fun c => absurd c (by decide)) (fun _ => ?_)
  refine lv_aload_n hx hb dX12_four_7 rfl (lv_at hl 1 rfl) ?_
  refine va_get (D := D) (ci := 12) (v := .ref (q 206)) (C := RX12) (T := TX12) (N := 36) hx hb hts iX12 hown hK hP 0 rfl rfl 8 (by decide) (hts _ qf_X12_30) (fun _ h => h) rfl dX12_four_8 ?_
  refine lv_aload_n hx hb dX12_four_11 rfl (lv_at hl 1 rfl) ?_
  refine va_get (D := D) (ci := 12) (v := .int 12) (C := RX12) (T := TX12) (N := 36) hx hb hts iX12 hown hK hP 0 rfl rfl 10 (by decide) (hts _ qf_X12_106) (fun _ h => h) rfl dX12_four_12 ?_
  refine lv_iload_n hx hb dX12_four_15 rfl (lv_at hl 2 rfl) ?_
  refine lv_iload_n hx hb dX12_four_16 rfl (lv_at hl 0 rfl) ?_
  refine lv_ishr hx hb dX12_four_17 ?_
  refine lv_topi (fun x_1 ex_1 => ?_)
  refine lv_i2b (v := x_1.toInt8.toInt32) hx hb dX12_four_18 rfl ?_
  refine va_bast hx hb hK hP hD hS 1 0 rfl rfl (xin 12 900 rfl (by decide) (by decide)) dX12_four_19 (fun H locs hP hD hS => ?_)
  have hP : va_P D vwCl [((q 200), .inr (12, [.ref (q 201), .ref (q 202), .int 0, .long 0, .long 1, .ref (q 203), .ref (q 204), .ref (q 205), .ref (q 206), .ref (q 207), .int 12, .int 0, .int 0, .int 0, .int 0, .int 0, .int (-1), .int (-1), .int 0, .int 0, .int 0, .ref (q 208), .int 0, .int 0, .ref (q 209), .ref (q 210), .ref (q 211), .ref (q 212), .ref (q 213), .int 0, .int 0, .ref (q 214), .ref (q 215), .ref (q 216), .int 0, .int 0])), ((q 206), .inl (k 0, 900, .inl (upd f (12 : Int32).toNatClampNeg (vp_nar .byte x_1.toInt8.toInt32))))] H := hP
  have hD : va_D A [((q 200), .inr (12, [.ref (q 201), .ref (q 202), .int 0, .long 0, .long 1, .ref (q 203), .ref (q 204), .ref (q 205), .ref (q 206), .ref (q 207), .int 12, .int 0, .int 0, .int 0, .int 0, .int 0, .int (-1), .int (-1), .int 0, .int 0, .int 0, .ref (q 208), .int 0, .int 0, .ref (q 209), .ref (q 210), .ref (q 211), .ref (q 212), .ref (q 213), .int 0, .int 0, .ref (q 214), .ref (q 215), .ref (q 216), .int 0, .int 0])), ((q 206), .inl (k 0, 900, .inl (upd f (12 : Int32).toNatClampNeg (vp_nar .byte x_1.toInt8.toInt32))))] := hD
  refine lv_aload_n hx hb dX12_four_20 rfl (lv_at hl 1 rfl) ?_
  refine lv_dup hx hb dX12_four_21 rfl ?_
  refine va_get (D := D) (ci := 12) (v := .int 12) (C := RX12) (T := TX12) (N := 36) hx hb hts iX12 hown hK hP 0 rfl rfl 10 (by decide) (hts _ qf_X12_106) (fun _ h => h) rfl dX12_four_22 ?_
  refine lv_iconst (v := 1) hx hb dX12_four_25 (by decide) ?_
  refine lv_iadd hx hb dX12_four_26 ?_
  refine lv_topi (fun x_2 ex_2 => ?_)
  obtain rfl : x_2 = 13 := ex_2.trans (by decide +kernel)
  refine va_put (D := D) (ci := 12) (v := .int 13) (ty := .int) (C := RX12) (T := TX12) (N := 36) hx hb hts iX12 tyX12 tyX12_ok nmX12 hown hK hP hD hS 0 rfl rfl 10 (by decide) (hts _ qf_X12_106) (fun _ h => h) rfl (by decide +kernel) rfl rfl (Nat.le_of_ble_eq_true rfl) dX12_four_27 (fun H locs hP hD hS => ?_)
  have hP : va_P D vwCl [((q 200), .inr (12, [.ref (q 201), .ref (q 202), .int 0, .long 0, .long 1, .ref (q 203), .ref (q 204), .ref (q 205), .ref (q 206), .ref (q 207), .int 13, .int 0, .int 0, .int 0, .int 0, .int 0, .int (-1), .int (-1), .int 0, .int 0, .int 0, .ref (q 208), .int 0, .int 0, .ref (q 209), .ref (q 210), .ref (q 211), .ref (q 212), .ref (q 213), .int 0, .int 0, .ref (q 214), .ref (q 215), .ref (q 216), .int 0, .int 0])), ((q 206), .inl (k 0, 900, .inl (upd f (12 : Int32).toNatClampNeg (vp_nar .byte x_1.toInt8.toInt32))))] H := hP
  have hD : va_D A [((q 200), .inr (12, [.ref (q 201), .ref (q 202), .int 0, .long 0, .long 1, .ref (q 203), .ref (q 204), .ref (q 205), .ref (q 206), .ref (q 207), .int 13, .int 0, .int 0, .int 0, .int 0, .int 0, .int (-1), .int (-1), .int 0, .int 0, .int 0, .ref (q 208), .int 0, .int 0, .ref (q 209), .ref (q 210), .ref (q 211), .ref (q 212), .ref (q 213), .int 0, .int 0, .ref (q 214), .ref (q 215), .ref (q 216), .int 0, .int 0])), ((q 206), .inl (k 0, 900, .inl (upd f (12 : Int32).toNatClampNeg (vp_nar .byte x_1.toInt8.toInt32))))] := hD
  refine lv_iinc (v := 16) (lv' := [(2, .int 16), (0, .ref (q 200)), (1, .int x)]) hx hb dX12_four_30 hl (k := 0) rfl (by decide +kernel) (by decide) rfl (fun ls hl => ?_)
  refine lv_goto (tgt := 3) hx hb dX12_four_33 (by decide) ?_
  refine lv_iload_n hx hb dX12_four_3 rfl (lv_at hl 0 rfl) ?_
  refine lv_if_lt (tgt := 36) hx hb dX12_four_4 (by decide) (fun c => absurd c (by decide)) (fun _ => ?_)
  refine lv_aload_n hx hb dX12_four_7 rfl (lv_at hl 1 rfl) ?_
  refine va_get (D := D) (ci := 12) (v := .ref (q 206)) (C := RX12) (T := TX12) (N := 36) hx hb hts iX12 hown hK hP 0 rfl rfl 8 (by decide) (hts _ qf_X12_30) (fun _ h => h) rfl dX12_four_8 ?_
  refine lv_aload_n hx hb dX12_four_11 rfl (lv_at hl 1 rfl) ?_
  refine va_get (D := D) (ci := 12) (v := .int 13) (C := RX12) (T := TX12) (N := 36) hx hb hts iX12 hown hK hP 0 rfl rfl 10 (by decide) (hts _ qf_X12_106) (fun _ h => h) rfl dX12_four_12 ?_
  refine lv_iload_n hx hb dX12_four_15 rfl (lv_at hl 2 rfl) ?_
  refine lv_iload_n hx hb dX12_four_16 rfl (lv_at hl 0 rfl) ?_
  refine lv_ishr hx hb dX12_four_17 ?_
  refine lv_topi (fun x_3 ex_3 => ?_)
  refine lv_i2b (v := x_3.toInt8.toInt32) hx hb dX12_four_18 rfl ?_
  refine va_bast hx hb hK hP hD hS 1 0 rfl rfl (xin 13 900 rfl (by decide) (by decide)) dX12_four_19 (fun H locs hP hD hS => ?_)
  have hP : va_P D vwCl [((q 200), .inr (12, [.ref (q 201), .ref (q 202), .int 0, .long 0, .long 1, .ref (q 203), .ref (q 204), .ref (q 205), .ref (q 206), .ref (q 207), .int 13, .int 0, .int 0, .int 0, .int 0, .int 0, .int (-1), .int (-1), .int 0, .int 0, .int 0, .ref (q 208), .int 0, .int 0, .ref (q 209), .ref (q 210), .ref (q 211), .ref (q 212), .ref (q 213), .int 0, .int 0, .ref (q 214), .ref (q 215), .ref (q 216), .int 0, .int 0])), ((q 206), .inl (k 0, 900, .inl (upd (upd f (12 : Int32).toNatClampNeg (vp_nar .byte x_1.toInt8.toInt32)) (13 : Int32).toNatClampNeg (vp_nar .byte x_3.toInt8.toInt32))))] H := hP
  have hD : va_D A [((q 200), .inr (12, [.ref (q 201), .ref (q 202), .int 0, .long 0, .long 1, .ref (q 203), .ref (q 204), .ref (q 205), .ref (q 206), .ref (q 207), .int 13, .int 0, .int 0, .int 0, .int 0, .int 0, .int (-1), .int (-1), .int 0, .int 0, .int 0, .ref (q 208), .int 0, .int 0, .ref (q 209), .ref (q 210), .ref (q 211), .ref (q 212), .ref (q 213), .int 0, .int 0, .ref (q 214), .ref (q 215), .ref (q 216), .int 0, .int 0])), ((q 206), .inl (k 0, 900, .inl (upd (upd f (12 : Int32).toNatClampNeg (vp_nar .byte x_1.toInt8.toInt32)) (13 : Int32).toNatClampNeg (vp_nar .byte x_3.toInt8.toInt32))))] := hD
  refine lv_aload_n hx hb dX12_four_20 rfl (lv_at hl 1 rfl) ?_
  refine lv_dup hx hb dX12_four_21 rfl ?_
  refine va_get (D := D) (ci := 12) (v := .int 13) (C := RX12) (T := TX12) (N := 36) hx hb hts iX12 hown hK hP 0 rfl rfl 10 (by decide) (hts _ qf_X12_106) (fun _ h => h) rfl dX12_four_22 ?_
  refine lv_iconst (v := 1) hx hb dX12_four_25 (by decide) ?_
  refine lv_iadd hx hb dX12_four_26 ?_
  refine lv_topi (fun x_4 ex_4 => ?_)
  obtain rfl : x_4 = 14 := ex_4.trans (by decide +kernel)
  refine va_put (D := D) (ci := 12) (v := .int 14) (ty := .int) (C := RX12) (T := TX12) (N := 36) hx hb hts iX12 tyX12 tyX12_ok nmX12 hown hK hP hD hS 0 rfl rfl 10 (by decide) (hts _ qf_X12_106) (fun _ h => h) rfl (by decide +kernel) rfl rfl (Nat.le_of_ble_eq_true rfl) dX12_four_27 (fun H locs hP hD hS => ?_)
  have hP : va_P D vwCl [((q 200), .inr (12, [.ref (q 201), .ref (q 202), .int 0, .long 0, .long 1, .ref (q 203), .ref (q 204), .ref (q 205), .ref (q 206), .ref (q 207), .int 14, .int 0, .int 0, .int 0, .int 0, .int 0, .int (-1), .int (-1), .int 0, .int 0, .int 0, .ref (q 208), .int 0, .int 0, .ref (q 209), .ref (q 210), .ref (q 211), .ref (q 212), .ref (q 213), .int 0, .int 0, .ref (q 214), .ref (q 215), .ref (q 216), .int 0, .int 0])), ((q 206), .inl (k 0, 900, .inl (upd (upd f (12 : Int32).toNatClampNeg (vp_nar .byte x_1.toInt8.toInt32)) (13 : Int32).toNatClampNeg (vp_nar .byte x_3.toInt8.toInt32))))] H := hP
  have hD : va_D A [((q 200), .inr (12, [.ref (q 201), .ref (q 202), .int 0, .long 0, .long 1, .ref (q 203), .ref (q 204), .ref (q 205), .ref (q 206), .ref (q 207), .int 14, .int 0, .int 0, .int 0, .int 0, .int 0, .int (-1), .int (-1), .int 0, .int 0, .int 0, .ref (q 208), .int 0, .int 0, .ref (q 209), .ref (q 210), .ref (q 211), .ref (q 212), .ref (q 213), .int 0, .int 0, .ref (q 214), .ref (q 215), .ref (q 216), .int 0, .int 0])), ((q 206), .inl (k 0, 900, .inl (upd (upd f (12 : Int32).toNatClampNeg (vp_nar .byte x_1.toInt8.toInt32)) (13 : Int32).toNatClampNeg (vp_nar .byte x_3.toInt8.toInt32))))] := hD
  refine lv_iinc (v := 8) (lv' := [(2, .int 8), (0, .ref (q 200)), (1, .int x)]) hx hb dX12_four_30 hl (k := 0) rfl (by decide +kernel) (by decide) rfl (fun ls hl => ?_)
  refine lv_goto (tgt := 3) hx hb dX12_four_33 (by decide) ?_
  refine lv_iload_n hx hb dX12_four_3 rfl (lv_at hl 0 rfl) ?_
  refine lv_if_lt (tgt := 36) hx hb dX12_four_4 (by decide) (fun c => absurd c (by decide)) (fun _ => ?_)
  refine lv_aload_n hx hb dX12_four_7 rfl (lv_at hl 1 rfl) ?_
  refine va_get (D := D) (ci := 12) (v := .ref (q 206)) (C := RX12) (T := TX12) (N := 36) hx hb hts iX12 hown hK hP 0 rfl rfl 8 (by decide) (hts _ qf_X12_30) (fun _ h => h) rfl dX12_four_8 ?_
  refine lv_aload_n hx hb dX12_four_11 rfl (lv_at hl 1 rfl) ?_
  refine va_get (D := D) (ci := 12) (v := .int 14) (C := RX12) (T := TX12) (N := 36) hx hb hts iX12 hown hK hP 0 rfl rfl 10 (by decide) (hts _ qf_X12_106) (fun _ h => h) rfl dX12_four_12 ?_
  refine lv_iload_n hx hb dX12_four_15 rfl (lv_at hl 2 rfl) ?_
  refine lv_iload_n hx hb dX12_four_16 rfl (lv_at hl 0 rfl) ?_
  refine lv_ishr hx hb dX12_four_17 ?_
  refine lv_topi (fun x_5 ex_5 => ?_)
  refine lv_i2b (v := x_5.toInt8.toInt32) hx hb dX12_four_18 rfl ?_
  refine va_bast hx hb hK hP hD hS 1 0 rfl rfl (xin 14 900 rfl (by decide) (by decide)) dX12_four_19 (fun H locs hP hD hS => ?_)
  have hP : va_P D vwCl [((q 200), .inr (12, [.ref (q 201), .ref (q 202), .int 0, .long 0, .long 1, .ref (q 203), .ref (q 204), .ref (q 205), .ref (q 206), .ref (q 207), .int 14, .int 0, .int 0, .int 0, .int 0, .int 0, .int (-1), .int (-1), .int 0, .int 0, .int 0, .ref (q 208), .int 0, .int 0, .ref (q 209), .ref (q 210), .ref (q 211), .ref (q 212), .ref (q 213), .int 0, .int 0, .ref (q 214), .ref (q 215), .ref (q 216), .int 0, .int 0])), ((q 206), .inl (k 0, 900, .inl (upd (upd (upd f (12 : Int32).toNatClampNeg (vp_nar .byte x_1.toInt8.toInt32)) (13 : Int32).toNatClampNeg (vp_nar .byte x_3.toInt8.toInt32)) (14 : Int32).toNatClampNeg (vp_nar .byte x_5.toInt8.toInt32))))] H := hP
  have hD : va_D A [((q 200), .inr (12, [.ref (q 201), .ref (q 202), .int 0, .long 0, .long 1, .ref (q 203), .ref (q 204), .ref (q 205), .ref (q 206), .ref (q 207), .int 14, .int 0, .int 0, .int 0, .int 0, .int 0, .int (-1), .int (-1), .int 0, .int 0, .int 0, .ref (q 208), .int 0, .int 0, .ref (q 209), .ref (q 210), .ref (q 211), .ref (q 212), .ref (q 213), .int 0, .int 0, .ref (q 214), .ref (q 215), .ref (q 216), .int 0, .int 0])), ((q 206), .inl (k 0, 900, .inl (upd (upd (upd f (12 : Int32).toNatClampNeg (vp_nar .byte x_1.toInt8.toInt32)) (13 : Int32).toNatClampNeg (vp_nar .byte x_3.toInt8.toInt32)) (14 : Int32).toNatClampNeg (vp_nar .byte x_5.toInt8.toInt32))))] := hD
  refine lv_aload_n hx hb dX12_four_20 rfl (lv_at hl 1 rfl) ?_
  refine lv_dup hx hb dX12_four_21 rfl ?_
  refine va_get (D := D) (ci := 12) (v := .int 14) (C := RX12) (T := TX12) (N := 36) hx hb hts iX12 hown hK hP 0 rfl rfl 10 (by decide) (hts _ qf_X12_106) (fun _ h => h) rfl dX12_four_22 ?_
  refine lv_iconst (v := 1) hx hb dX12_four_25 (by decide) ?_
  refine lv_iadd hx hb dX12_four_26 ?_
  refine lv_topi (fun x_6 ex_6 => ?_)
  obtain rfl : x_6 = 15 := ex_6.trans (by decide +kernel)
  refine va_put (D := D) (ci := 12) (v := .int 15) (ty := .int) (C := RX12) (T := TX12) (N := 36) hx hb hts iX12 tyX12 tyX12_ok nmX12 hown hK hP hD hS 0 rfl rfl 10 (by decide) (hts _ qf_X12_106) (fun _ h => h) rfl (by decide +kernel) rfl rfl (Nat.le_of_ble_eq_true rfl) dX12_four_27 (fun H locs hP hD hS => ?_)
  have hP : va_P D vwCl [((q 200), .inr (12, [.ref (q 201), .ref (q 202), .int 0, .long 0, .long 1, .ref (q 203), .ref (q 204), .ref (q 205), .ref (q 206), .ref (q 207), .int 15, .int 0, .int 0, .int 0, .int 0, .int 0, .int (-1), .int (-1), .int 0, .int 0, .int 0, .ref (q 208), .int 0, .int 0, .ref (q 209), .ref (q 210), .ref (q 211), .ref (q 212), .ref (q 213), .int 0, .int 0, .ref (q 214), .ref (q 215), .ref (q 216), .int 0, .int 0])), ((q 206), .inl (k 0, 900, .inl (upd (upd (upd f (12 : Int32).toNatClampNeg (vp_nar .byte x_1.toInt8.toInt32)) (13 : Int32).toNatClampNeg (vp_nar .byte x_3.toInt8.toInt32)) (14 : Int32).toNatClampNeg (vp_nar .byte x_5.toInt8.toInt32))))] H := hP
  have hD : va_D A [((q 200), .inr (12, [.ref (q 201), .ref (q 202), .int 0, .long 0, .long 1, .ref (q 203), .ref (q 204), .ref (q 205), .ref (q 206), .ref (q 207), .int 15, .int 0, .int 0, .int 0, .int 0, .int 0, .int (-1), .int (-1), .int 0, .int 0, .int 0, .ref (q 208), .int 0, .int 0, .ref (q 209), .ref (q 210), .ref (q 211), .ref (q 212), .ref (q 213), .int 0, .int 0, .ref (q 214), .ref (q 215), .ref (q 216), .int 0, .int 0])), ((q 206), .inl (k 0, 900, .inl (upd (upd (upd f (12 : Int32).toNatClampNeg (vp_nar .byte x_1.toInt8.toInt32)) (13 : Int32).toNatClampNeg (vp_nar .byte x_3.toInt8.toInt32)) (14 : Int32).toNatClampNeg (vp_nar .byte x_5.toInt8.toInt32))))] := hD
  refine lv_iinc (v := 0) (lv' := [(2, .int 0), (0, .ref (q 200)), (1, .int x)]) hx hb dX12_four_30 hl (k := 0) rfl (by decide +kernel) (by decide) rfl (fun ls hl => ?_)
  refine lv_goto (tgt := 3) hx hb dX12_four_33 (by decide) ?_
  refine lv_iload_n hx hb dX12_four_3 rfl (lv_at hl 0 rfl) ?_
  refine lv_if_lt (tgt := 36) hx hb dX12_four_4 (by decide) (fun c => absurd c (by decide)) (fun _ => ?_)
  refine lv_aload_n hx hb dX12_four_7 rfl (lv_at hl 1 rfl) ?_
  refine va_get (D := D) (ci := 12) (v := .ref (q 206)) (C := RX12) (T := TX12) (N := 36) hx hb hts iX12 hown hK hP 0 rfl rfl 8 (by decide) (hts _ qf_X12_30) (fun _ h => h) rfl dX12_four_8 ?_
  refine lv_aload_n hx hb dX12_four_11 rfl (lv_at hl 1 rfl) ?_
  refine va_get (D := D) (ci := 12) (v := .int 15) (C := RX12) (T := TX12) (N := 36) hx hb hts iX12 hown hK hP 0 rfl rfl 10 (by decide) (hts _ qf_X12_106) (fun _ h => h) rfl dX12_four_12 ?_
  refine lv_iload_n hx hb dX12_four_15 rfl (lv_at hl 2 rfl) ?_
  refine lv_iload_n hx hb dX12_four_16 rfl (lv_at hl 0 rfl) ?_
  refine lv_ishr hx hb dX12_four_17 ?_
  refine lv_topi (fun x_7 ex_7 => ?_)
  refine lv_i2b (v := x_7.toInt8.toInt32) hx hb dX12_four_18 rfl ?_
  refine va_bast hx hb hK hP hD hS 1 0 rfl rfl (xin 15 900 rfl (by decide) (by decide)) dX12_four_19 (fun H locs hP hD hS => ?_)
  have hP : va_P D vwCl [((q 200), .inr (12, [.ref (q 201), .ref (q 202), .int 0, .long 0, .long 1, .ref (q 203), .ref (q 204), .ref (q 205), .ref (q 206), .ref (q 207), .int 15, .int 0, .int 0, .int 0, .int 0, .int 0, .int (-1), .int (-1), .int 0, .int 0, .int 0, .ref (q 208), .int 0, .int 0, .ref (q 209), .ref (q 210), .ref (q 211), .ref (q 212), .ref (q 213), .int 0, .int 0, .ref (q 214), .ref (q 215), .ref (q 216), .int 0, .int 0])), ((q 206), .inl (k 0, 900, .inl (upd (upd (upd (upd f (12 : Int32).toNatClampNeg (vp_nar .byte x_1.toInt8.toInt32)) (13 : Int32).toNatClampNeg (vp_nar .byte x_3.toInt8.toInt32)) (14 : Int32).toNatClampNeg (vp_nar .byte x_5.toInt8.toInt32)) (15 : Int32).toNatClampNeg (vp_nar .byte x_7.toInt8.toInt32))))] H := hP
  have hD : va_D A [((q 200), .inr (12, [.ref (q 201), .ref (q 202), .int 0, .long 0, .long 1, .ref (q 203), .ref (q 204), .ref (q 205), .ref (q 206), .ref (q 207), .int 15, .int 0, .int 0, .int 0, .int 0, .int 0, .int (-1), .int (-1), .int 0, .int 0, .int 0, .ref (q 208), .int 0, .int 0, .ref (q 209), .ref (q 210), .ref (q 211), .ref (q 212), .ref (q 213), .int 0, .int 0, .ref (q 214), .ref (q 215), .ref (q 216), .int 0, .int 0])), ((q 206), .inl (k 0, 900, .inl (upd (upd (upd (upd f (12 : Int32).toNatClampNeg (vp_nar .byte x_1.toInt8.toInt32)) (13 : Int32).toNatClampNeg (vp_nar .byte x_3.toInt8.toInt32)) (14 : Int32).toNatClampNeg (vp_nar .byte x_5.toInt8.toInt32)) (15 : Int32).toNatClampNeg (vp_nar .byte x_7.toInt8.toInt32))))] := hD
  refine lv_aload_n hx hb dX12_four_20 rfl (lv_at hl 1 rfl) ?_
  refine lv_dup hx hb dX12_four_21 rfl ?_
  refine va_get (D := D) (ci := 12) (v := .int 15) (C := RX12) (T := TX12) (N := 36) hx hb hts iX12 hown hK hP 0 rfl rfl 10 (by decide) (hts _ qf_X12_106) (fun _ h => h) rfl dX12_four_22 ?_
  refine lv_iconst (v := 1) hx hb dX12_four_25 (by decide) ?_
  refine lv_iadd hx hb dX12_four_26 ?_
  refine lv_topi (fun x_8 ex_8 => ?_)
  obtain rfl : x_8 = 16 := ex_8.trans (by decide +kernel)
  refine va_put (D := D) (ci := 12) (v := .int 16) (ty := .int) (C := RX12) (T := TX12) (N := 36) hx hb hts iX12 tyX12 tyX12_ok nmX12 hown hK hP hD hS 0 rfl rfl 10 (by decide) (hts _ qf_X12_106) (fun _ h => h) rfl (by decide +kernel) rfl rfl (Nat.le_of_ble_eq_true rfl) dX12_four_27 (fun H locs hP hD hS => ?_)
  have hP : va_P D vwCl [((q 200), .inr (12, [.ref (q 201), .ref (q 202), .int 0, .long 0, .long 1, .ref (q 203), .ref (q 204), .ref (q 205), .ref (q 206), .ref (q 207), .int 16, .int 0, .int 0, .int 0, .int 0, .int 0, .int (-1), .int (-1), .int 0, .int 0, .int 0, .ref (q 208), .int 0, .int 0, .ref (q 209), .ref (q 210), .ref (q 211), .ref (q 212), .ref (q 213), .int 0, .int 0, .ref (q 214), .ref (q 215), .ref (q 216), .int 0, .int 0])), ((q 206), .inl (k 0, 900, .inl (upd (upd (upd (upd f (12 : Int32).toNatClampNeg (vp_nar .byte x_1.toInt8.toInt32)) (13 : Int32).toNatClampNeg (vp_nar .byte x_3.toInt8.toInt32)) (14 : Int32).toNatClampNeg (vp_nar .byte x_5.toInt8.toInt32)) (15 : Int32).toNatClampNeg (vp_nar .byte x_7.toInt8.toInt32))))] H := hP
  have hD : va_D A [((q 200), .inr (12, [.ref (q 201), .ref (q 202), .int 0, .long 0, .long 1, .ref (q 203), .ref (q 204), .ref (q 205), .ref (q 206), .ref (q 207), .int 16, .int 0, .int 0, .int 0, .int 0, .int 0, .int (-1), .int (-1), .int 0, .int 0, .int 0, .ref (q 208), .int 0, .int 0, .ref (q 209), .ref (q 210), .ref (q 211), .ref (q 212), .ref (q 213), .int 0, .int 0, .ref (q 214), .ref (q 215), .ref (q 216), .int 0, .int 0])), ((q 206), .inl (k 0, 900, .inl (upd (upd (upd (upd f (12 : Int32).toNatClampNeg (vp_nar .byte x_1.toInt8.toInt32)) (13 : Int32).toNatClampNeg (vp_nar .byte x_3.toInt8.toInt32)) (14 : Int32).toNatClampNeg (vp_nar .byte x_5.toInt8.toInt32)) (15 : Int32).toNatClampNeg (vp_nar .byte x_7.toInt8.toInt32))))] := hD
  refine lv_iinc (v := (-8)) (lv' := [(2, .int (-8)), (0, .ref (q 200)), (1, .int x)]) hx hb dX12_four_30 hl (k := 0) rfl (by decide +kernel) (by decide) rfl (fun ls hl => ?_)
  refine lv_goto (tgt := 3) hx hb dX12_four_33 (by decide) ?_
  refine lv_iload_n hx hb dX12_four_3 rfl (lv_at hl 0 rfl) ?_
  refine lv_if_lt (tgt := 36) hx hb dX12_four_4 (by decide) (fun _ => ?_) (fun c => absurd (by decide) c)
  exact EWv hx hb hr hlocks hS (upd (upd (upd (upd f (12 : Int32).toNatClampNeg (vp_nar .byte x_1.toInt8.toInt32)) (13 : Int32).toNatClampNeg (vp_nar .byte x_3.toInt8.toInt32)) (14 : Int32).toNatClampNeg (vp_nar .byte x_5.toInt8.toInt32)) (15 : Int32).toNatClampNeg (vp_nar .byte x_7.toInt8.toInt32)) rfl trivial hP hD dX12_four_36
set_option maxHeartbeats 4000000 in
set_option maxRecDepth 100000 in
theorem m_four16 (l : Launch) (D : va_G) (k : Nat → ClassId) (q : Nat → Nat) (f : Nat → Int32) (x : Int32) : WD (σ := (Nat → Int32)) l yX12_four cX12_four 3 none 0 0 0 D k [.ref (q 200), .int x] [((q 200), .inr (12, [.ref (q 201), .ref (q 202), .int 0, .long 0, .long 1, .ref (q 203), .ref (q 204), .ref (q 205), .ref (q 206), .ref (q 207), .int 16, .int 0, .int 0, .int 0, .int 0, .int 0, .int (-1), .int (-1), .int 0, .int 0, .int 0, .ref (q 208), .int 0, .int 0, .ref (q 209), .ref (q 210), .ref (q 211), .ref (q 212), .ref (q 213), .int 0, .int 0, .ref (q 214), .ref (q 215), .ref (q 216), .int 0, .int 0])), ((q 206), .inl (k 0, 900, .inl f))] (fun _ => none) (fun _ => True) (fun g => [((q 200), .inr (12, [.ref (q 201), .ref (q 202), .int 0, .long 0, .long 1, .ref (q 203), .ref (q 204), .ref (q 205), .ref (q 206), .ref (q 207), .int 20, .int 0, .int 0, .int 0, .int 0, .int 0, .int (-1), .int (-1), .int 0, .int 0, .int 0, .ref (q 208), .int 0, .int 0, .ref (q 209), .ref (q 210), .ref (q 211), .ref (q 212), .ref (q 213), .int 0, .int 0, .ref (q 214), .ref (q 215), .ref (q 216), .int 0, .int 0])), ((q 206), .inl (k 0, 900, .inl g))]) := by
  refine MW (by decide) (Nat.le_of_ble_eq_true rfl) (fun p e s m below meth c ls A hx hb hml hr hlocks hin hts hown hKK hP hD hS hA hl => ?_)
  have hK := hKK.1
  have hl : lv_has ls 3 [(0, .ref (q 200)), (1, .int x)] := hl
  refine lv_bipush (v := 24) hx hb dX12_four_0 (by decide) ?_
  refine lv_istore_n (lv' := [(2, .int 24), (0, .ref (q 200)), (1, .int x)]) hx hb dX12_four_2 rfl hl (by decide) rfl (fun ls hl => ?_)
  refine lv_iload_n hx hb dX12_four_3 rfl (lv_at hl 0 rfl) ?_
  refine lv_if_lt (tgt := 36) hx hb dX12_four_4 (by decide) (fun c => absurd c (by decide)) (fun _ => ?_)
  refine lv_aload_n hx hb dX12_four_7 rfl (lv_at hl 1 rfl) ?_
  refine va_get (D := D) (ci := 12) (v := .ref (q 206)) (C := RX12) (T := TX12) (N := 36) hx hb hts iX12 hown hK hP 0 rfl rfl 8 (by decide) (hts _ qf_X12_30) (fun _ h => h) rfl dX12_four_8 ?_
  refine lv_aload_n hx hb dX12_four_11 rfl (lv_at hl 1 rfl) ?_
  refine va_get (D := D) (ci := 12) (v := .int 16) (C := RX12) (T := TX12) (N := 36) hx hb hts iX12 hown hK hP 0 rfl rfl 10 (by decide) (hts _ qf_X12_106) (fun _ h => h) rfl dX12_four_12 ?_
  refine lv_iload_n hx hb dX12_four_15 rfl (lv_at hl 2 rfl) ?_
  refine lv_iload_n hx hb dX12_four_16 rfl (lv_at hl 0 rfl) ?_
  refine lv_ishr hx hb dX12_four_17 ?_
  refine lv_topi (fun x_1 ex_1 => ?_)
  refine lv_i2b (v := x_1.toInt8.toInt32) hx hb dX12_four_18 rfl ?_
  refine va_bast hx hb hK hP hD hS 1 0 rfl rfl (xin 16 900 rfl (by decide) (by decide)) dX12_four_19 (fun H locs hP hD hS => ?_)
  have hP : va_P D vwCl [((q 200), .inr (12, [.ref (q 201), .ref (q 202), .int 0, .long 0, .long 1, .ref (q 203), .ref (q 204), .ref (q 205), .ref (q 206), .ref (q 207), .int 16, .int 0, .int 0, .int 0, .int 0, .int 0, .int (-1), .int (-1), .int 0, .int 0, .int 0, .ref (q 208), .int 0, .int 0, .ref (q 209), .ref (q 210), .ref (q 211), .ref (q 212), .ref (q 213), .int 0, .int 0, .ref (q 214), .ref (q 215), .ref (q 216), .int 0, .int 0])), ((q 206), .inl (k 0, 900, .inl (upd f (16 : Int32).toNatClampNeg (vp_nar .byte x_1.toInt8.toInt32))))] H := hP
  have hD : va_D A [((q 200), .inr (12, [.ref (q 201), .ref (q 202), .int 0, .long 0, .long 1, .ref (q 203), .ref (q 204), .ref (q 205), .ref (q 206), .ref (q 207), .int 16, .int 0, .int 0, .int 0, .int 0, .int 0, .int (-1), .int (-1), .int 0, .int 0, .int 0, .ref (q 208), .int 0, .int 0, .ref (q 209), .ref (q 210), .ref (q 211), .ref (q 212), .ref (q 213), .int 0, .int 0, .ref (q 214), .ref (q 215), .ref (q 216), .int 0, .int 0])), ((q 206), .inl (k 0, 900, .inl (upd f (16 : Int32).toNatClampNeg (vp_nar .byte x_1.toInt8.toInt32))))] := hD
  refine lv_aload_n hx hb dX12_four_20 rfl (lv_at hl 1 rfl) ?_
  refine lv_dup hx hb dX12_four_21 rfl ?_
  refine va_get (D := D) (ci := 12) (v := .int 16) (C := RX12) (T := TX12) (N := 36) hx hb hts iX12 hown hK hP 0 rfl rfl 10 (by decide) (hts _ qf_X12_106) (fun _ h => h) rfl dX12_four_22 ?_
  refine lv_iconst (v := 1) hx hb dX12_four_25 (by decide) ?_
  refine lv_iadd hx hb dX12_four_26 ?_
  refine lv_topi (fun x_2 ex_2 => ?_)
  obtain rfl : x_2 = 17 := ex_2.trans (by decide +kernel)
  refine va_put (D := D) (ci := 12) (v := .int 17) (ty := .int) (C := RX12) (T := TX12) (N := 36) hx hb hts iX12 tyX12 tyX12_ok nmX12 hown hK hP hD hS 0 rfl rfl 10 (by decide) (hts _ qf_X12_106) (fun _ h => h) rfl (by decide +kernel) rfl rfl (Nat.le_of_ble_eq_true rfl) dX12_four_27 (fun H locs hP hD hS => ?_)
  have hP : va_P D vwCl [((q 200), .inr (12, [.ref (q 201), .ref (q 202), .int 0, .long 0, .long 1, .ref (q 203), .ref (q 204), .ref (q 205), .ref (q 206), .ref (q 207), .int 17, .int 0, .int 0, .int 0, .int 0, .int 0, .int (-1), .int (-1), .int 0, .int 0, .int 0, .ref (q 208), .int 0, .int 0, .ref (q 209), .ref (q 210), .ref (q 211), .ref (q 212), .ref (q 213), .int 0, .int 0, .ref (q 214), .ref (q 215), .ref (q 216), .int 0, .int 0])), ((q 206), .inl (k 0, 900, .inl (upd f (16 : Int32).toNatClampNeg (vp_nar .byte x_1.toInt8.toInt32))))] H := hP
  have hD : va_D A [((q 200), .inr (12, [.ref (q 201), .ref (q 202), .int 0, .long 0, .long 1, .ref (q 203), .ref (q 204), .ref (q 205), .ref (q 206), .ref (q 207), .int 17, .int 0, .int 0, .int 0, .int 0, .int 0, .int (-1), .int (-1), .int 0, .int 0, .int 0, .ref (q 208), .int 0, .int 0, .ref (q 209), .ref (q 210), .ref (q 211), .ref (q 212), .ref (q 213), .int 0, .int 0, .ref (q 214), .ref (q 215), .ref (q 216), .int 0, .int 0])), ((q 206), .inl (k 0, 900, .inl (upd f (16 : Int32).toNatClampNeg (vp_nar .byte x_1.toInt8.toInt32))))] := hD
  refine lv_iinc (v := 16) (lv' := [(2, .int 16), (0, .ref (q 200)), (1, .int x)]) hx hb dX12_four_30 hl (k := 0) rfl (by decide +kernel) (by decide) rfl (fun ls hl => ?_)
  refine lv_goto (tgt := 3) hx hb dX12_four_33 (by decide) ?_
  refine lv_iload_n hx hb dX12_four_3 rfl (lv_at hl 0 rfl) ?_
  refine lv_if_lt (tgt := 36) hx hb dX12_four_4 (by decide) (fun c => absurd c (by decide)) (fun _ => ?_)
  refine lv_aload_n hx hb dX12_four_7 rfl (lv_at hl 1 rfl) ?_
  refine va_get (D := D) (ci := 12) (v := .ref (q 206)) (C := RX12) (T := TX12) (N := 36) hx hb hts iX12 hown hK hP 0 rfl rfl 8 (by decide) (hts _ qf_X12_30) (fun _ h => h) rfl dX12_four_8 ?_
  refine lv_aload_n hx hb dX12_four_11 rfl (lv_at hl 1 rfl) ?_
  refine va_get (D := D) (ci := 12) (v := .int 17) (C := RX12) (T := TX12) (N := 36) hx hb hts iX12 hown hK hP 0 rfl rfl 10 (by decide) (hts _ qf_X12_106) (fun _ h => h) rfl dX12_four_12 ?_
  refine lv_iload_n hx hb dX12_four_15 rfl (lv_at hl 2 rfl) ?_
  refine lv_iload_n hx hb dX12_four_16 rfl (lv_at hl 0 rfl) ?_
  refine lv_ishr hx hb dX12_four_17 ?_
  refine lv_topi (fun x_3 ex_3 => ?_)
  refine lv_i2b (v := x_3.toInt8.toInt32) hx hb dX12_four_18 rfl ?_
  refine va_bast hx hb hK hP hD hS 1 0 rfl rfl (xin 17 900 rfl (by decide) (by decide)) dX12_four_19 (fun H locs hP hD hS => ?_)
  have hP : va_P D vwCl [((q 200), .inr (12, [.ref (q 201), .ref (q 202), .int 0, .long 0, .long 1, .ref (q 203), .ref (q 204), .ref (q 205), .ref (q 206), .ref (q 207), .int 17, .int 0, .int 0, .int 0, .int 0, .int 0, .int (-1), .int (-1), .int 0, .int 0, .int 0, .ref (q 208), .int 0, .int 0, .ref (q 209), .ref (q 210), .ref (q 211), .ref (q 212), .ref (q 213), .int 0, .int 0, .ref (q 214), .ref (q 215), .ref (q 216), .int 0, .int 0])), ((q 206), .inl (k 0, 900, .inl (upd (upd f (16 : Int32).toNatClampNeg (vp_nar .byte x_1.toInt8.toInt32)) (17 : Int32).toNatClampNeg (vp_nar .byte x_3.toInt8.toInt32))))] H := hP
  have hD : va_D A [((q 200), .inr (12, [.ref (q 201), .ref (q 202), .int 0, .long 0, .long 1, .ref (q 203), .ref (q 204), .ref (q 205), .ref (q 206), .ref (q 207), .int 17, .int 0, .int 0, .int 0, .int 0, .int 0, .int (-1), .int (-1), .int 0, .int 0, .int 0, .ref (q 208), .int 0, .int 0, .ref (q 209), .ref (q 210), .ref (q 211), .ref (q 212), .ref (q 213), .int 0, .int 0, .ref (q 214), .ref (q 215), .ref (q 216), .int 0, .int 0])), ((q 206), .inl (k 0, 900, .inl (upd (upd f (16 : Int32).toNatClampNeg (vp_nar .byte x_1.toInt8.toInt32)) (17 : Int32).toNatClampNeg (vp_nar .byte x_3.toInt8.toInt32))))] := hD
  refine lv_aload_n hx hb dX12_four_20 rfl (lv_at hl 1 rfl) ?_
  refine lv_dup hx hb dX12_four_21 rfl ?_
  refine va_get (D := D) (ci := 12) (v := .int 17) (C := RX12) (T := TX12) (N := 36) hx hb hts iX12 hown hK hP 0 rfl rfl 10 (by decide) (hts _ qf_X12_106) (fun _ h => h) rfl dX12_four_22 ?_
  refine lv_iconst (v := 1) hx hb dX12_four_25 (by decide) ?_
  refine lv_iadd hx hb dX12_four_26 ?_
  refine lv_topi (fun x_4 ex_4 => ?_)
  obtain rfl : x_4 = 18 := ex_4.trans (by decide +kernel)
  refine va_put (D := D) (ci := 12) (v := .int 18) (ty := .int) (C := RX12) (T := TX12) (N := 36) hx hb hts iX12 tyX12 tyX12_ok nmX12 hown hK hP hD hS 0 rfl rfl 10 (by decide) (hts _ qf_X12_106) (fun _ h => h) rfl (by decide +kernel) rfl rfl (Nat.le_of_ble_eq_true rfl) dX12_four_27 (fun H locs hP hD hS => ?_)
  have hP : va_P D vwCl [((q 200), .inr (12, [.ref (q 201), .ref (q 202), .int 0, .long 0, .long 1, .ref (q 203), .ref (q 204), .ref (q 205), .ref (q 206), .ref (q 207), .int 18, .int 0, .int 0, .int 0, .int 0, .int 0, .int (-1), .int (-1), .int 0, .int 0, .int 0, .ref (q 208), .int 0, .int 0, .ref (q 209), .ref (q 210), .ref (q 211), .ref (q 212), .ref (q 213), .int 0, .int 0, .ref (q 214), .ref (q 215), .ref (q 216), .int 0, .int 0])), ((q 206), .inl (k 0, 900, .inl (upd (upd f (16 : Int32).toNatClampNeg (vp_nar .byte x_1.toInt8.toInt32)) (17 : Int32).toNatClampNeg (vp_nar .byte x_3.toInt8.toInt32))))] H := hP
  have hD : va_D A [((q 200), .inr (12, [.ref (q 201), .ref (q 202), .int 0, .long 0, .long 1, .ref (q 203), .ref (q 204), .ref (q 205), .ref (q 206), .ref (q 207), .int 18, .int 0, .int 0, .int 0, .int 0, .int 0, .int (-1), .int (-1), .int 0, .int 0, .int 0, .ref (q 208), .int 0, .int 0, .ref (q 209), .ref (q 210), .ref (q 211), .ref (q 212), .ref (q 213), .int 0, .int 0, .ref (q 214), .ref (q 215), .ref (q 216), .int 0, .int 0])), ((q 206), .inl (k 0, 900, .inl (upd (upd f (16 : Int32).toNatClampNeg (vp_nar .byte x_1.toInt8.toInt32)) (17 : Int32).toNatClampNeg (vp_nar .byte x_3.toInt8.toInt32))))] := hD
  refine lv_iinc (v := 8) (lv' := [(2, .int 8), (0, .ref (q 200)), (1, .int x)]) hx hb dX12_four_30 hl (k := 0) rfl (by decide +kernel) (by decide) rfl (fun ls hl => ?_)
  refine lv_goto (tgt := 3) hx hb dX12_four_33 (by decide) ?_
  refine lv_iload_n hx hb dX12_four_3 rfl (lv_at hl 0 rfl) ?_
  refine lv_if_lt (tgt := 36) hx hb dX12_four_4 (by decide) (fun c => absurd c (by decide)) (fun _ => ?_)
  refine lv_aload_n hx hb dX12_four_7 rfl (lv_at hl 1 rfl) ?_
  refine va_get (D := D) (ci := 12) (v := .ref (q 206)) (C := RX12) (T := TX12) (N := 36) hx hb hts iX12 hown hK hP 0 rfl rfl 8 (by decide) (hts _ qf_X12_30) (fun _ h => h) rfl dX12_four_8 ?_
  refine lv_aload_n hx hb dX12_four_11 rfl (lv_at hl 1 rfl) ?_
  refine va_get (D := D) (ci := 12) (v := .int 18) (C := RX12) (T := TX12) (N := 36) hx hb hts iX12 hown hK hP 0 rfl rfl 10 (by decide) (hts _ qf_X12_106) (fun _ h => h) rfl dX12_four_12 ?_
  refine lv_iload_n hx hb dX12_four_15 rfl (lv_at hl 2 rfl) ?_
  refine lv_iload_n hx hb dX12_four_16 rfl (lv_at hl 0 rfl) ?_
  refine lv_ishr hx hb dX12_four_17 ?_
  refine lv_topi (fun x_5 ex_5 => ?_)
  refine lv_i2b (v := x_5.toInt8.toInt32) hx hb dX12_four_18 rfl ?_
  refine va_bast hx hb hK hP hD hS 1 0 rfl rfl (xin 18 900 rfl (by decide) (by decide)) dX12_four_19 (fun H locs hP hD hS => ?_)
  have hP : va_P D vwCl [((q 200), .inr (12, [.ref (q 201), .ref (q 202), .int 0, .long 0, .long 1, .ref (q 203), .ref (q 204), .ref (q 205), .ref (q 206), .ref (q 207), .int 18, .int 0, .int 0, .int 0, .int 0, .int 0, .int (-1), .int (-1), .int 0, .int 0, .int 0, .ref (q 208), .int 0, .int 0, .ref (q 209), .ref (q 210), .ref (q 211), .ref (q 212), .ref (q 213), .int 0, .int 0, .ref (q 214), .ref (q 215), .ref (q 216), .int 0, .int 0])), ((q 206), .inl (k 0, 900, .inl (upd (upd (upd f (16 : Int32).toNatClampNeg (vp_nar .byte x_1.toInt8.toInt32)) (17 : Int32).toNatClampNeg (vp_nar .byte x_3.toInt8.toInt32)) (18 : Int32).toNatClampNeg (vp_nar .byte x_5.toInt8.toInt32))))] H := hP
  have hD : va_D A [((q 200), .inr (12, [.ref (q 201), .ref (q 202), .int 0, .long 0, .long 1, .ref (q 203), .ref (q 204), .ref (q 205), .ref (q 206), .ref (q 207), .int 18, .int 0, .int 0, .int 0, .int 0, .int 0, .int (-1), .int (-1), .int 0, .int 0, .int 0, .ref (q 208), .int 0, .int 0, .ref (q 209), .ref (q 210), .ref (q 211), .ref (q 212), .ref (q 213), .int 0, .int 0, .ref (q 214), .ref (q 215), .ref (q 216), .int 0, .int 0])), ((q 206), .inl (k 0, 900, .inl (upd (upd (upd f (16 : Int32).toNatClampNeg (vp_nar .byte x_1.toInt8.toInt32)) (17 : Int32).toNatClampNeg (vp_nar .byte x_3.toInt8.toInt32)) (18 : Int32).toNatClampNeg (vp_nar .byte x_5.toInt8.toInt32))))] := hD
  refine lv_aload_n hx hb dX12_four_20 rfl (lv_at hl 1 rfl) ?_
  refine lv_dup hx hb dX12_four_21 rfl ?_
  refine va_get (D := D) (ci := 12) (v := .int 18) (C := RX12) (T := TX12) (N := 36) hx hb hts iX12 hown hK hP 0 rfl rfl 10 (by decide) (hts _ qf_X12_106) (fun _ h => h) rfl dX12_four_22 ?_
  refine lv_iconst (v := 1) hx hb dX12_four_25 (by decide) ?_
  refine lv_iadd hx hb dX12_four_26 ?_
  refine lv_topi (fun x_6 ex_6 => ?_)
  obtain rfl : x_6 = 19 := ex_6.trans (by decide +kernel)
  refine va_put (D := D) (ci := 12) (v := .int 19) (ty := .int) (C := RX12) (T := TX12) (N := 36) hx hb hts iX12 tyX12 tyX12_ok nmX12 hown hK hP hD hS 0 rfl rfl 10 (by decide) (hts _ qf_X12_106) (fun _ h => h) rfl (by decide +kernel) rfl rfl (Nat.le_of_ble_eq_true rfl) dX12_four_27 (fun H locs hP hD hS => ?_)
  have hP : va_P D vwCl [((q 200), .inr (12, [.ref (q 201), .ref (q 202), .int 0, .long 0, .long 1, .ref (q 203), .ref (q 204), .ref (q 205), .ref (q 206), .ref (q 207), .int 19, .int 0, .int 0, .int 0, .int 0, .int 0, .int (-1), .int (-1), .int 0, .int 0, .int 0, .ref (q 208), .int 0, .int 0, .ref (q 209), .ref (q 210), .ref (q 211), .ref (q 212), .ref (q 213), .int 0, .int 0, .ref (q 214), .ref (q 215), .ref (q 216), .int 0, .int 0])), ((q 206), .inl (k 0, 900, .inl (upd (upd (upd f (16 : Int32).toNatClampNeg (vp_nar .byte x_1.toInt8.toInt32)) (17 : Int32).toNatClampNeg (vp_nar .byte x_3.toInt8.toInt32)) (18 : Int32).toNatClampNeg (vp_nar .byte x_5.toInt8.toInt32))))] H := hP
  have hD : va_D A [((q 200), .inr (12, [.ref (q 201), .ref (q 202), .int 0, .long 0, .long 1, .ref (q 203), .ref (q 204), .ref (q 205), .ref (q 206), .ref (q 207), .int 19, .int 0, .int 0, .int 0, .int 0, .int 0, .int (-1), .int (-1), .int 0, .int 0, .int 0, .ref (q 208), .int 0, .int 0, .ref (q 209), .ref (q 210), .ref (q 211), .ref (q 212), .ref (q 213), .int 0, .int 0, .ref (q 214), .ref (q 215), .ref (q 216), .int 0, .int 0])), ((q 206), .inl (k 0, 900, .inl (upd (upd (upd f (16 : Int32).toNatClampNeg (vp_nar .byte x_1.toInt8.toInt32)) (17 : Int32).toNatClampNeg (vp_nar .byte x_3.toInt8.toInt32)) (18 : Int32).toNatClampNeg (vp_nar .byte x_5.toInt8.toInt32))))] := hD
  refine lv_iinc (v := 0) (lv' := [(2, .int 0), (0, .ref (q 200)), (1, .int x)]) hx hb dX12_four_30 hl (k := 0) rfl (by decide +kernel) (by decide) rfl (fun ls hl => ?_)
  refine lv_goto (tgt := 3) hx hb dX12_four_33 (by decide) ?_
  refine lv_iload_n hx hb dX12_four_3 rfl (lv_at hl 0 rfl) ?_
  refine lv_if_lt (tgt := 36) hx hb dX12_four_4 (by decide) (fun c => absurd c (by decide)) (fun _ => ?_)
  refine lv_aload_n hx hb dX12_four_7 rfl (lv_at hl 1 rfl) ?_
  refine va_get (D := D) (ci := 12) (v := .ref (q 206)) (C := RX12) (T := TX12) (N := 36) hx hb hts iX12 hown hK hP 0 rfl rfl 8 (by decide) (hts _ qf_X12_30) (fun _ h => h) rfl dX12_four_8 ?_
  refine lv_aload_n hx hb dX12_four_11 rfl (lv_at hl 1 rfl) ?_
  refine va_get (D := D) (ci := 12) (v := .int 19) (C := RX12) (T := TX12) (N := 36) hx hb hts iX12 hown hK hP 0 rfl rfl 10 (by decide) (hts _ qf_X12_106) (fun _ h => h) rfl dX12_four_12 ?_
  refine lv_iload_n hx hb dX12_four_15 rfl (lv_at hl 2 rfl) ?_
  refine lv_iload_n hx hb dX12_four_16 rfl (lv_at hl 0 rfl) ?_
  refine lv_ishr hx hb dX12_four_17 ?_
  refine lv_topi (fun x_7 ex_7 => ?_)
  refine lv_i2b (v := x_7.toInt8.toInt32) hx hb dX12_four_18 rfl ?_
  refine va_bast hx hb hK hP hD hS 1 0 rfl rfl (xin 19 900 rfl (by decide) (by decide)) dX12_four_19 (fun H locs hP hD hS => ?_)
  have hP : va_P D vwCl [((q 200), .inr (12, [.ref (q 201), .ref (q 202), .int 0, .long 0, .long 1, .ref (q 203), .ref (q 204), .ref (q 205), .ref (q 206), .ref (q 207), .int 19, .int 0, .int 0, .int 0, .int 0, .int 0, .int (-1), .int (-1), .int 0, .int 0, .int 0, .ref (q 208), .int 0, .int 0, .ref (q 209), .ref (q 210), .ref (q 211), .ref (q 212), .ref (q 213), .int 0, .int 0, .ref (q 214), .ref (q 215), .ref (q 216), .int 0, .int 0])), ((q 206), .inl (k 0, 900, .inl (upd (upd (upd (upd f (16 : Int32).toNatClampNeg (vp_nar .byte x_1.toInt8.toInt32)) (17 : Int32).toNatClampNeg (vp_nar .byte x_3.toInt8.toInt32)) (18 : Int32).toNatClampNeg (vp_nar .byte x_5.toInt8.toInt32)) (19 : Int32).toNatClampNeg (vp_nar .byte x_7.toInt8.toInt32))))] H := hP
  have hD : va_D A [((q 200), .inr (12, [.ref (q 201), .ref (q 202), .int 0, .long 0, .long 1, .ref (q 203), .ref (q 204), .ref (q 205), .ref (q 206), .ref (q 207), .int 19, .int 0, .int 0, .int 0, .int 0, .int 0, .int (-1), .int (-1), .int 0, .int 0, .int 0, .ref (q 208), .int 0, .int 0, .ref (q 209), .ref (q 210), .ref (q 211), .ref (q 212), .ref (q 213), .int 0, .int 0, .ref (q 214), .ref (q 215), .ref (q 216), .int 0, .int 0])), ((q 206), .inl (k 0, 900, .inl (upd (upd (upd (upd f (16 : Int32).toNatClampNeg (vp_nar .byte x_1.toInt8.toInt32)) (17 : Int32).toNatClampNeg (vp_nar .byte x_3.toInt8.toInt32)) (18 : Int32).toNatClampNeg (vp_nar .byte x_5.toInt8.toInt32)) (19 : Int32).toNatClampNeg (vp_nar .byte x_7.toInt8.toInt32))))] := hD
  refine lv_aload_n hx hb dX12_four_20 rfl (lv_at hl 1 rfl) ?_
  refine lv_dup hx hb dX12_four_21 rfl ?_
  refine va_get (D := D) (ci := 12) (v := .int 19) (C := RX12) (T := TX12) (N := 36) hx hb hts iX12 hown hK hP 0 rfl rfl 10 (by decide) (hts _ qf_X12_106) (fun _ h => h) rfl dX12_four_22 ?_
  refine lv_iconst (v := 1) hx hb dX12_four_25 (by decide) ?_
  refine lv_iadd hx hb dX12_four_26 ?_
  refine lv_topi (fun x_8 ex_8 => ?_)
  obtain rfl : x_8 = 20 := ex_8.trans (by decide +kernel)
  refine va_put (D := D) (ci := 12) (v := .int 20) (ty := .int) (C := RX12) (T := TX12) (N := 36) hx hb hts iX12 tyX12 tyX12_ok nmX12 hown hK hP hD hS 0 rfl rfl 10 (by decide) (hts _ qf_X12_106) (fun _ h => h) rfl (by decide +kernel) rfl rfl (Nat.le_of_ble_eq_true rfl) dX12_four_27 (fun H locs hP hD hS => ?_)
  have hP : va_P D vwCl [((q 200), .inr (12, [.ref (q 201), .ref (q 202), .int 0, .long 0, .long 1, .ref (q 203), .ref (q 204), .ref (q 205), .ref (q 206), .ref (q 207), .int 20, .int 0, .int 0, .int 0, .int 0, .int 0, .int (-1), .int (-1), .int 0, .int 0, .int 0, .ref (q 208), .int 0, .int 0, .ref (q 209), .ref (q 210), .ref (q 211), .ref (q 212), .ref (q 213), .int 0, .int 0, .ref (q 214), .ref (q 215), .ref (q 216), .int 0, .int 0])), ((q 206), .inl (k 0, 900, .inl (upd (upd (upd (upd f (16 : Int32).toNatClampNeg (vp_nar .byte x_1.toInt8.toInt32)) (17 : Int32).toNatClampNeg (vp_nar .byte x_3.toInt8.toInt32)) (18 : Int32).toNatClampNeg (vp_nar .byte x_5.toInt8.toInt32)) (19 : Int32).toNatClampNeg (vp_nar .byte x_7.toInt8.toInt32))))] H := hP
  have hD : va_D A [((q 200), .inr (12, [.ref (q 201), .ref (q 202), .int 0, .long 0, .long 1, .ref (q 203), .ref (q 204), .ref (q 205), .ref (q 206), .ref (q 207), .int 20, .int 0, .int 0, .int 0, .int 0, .int 0, .int (-1), .int (-1), .int 0, .int 0, .int 0, .ref (q 208), .int 0, .int 0, .ref (q 209), .ref (q 210), .ref (q 211), .ref (q 212), .ref (q 213), .int 0, .int 0, .ref (q 214), .ref (q 215), .ref (q 216), .int 0, .int 0])), ((q 206), .inl (k 0, 900, .inl (upd (upd (upd (upd f (16 : Int32).toNatClampNeg (vp_nar .byte x_1.toInt8.toInt32)) (17 : Int32).toNatClampNeg (vp_nar .byte x_3.toInt8.toInt32)) (18 : Int32).toNatClampNeg (vp_nar .byte x_5.toInt8.toInt32)) (19 : Int32).toNatClampNeg (vp_nar .byte x_7.toInt8.toInt32))))] := hD
  refine lv_iinc (v := (-8)) (lv' := [(2, .int (-8)), (0, .ref (q 200)), (1, .int x)]) hx hb dX12_four_30 hl (k := 0) rfl (by decide +kernel) (by decide) rfl (fun ls hl => ?_)
  refine lv_goto (tgt := 3) hx hb dX12_four_33 (by decide) ?_
  refine lv_iload_n hx hb dX12_four_3 rfl (lv_at hl 0 rfl) ?_
  refine lv_if_lt (tgt := 36) hx hb dX12_four_4 (by decide) (fun _ => ?_) (fun c => absurd (by decide) c)
  exact EWv hx hb hr hlocks hS (upd (upd (upd (upd f (16 : Int32).toNatClampNeg (vp_nar .byte x_1.toInt8.toInt32)) (17 : Int32).toNatClampNeg (vp_nar .byte x_3.toInt8.toInt32)) (18 : Int32).toNatClampNeg (vp_nar .byte x_5.toInt8.toInt32)) (19 : Int32).toNatClampNeg (vp_nar .byte x_7.toInt8.toInt32)) rfl trivial hP hD dX12_four_36
set_option maxHeartbeats 4000000 in
set_option maxRecDepth 100000 in
theorem r_feed (l : Launch) (D : va_G) (k : Nat → ClassId) (q : Nat → Nat) (a : Int32) (b : Int32) (c1 : Int32) (d1 : Int32) (e1 : Int32) : WD (σ := Unit) l yX12_feed cX12_feed 6 (some .int) 8 0 0 D k [.ref (q 200), .int a, .int b, .int c1, .int d1, .int e1] [((q 200), .inr (12, [.ref (q 201), .ref (q 202), .int 0, .long 0, .long 1, .ref (q 203), .ref (q 204), .ref (q 205), .ref (q 206), .ref (q 207), .int 0, .int 0, .int 0, .int 0, .int 0, .int 0, .int (-1), .int (-1), .int 0, .int 0, .int 0, .ref (q 208), .int 0, .int 0, .ref (q 209), .ref (q 210), .ref (q 211), .ref (q 212), .ref (q 213), .int 0, .int 0, .ref (q 214), .ref (q 215), .ref (q 216), .int 0, .int 0])), ((q 206), .inl (k 0, 900, .inl (fun _ => 0)))] (fun _ => some (.int 20)) (fun _ => True) (fun _ => []) := by
  refine MW (by decide) (Nat.le_of_ble_eq_true rfl) (fun p e s m below meth c ls A hx hb hml hr hlocks hin hts hown hKK hP hD hS hA hl => ?_)
  have hK := hKK.1
  have hl : lv_has ls 6 [(0, .ref (q 200)), (1, .int a), (2, .int b), (3, .int c1), (4, .int d1), (5, .int e1)] := hl
  refine lv_aload_n hx hb dX12_feed_0 rfl (lv_at hl 0 rfl) ?_
  refine va_get (D := D) (ci := 12) (v := .int 0) (C := RX12) (T := TX12) (N := 36) hx hb hts iX12 hown hK hP 0 rfl rfl 10 (by decide) (hts _ qf_X12_106) (fun _ h => h) rfl dX12_feed_1 ?_
  refine lv_bipush (v := 20) hx hb dX12_feed_4 (by decide) ?_
  refine lv_iadd hx hb dX12_feed_6 ?_
  refine lv_topi (fun x_1 ex_1 => ?_)
  obtain rfl : x_1 = 20 := ex_1.trans (by decide +kernel)
  refine lv_sipush (v := 900) hx hb dX12_feed_7 (by decide) ?_
  refine lv_icmp_le (tgt := 15) hx hb dX12_feed_10 (by decide) (fun _ => ?_) (fun c => absurd (by decide) c)
  refine lv_aload_n hx hb dX12_feed_15 rfl (lv_at hl 0 rfl) ?_
  refine lv_iload_n hx hb dX12_feed_16 rfl (lv_at hl 1 rfl) ?_
  refine CWV (As := [.int a]) (rest := []) (wc := [((q 200), .inr (12, [.ref (q 201), .ref (q 202), .int 0, .long 0, .long 1, .ref (q 203), .ref (q 204), .ref (q 205), .ref (q 206), .ref (q 207), .int 0, .int 0, .int 0, .int 0, .int 0, .int 0, .int (-1), .int (-1), .int 0, .int 0, .int 0, .ref (q 208), .int 0, .int 0, .ref (q 209), .ref (q 210), .ref (q 211), .ref (q 212), .ref (q 213), .int 0, .int 0, .ref (q 214), .ref (q 215), .ref (q 216), .int 0, .int 0])), ((q 206), .inl (k 0, 900, .inl (fun _ => 0)))]) (wr := []) hx hb hml hown hts hKK hP hD hS hA (m_four0 l D k q (fun _ => 0) a) ci_X12_four qm_X12_109 ⟨Nat.le_of_ble_eq_true rfl, Nat.le_of_ble_eq_true rfl⟩ ⟨Nat.le_of_ble_eq_true rfl, Nat.le_of_ble_eq_true rfl⟩ [0, 1] [] rfl rfl rfl rfl rfl (by decide) 0 rfl rfl rfl hl.1 rfl (Nat.le_of_ble_eq_true rfl) dX12_feed_17 (fun u_2 H locs hφ hP hD hS => ?_)
  have hP : va_P D vwCl [((q 200), .inr (12, [.ref (q 201), .ref (q 202), .int 0, .long 0, .long 1, .ref (q 203), .ref (q 204), .ref (q 205), .ref (q 206), .ref (q 207), .int 4, .int 0, .int 0, .int 0, .int 0, .int 0, .int (-1), .int (-1), .int 0, .int 0, .int 0, .ref (q 208), .int 0, .int 0, .ref (q 209), .ref (q 210), .ref (q 211), .ref (q 212), .ref (q 213), .int 0, .int 0, .ref (q 214), .ref (q 215), .ref (q 216), .int 0, .int 0])), ((q 206), .inl (k 0, 900, .inl u_2))] H := hP
  have hD : va_D A [((q 200), .inr (12, [.ref (q 201), .ref (q 202), .int 0, .long 0, .long 1, .ref (q 203), .ref (q 204), .ref (q 205), .ref (q 206), .ref (q 207), .int 4, .int 0, .int 0, .int 0, .int 0, .int 0, .int (-1), .int (-1), .int 0, .int 0, .int 0, .ref (q 208), .int 0, .int 0, .ref (q 209), .ref (q 210), .ref (q 211), .ref (q 212), .ref (q 213), .int 0, .int 0, .ref (q 214), .ref (q 215), .ref (q 216), .int 0, .int 0])), ((q 206), .inl (k 0, 900, .inl u_2))] := hD
  refine W.eq (g2 := F0 m 20 ls []) rfl ?_
  refine lv_aload_n hx hb dX12_feed_20 rfl (lv_at hl 0 rfl) ?_
  refine lv_iload_n hx hb dX12_feed_21 rfl (lv_at hl 2 rfl) ?_
  refine CWV (As := [.int b]) (rest := []) (wc := [((q 200), .inr (12, [.ref (q 201), .ref (q 202), .int 0, .long 0, .long 1, .ref (q 203), .ref (q 204), .ref (q 205), .ref (q 206), .ref (q 207), .int 4, .int 0, .int 0, .int 0, .int 0, .int 0, .int (-1), .int (-1), .int 0, .int 0, .int 0, .ref (q 208), .int 0, .int 0, .ref (q 209), .ref (q 210), .ref (q 211), .ref (q 212), .ref (q 213), .int 0, .int 0, .ref (q 214), .ref (q 215), .ref (q 216), .int 0, .int 0])), ((q 206), .inl (k 0, 900, .inl u_2))]) (wr := []) hx hb hml hown hts hKK hP hD hS hA (m_four4 l D k q u_2 b) ci_X12_four qm_X12_109 ⟨Nat.le_of_ble_eq_true rfl, Nat.le_of_ble_eq_true rfl⟩ ⟨Nat.le_of_ble_eq_true rfl, Nat.le_of_ble_eq_true rfl⟩ [0, 1] [] rfl rfl rfl rfl rfl (by decide) 0 rfl rfl rfl hl.1 rfl (Nat.le_of_ble_eq_true rfl) dX12_feed_22 (fun u_3 H locs hφ hP hD hS => ?_)
  have hP : va_P D vwCl [((q 200), .inr (12, [.ref (q 201), .ref (q 202), .int 0, .long 0, .long 1, .ref (q 203), .ref (q 204), .ref (q 205), .ref (q 206), .ref (q 207), .int 8, .int 0, .int 0, .int 0, .int 0, .int 0, .int (-1), .int (-1), .int 0, .int 0, .int 0, .ref (q 208), .int 0, .int 0, .ref (q 209), .ref (q 210), .ref (q 211), .ref (q 212), .ref (q 213), .int 0, .int 0, .ref (q 214), .ref (q 215), .ref (q 216), .int 0, .int 0])), ((q 206), .inl (k 0, 900, .inl u_3))] H := hP
  have hD : va_D A [((q 200), .inr (12, [.ref (q 201), .ref (q 202), .int 0, .long 0, .long 1, .ref (q 203), .ref (q 204), .ref (q 205), .ref (q 206), .ref (q 207), .int 8, .int 0, .int 0, .int 0, .int 0, .int 0, .int (-1), .int (-1), .int 0, .int 0, .int 0, .ref (q 208), .int 0, .int 0, .ref (q 209), .ref (q 210), .ref (q 211), .ref (q 212), .ref (q 213), .int 0, .int 0, .ref (q 214), .ref (q 215), .ref (q 216), .int 0, .int 0])), ((q 206), .inl (k 0, 900, .inl u_3))] := hD
  refine W.eq (g2 := F0 m 25 ls []) rfl ?_
  refine lv_aload_n hx hb dX12_feed_25 rfl (lv_at hl 0 rfl) ?_
  refine lv_iload_n hx hb dX12_feed_26 rfl (lv_at hl 3 rfl) ?_
  refine CWV (As := [.int c1]) (rest := []) (wc := [((q 200), .inr (12, [.ref (q 201), .ref (q 202), .int 0, .long 0, .long 1, .ref (q 203), .ref (q 204), .ref (q 205), .ref (q 206), .ref (q 207), .int 8, .int 0, .int 0, .int 0, .int 0, .int 0, .int (-1), .int (-1), .int 0, .int 0, .int 0, .ref (q 208), .int 0, .int 0, .ref (q 209), .ref (q 210), .ref (q 211), .ref (q 212), .ref (q 213), .int 0, .int 0, .ref (q 214), .ref (q 215), .ref (q 216), .int 0, .int 0])), ((q 206), .inl (k 0, 900, .inl u_3))]) (wr := []) hx hb hml hown hts hKK hP hD hS hA (m_four8 l D k q u_3 c1) ci_X12_four qm_X12_109 ⟨Nat.le_of_ble_eq_true rfl, Nat.le_of_ble_eq_true rfl⟩ ⟨Nat.le_of_ble_eq_true rfl, Nat.le_of_ble_eq_true rfl⟩ [0, 1] [] rfl rfl rfl rfl rfl (by decide) 0 rfl rfl rfl hl.1 rfl (Nat.le_of_ble_eq_true rfl) dX12_feed_27 (fun u_4 H locs hφ hP hD hS => ?_)
  have hP : va_P D vwCl [((q 200), .inr (12, [.ref (q 201), .ref (q 202), .int 0, .long 0, .long 1, .ref (q 203), .ref (q 204), .ref (q 205), .ref (q 206), .ref (q 207), .int 12, .int 0, .int 0, .int 0, .int 0, .int 0, .int (-1), .int (-1), .int 0, .int 0, .int 0, .ref (q 208), .int 0, .int 0, .ref (q 209), .ref (q 210), .ref (q 211), .ref (q 212), .ref (q 213), .int 0, .int 0, .ref (q 214), .ref (q 215), .ref (q 216), .int 0, .int 0])), ((q 206), .inl (k 0, 900, .inl u_4))] H := hP
  have hD : va_D A [((q 200), .inr (12, [.ref (q 201), .ref (q 202), .int 0, .long 0, .long 1, .ref (q 203), .ref (q 204), .ref (q 205), .ref (q 206), .ref (q 207), .int 12, .int 0, .int 0, .int 0, .int 0, .int 0, .int (-1), .int (-1), .int 0, .int 0, .int 0, .ref (q 208), .int 0, .int 0, .ref (q 209), .ref (q 210), .ref (q 211), .ref (q 212), .ref (q 213), .int 0, .int 0, .ref (q 214), .ref (q 215), .ref (q 216), .int 0, .int 0])), ((q 206), .inl (k 0, 900, .inl u_4))] := hD
  refine W.eq (g2 := F0 m 30 ls []) rfl ?_
  refine lv_aload_n hx hb dX12_feed_30 rfl (lv_at hl 0 rfl) ?_
  refine lv_iload hx hb dX12_feed_31 (lv_at hl 4 rfl) ?_
  refine CWV (As := [.int d1]) (rest := []) (wc := [((q 200), .inr (12, [.ref (q 201), .ref (q 202), .int 0, .long 0, .long 1, .ref (q 203), .ref (q 204), .ref (q 205), .ref (q 206), .ref (q 207), .int 12, .int 0, .int 0, .int 0, .int 0, .int 0, .int (-1), .int (-1), .int 0, .int 0, .int 0, .ref (q 208), .int 0, .int 0, .ref (q 209), .ref (q 210), .ref (q 211), .ref (q 212), .ref (q 213), .int 0, .int 0, .ref (q 214), .ref (q 215), .ref (q 216), .int 0, .int 0])), ((q 206), .inl (k 0, 900, .inl u_4))]) (wr := []) hx hb hml hown hts hKK hP hD hS hA (m_four12 l D k q u_4 d1) ci_X12_four qm_X12_109 ⟨Nat.le_of_ble_eq_true rfl, Nat.le_of_ble_eq_true rfl⟩ ⟨Nat.le_of_ble_eq_true rfl, Nat.le_of_ble_eq_true rfl⟩ [0, 1] [] rfl rfl rfl rfl rfl (by decide) 0 rfl rfl rfl hl.1 rfl (Nat.le_of_ble_eq_true rfl) dX12_feed_33 (fun u_5 H locs hφ hP hD hS => ?_)
  have hP : va_P D vwCl [((q 200), .inr (12, [.ref (q 201), .ref (q 202), .int 0, .long 0, .long 1, .ref (q 203), .ref (q 204), .ref (q 205), .ref (q 206), .ref (q 207), .int 16, .int 0, .int 0, .int 0, .int 0, .int 0, .int (-1), .int (-1), .int 0, .int 0, .int 0, .ref (q 208), .int 0, .int 0, .ref (q 209), .ref (q 210), .ref (q 211), .ref (q 212), .ref (q 213), .int 0, .int 0, .ref (q 214), .ref (q 215), .ref (q 216), .int 0, .int 0])), ((q 206), .inl (k 0, 900, .inl u_5))] H := hP
  have hD : va_D A [((q 200), .inr (12, [.ref (q 201), .ref (q 202), .int 0, .long 0, .long 1, .ref (q 203), .ref (q 204), .ref (q 205), .ref (q 206), .ref (q 207), .int 16, .int 0, .int 0, .int 0, .int 0, .int 0, .int (-1), .int (-1), .int 0, .int 0, .int 0, .ref (q 208), .int 0, .int 0, .ref (q 209), .ref (q 210), .ref (q 211), .ref (q 212), .ref (q 213), .int 0, .int 0, .ref (q 214), .ref (q 215), .ref (q 216), .int 0, .int 0])), ((q 206), .inl (k 0, 900, .inl u_5))] := hD
  refine W.eq (g2 := F0 m 36 ls []) rfl ?_
  refine lv_aload_n hx hb dX12_feed_36 rfl (lv_at hl 0 rfl) ?_
  refine lv_iload hx hb dX12_feed_37 (lv_at hl 5 rfl) ?_
  refine CWV (As := [.int e1]) (rest := []) (wc := [((q 200), .inr (12, [.ref (q 201), .ref (q 202), .int 0, .long 0, .long 1, .ref (q 203), .ref (q 204), .ref (q 205), .ref (q 206), .ref (q 207), .int 16, .int 0, .int 0, .int 0, .int 0, .int 0, .int (-1), .int (-1), .int 0, .int 0, .int 0, .ref (q 208), .int 0, .int 0, .ref (q 209), .ref (q 210), .ref (q 211), .ref (q 212), .ref (q 213), .int 0, .int 0, .ref (q 214), .ref (q 215), .ref (q 216), .int 0, .int 0])), ((q 206), .inl (k 0, 900, .inl u_5))]) (wr := []) hx hb hml hown hts hKK hP hD hS hA (m_four16 l D k q u_5 e1) ci_X12_four qm_X12_109 ⟨Nat.le_of_ble_eq_true rfl, Nat.le_of_ble_eq_true rfl⟩ ⟨Nat.le_of_ble_eq_true rfl, Nat.le_of_ble_eq_true rfl⟩ [0, 1] [] rfl rfl rfl rfl rfl (by decide) 0 rfl rfl rfl hl.1 rfl (Nat.le_of_ble_eq_true rfl) dX12_feed_39 (fun u_6 H locs hφ hP hD hS => ?_)
  have hP : va_P D vwCl [((q 200), .inr (12, [.ref (q 201), .ref (q 202), .int 0, .long 0, .long 1, .ref (q 203), .ref (q 204), .ref (q 205), .ref (q 206), .ref (q 207), .int 20, .int 0, .int 0, .int 0, .int 0, .int 0, .int (-1), .int (-1), .int 0, .int 0, .int 0, .ref (q 208), .int 0, .int 0, .ref (q 209), .ref (q 210), .ref (q 211), .ref (q 212), .ref (q 213), .int 0, .int 0, .ref (q 214), .ref (q 215), .ref (q 216), .int 0, .int 0])), ((q 206), .inl (k 0, 900, .inl u_6))] H := hP
  have hD : va_D A [((q 200), .inr (12, [.ref (q 201), .ref (q 202), .int 0, .long 0, .long 1, .ref (q 203), .ref (q 204), .ref (q 205), .ref (q 206), .ref (q 207), .int 20, .int 0, .int 0, .int 0, .int 0, .int 0, .int (-1), .int (-1), .int 0, .int 0, .int 0, .ref (q 208), .int 0, .int 0, .ref (q 209), .ref (q 210), .ref (q 211), .ref (q 212), .ref (q 213), .int 0, .int 0, .ref (q 214), .ref (q 215), .ref (q 216), .int 0, .int 0])), ((q 206), .inl (k 0, 900, .inl u_6))] := hD
  refine W.eq (g2 := F0 m 42 ls []) rfl ?_
  refine lv_aload_n hx hb dX12_feed_42 rfl (lv_at hl 0 rfl) ?_
  refine va_get (D := D) (ci := 12) (v := .int 20) (C := RX12) (T := TX12) (N := 36) hx hb hts iX12 hown hK hP 0 rfl rfl 10 (by decide) (hts _ qf_X12_106) (fun _ h => h) rfl dX12_feed_43 ?_
  exact EWi hx hb hr hlocks hS () rfl trivial nil_P nil_D dX12_feed_46
theorem in6 {a : Int32} (h : ¬ a < 0) (h2 : a ≤ 5) : a = 0 ∨ a = 1 ∨ a = 2 ∨ a = 3 ∨ a = 4 ∨ a = 5 := by
  obtain ⟨j, hj, rfl⟩ := nI_of2 (M := 5) (n := 5) rfl h h2
  rcases (show j = 0 ∨ j = 1 ∨ j = 2 ∨ j = 3 ∨ j = 4 ∨ j = 5 by omega) with rfl | rfl | rfl | rfl | rfl | rfl
  · exact Or.inl rfl
  · exact Or.inr (Or.inl rfl)
  · exact Or.inr (Or.inr (Or.inl rfl))
  · exact Or.inr (Or.inr (Or.inr (Or.inl rfl)))
  · exact Or.inr (Or.inr (Or.inr (Or.inr (Or.inl rfl))))
  · exact Or.inr (Or.inr (Or.inr (Or.inr (Or.inr rfl))))
set_option maxHeartbeats 4000000 in
set_option maxRecDepth 100000 in
theorem r_told (l : Launch) (D : va_G) (k : Nat → ClassId) (q : Nat → Nat) (a : Int32) : WD (σ := Unit) l yX12_told cX12_told 2 (some .int) 8 0 0 D k [.ref (q 200), .int a] [((q 200), .inr (12, [.ref (q 201), .ref (q 202), .int 0, .long 0, .long 1, .ref (q 203), .ref (q 204), .ref (q 205), .ref (q 206), .ref (q 207), .int 0, .int 0, .int 0, .int 0, .int 0, .int 0, .int (-1), .int (-1), .int 0, .int 0, .int 0, .ref (q 208), .int 0, .int 0, .ref (q 209), .ref (q 210), .ref (q 211), .ref (q 212), .ref (q 213), .int 0, .int 0, .ref (q 214), .ref (q 215), .ref (q 216), .int 0, .int 0])), ((q 201), .inl (k 1, 5340, .inl at0))] (fun _ => some (.int (inA a 5))) (fun _ => True) (fun _ => []) := by
  refine MW (by decide) (Nat.le_of_ble_eq_true rfl) (fun p e s m below meth c ls A hx hb hml hr hlocks hin hts hown hKK hP hD hS hA hl => ?_)
  have hK := hKK.1
  have hl : lv_has ls 2 [(0, .ref (q 200)), (1, .int a)] := hl
  refine lv_iload_n hx hb dX12_told_0 rfl (lv_at hl 1 rfl) ?_
  refine lv_if_lt (tgt := 9) hx hb dX12_told_1 (by decide) (fun c_1 => ?_) (fun c_1 => ?_)
  ·
    refine lv_aload_n hx hb dX12_told_9 rfl (lv_at hl 0 rfl) ?_
    refine lv_iconst (v := 1) hx hb dX12_told_10 (by decide) ?_
    refine CWV (As := [.int 1]) (rest := []) (wc := [((q 200), .inr (12, [.ref (q 201), .ref (q 202), .int 0, .long 0, .long 1, .ref (q 203), .ref (q 204), .ref (q 205), .ref (q 206), .ref (q 207), .int 0, .int 0, .int 0, .int 0, .int 0, .int 0, .int (-1), .int (-1), .int 0, .int 0, .int 0, .ref (q 208), .int 0, .int 0, .ref (q 209), .ref (q 210), .ref (q 211), .ref (q 212), .ref (q 213), .int 0, .int 0, .ref (q 214), .ref (q 215), .ref (q 216), .int 0, .int 0]))]) (wr := [((q 201), .inl (k 1, 5340, .inl at0))]) hx hb hml hown hts hKK hP hD hS hA (m_refuse l D k (q 200) [.ref (q 201), .ref (q 202), .int 0, .long 0, .long 1, .ref (q 203), .ref (q 204), .ref (q 205), .ref (q 206), .ref (q 207), .int 0, .int 0, .int 0, .int 0, .int 0, .int 0, .int (-1), .int (-1), .int 0, .int 0, .int 0, .ref (q 208), .int 0, .int 0, .ref (q 209), .ref (q 210), .ref (q 211), .ref (q 212), .ref (q 213), .int 0, .int 0, .ref (q 214), .ref (q 215), .ref (q 216), .int 0, .int 0] (Nat.le_of_ble_eq_true rfl) 1) ci_X12_refuse qm_X12_81 ⟨Nat.le_of_ble_eq_true rfl, Nat.le_of_ble_eq_true rfl⟩ ⟨Nat.le_of_ble_eq_true rfl, Nat.le_of_ble_eq_true rfl⟩ [0] [1] rfl rfl rfl rfl rfl (by decide) 0 rfl rfl rfl hl.1 rfl (Nat.le_of_ble_eq_true rfl) dX12_told_11 (fun u_2 H locs hφ hP hD hS => ?_)
    have hP : va_P D vwCl [((q 201), .inl (k 1, 5340, .inl at0))] H := hP
    have hD : va_D A [((q 201), .inl (k 1, 5340, .inl at0))] := hD
    refine W.eq (g2 := F0 m 14 ls [.int (-1)]) rfl ?_
    exact EWi hx hb hr hlocks hS () (by simp [inA, bw, c_1]) trivial nil_P nil_D dX12_told_14
  ·
    refine lv_iload_n hx hb dX12_told_4 rfl (lv_at hl 1 rfl) ?_
    refine lv_iconst (v := 5) hx hb dX12_told_5 (by decide) ?_
    refine lv_icmp_le (tgt := 15) hx hb dX12_told_6 (by decide) (fun c_3 => ?_) (fun c_3 => ?_)
    ·
      obtain rfl | rfl | rfl | rfl | rfl | rfl := in6 c_1 c_3
      ·
        refine lv_aload_n hx hb dX12_told_15 rfl (lv_at hl 0 rfl) ?_
        refine lv_iload_n hx hb dX12_told_16 rfl (lv_at hl 1 rfl) ?_
        refine lv_iconst (v := 5) hx hb dX12_told_17 (by decide) ?_
        refine lv_icmp_ne (tgt := 38) hx hb dX12_told_18 (by decide) (fun _ => ?_) (fun c => absurd c (by decide))
        refine lv_aload_n hx hb dX12_told_38 rfl (lv_at hl 0 rfl) ?_
        refine va_get (D := D) (ci := 12) (v := .ref (q 201)) (C := RX12) (T := TX12) (N := 36) hx hb hts iX12 hown hK hP 0 rfl rfl 0 (by decide) (hts _ qf_X12_7) (fun _ h => h) rfl dX12_told_39 ?_
        refine lv_iload_n hx hb dX12_told_42 rfl (lv_at hl 1 rfl) ?_
        refine va_iald hx hb hK hP 1 1 rfl rfl (xin 0 5340 rfl (by decide) (by decide)) dX12_told_43 ?_
        refine lv_topi (fun x_4 ex_4 => ?_)
        obtain rfl : x_4 = 0 := ex_4.trans (by decide +kernel)
        refine CWV (As := [.int 0]) (rest := []) (wc := [((q 200), .inr (12, [.ref (q 201), .ref (q 202), .int 0, .long 0, .long 1, .ref (q 203), .ref (q 204), .ref (q 205), .ref (q 206), .ref (q 207), .int 0, .int 0, .int 0, .int 0, .int 0, .int 0, .int (-1), .int (-1), .int 0, .int 0, .int 0, .ref (q 208), .int 0, .int 0, .ref (q 209), .ref (q 210), .ref (q 211), .ref (q 212), .ref (q 213), .int 0, .int 0, .ref (q 214), .ref (q 215), .ref (q 216), .int 0, .int 0]))]) (wr := [((q 201), .inl (k 1, 5340, .inl at0))]) hx hb hml hown hts hKK hP hD hS hA (m_gives l D k (q 200) [.ref (q 201), .ref (q 202), .int 0, .long 0, .long 1, .ref (q 203), .ref (q 204), .ref (q 205), .ref (q 206), .ref (q 207), .int 0, .int 0, .int 0, .int 0, .int 0, .int 0, .int (-1), .int (-1), .int 0, .int 0, .int 0, .ref (q 208), .int 0, .int 0, .ref (q 209), .ref (q 210), .ref (q 211), .ref (q 212), .ref (q 213), .int 0, .int 0, .ref (q 214), .ref (q 215), .ref (q 216), .int 0, .int 0] (Nat.le_of_ble_eq_true rfl) 0) ci_X12_gives qm_X12_85 ⟨Nat.le_of_ble_eq_true rfl, Nat.le_of_ble_eq_true rfl⟩ ⟨Nat.le_of_ble_eq_true rfl, Nat.le_of_ble_eq_true rfl⟩ [0] [1] rfl rfl rfl rfl rfl (by decide) 0 rfl rfl rfl hl.1 rfl (Nat.le_of_ble_eq_true rfl) dX12_told_44 (fun u_5 H locs hφ hP hD hS => ?_)
        have hP : va_P D vwCl [((q 201), .inl (k 1, 5340, .inl at0))] H := hP
        have hD : va_D A [((q 201), .inl (k 1, 5340, .inl at0))] := hD
        refine W.eq (g2 := F0 m 47 ls [.int 0]) rfl ?_
        exact EWi hx hb hr hlocks hS () (by rw [show inA 0 5 = 0 by decide +kernel]) trivial nil_P nil_D dX12_told_47
      ·
        refine lv_aload_n hx hb dX12_told_15 rfl (lv_at hl 0 rfl) ?_
        refine lv_iload_n hx hb dX12_told_16 rfl (lv_at hl 1 rfl) ?_
        refine lv_iconst (v := 5) hx hb dX12_told_17 (by decide) ?_
        refine lv_icmp_ne (tgt := 38) hx hb dX12_told_18 (by decide) (fun _ => ?_) (fun c => absurd c (by decide))
        refine lv_aload_n hx hb dX12_told_38 rfl (lv_at hl 0 rfl) ?_
        refine va_get (D := D) (ci := 12) (v := .ref (q 201)) (C := RX12) (T := TX12) (N := 36) hx hb hts iX12 hown hK hP 0 rfl rfl 0 (by decide) (hts _ qf_X12_7) (fun _ h => h) rfl dX12_told_39 ?_
        refine lv_iload_n hx hb dX12_told_42 rfl (lv_at hl 1 rfl) ?_
        refine va_iald hx hb hK hP 1 1 rfl rfl (xin 1 5340 rfl (by decide) (by decide)) dX12_told_43 ?_
        refine lv_topi (fun x_6 ex_6 => ?_)
        obtain rfl : x_6 = 0 := ex_6.trans (by decide +kernel)
        refine CWV (As := [.int 0]) (rest := []) (wc := [((q 200), .inr (12, [.ref (q 201), .ref (q 202), .int 0, .long 0, .long 1, .ref (q 203), .ref (q 204), .ref (q 205), .ref (q 206), .ref (q 207), .int 0, .int 0, .int 0, .int 0, .int 0, .int 0, .int (-1), .int (-1), .int 0, .int 0, .int 0, .ref (q 208), .int 0, .int 0, .ref (q 209), .ref (q 210), .ref (q 211), .ref (q 212), .ref (q 213), .int 0, .int 0, .ref (q 214), .ref (q 215), .ref (q 216), .int 0, .int 0]))]) (wr := [((q 201), .inl (k 1, 5340, .inl at0))]) hx hb hml hown hts hKK hP hD hS hA (m_gives l D k (q 200) [.ref (q 201), .ref (q 202), .int 0, .long 0, .long 1, .ref (q 203), .ref (q 204), .ref (q 205), .ref (q 206), .ref (q 207), .int 0, .int 0, .int 0, .int 0, .int 0, .int 0, .int (-1), .int (-1), .int 0, .int 0, .int 0, .ref (q 208), .int 0, .int 0, .ref (q 209), .ref (q 210), .ref (q 211), .ref (q 212), .ref (q 213), .int 0, .int 0, .ref (q 214), .ref (q 215), .ref (q 216), .int 0, .int 0] (Nat.le_of_ble_eq_true rfl) 0) ci_X12_gives qm_X12_85 ⟨Nat.le_of_ble_eq_true rfl, Nat.le_of_ble_eq_true rfl⟩ ⟨Nat.le_of_ble_eq_true rfl, Nat.le_of_ble_eq_true rfl⟩ [0] [1] rfl rfl rfl rfl rfl (by decide) 0 rfl rfl rfl hl.1 rfl (Nat.le_of_ble_eq_true rfl) dX12_told_44 (fun u_7 H locs hφ hP hD hS => ?_)
        have hP : va_P D vwCl [((q 201), .inl (k 1, 5340, .inl at0))] H := hP
        have hD : va_D A [((q 201), .inl (k 1, 5340, .inl at0))] := hD
        refine W.eq (g2 := F0 m 47 ls [.int 0]) rfl ?_
        exact EWi hx hb hr hlocks hS () (by rw [show inA 1 5 = 0 by decide +kernel]) trivial nil_P nil_D dX12_told_47
      ·
        refine lv_aload_n hx hb dX12_told_15 rfl (lv_at hl 0 rfl) ?_
        refine lv_iload_n hx hb dX12_told_16 rfl (lv_at hl 1 rfl) ?_
        refine lv_iconst (v := 5) hx hb dX12_told_17 (by decide) ?_
        refine lv_icmp_ne (tgt := 38) hx hb dX12_told_18 (by decide) (fun _ => ?_) (fun c => absurd c (by decide))
        refine lv_aload_n hx hb dX12_told_38 rfl (lv_at hl 0 rfl) ?_
        refine va_get (D := D) (ci := 12) (v := .ref (q 201)) (C := RX12) (T := TX12) (N := 36) hx hb hts iX12 hown hK hP 0 rfl rfl 0 (by decide) (hts _ qf_X12_7) (fun _ h => h) rfl dX12_told_39 ?_
        refine lv_iload_n hx hb dX12_told_42 rfl (lv_at hl 1 rfl) ?_
        refine va_iald hx hb hK hP 1 1 rfl rfl (xin 2 5340 rfl (by decide) (by decide)) dX12_told_43 ?_
        refine lv_topi (fun x_8 ex_8 => ?_)
        obtain rfl : x_8 = 0 := ex_8.trans (by decide +kernel)
        refine CWV (As := [.int 0]) (rest := []) (wc := [((q 200), .inr (12, [.ref (q 201), .ref (q 202), .int 0, .long 0, .long 1, .ref (q 203), .ref (q 204), .ref (q 205), .ref (q 206), .ref (q 207), .int 0, .int 0, .int 0, .int 0, .int 0, .int 0, .int (-1), .int (-1), .int 0, .int 0, .int 0, .ref (q 208), .int 0, .int 0, .ref (q 209), .ref (q 210), .ref (q 211), .ref (q 212), .ref (q 213), .int 0, .int 0, .ref (q 214), .ref (q 215), .ref (q 216), .int 0, .int 0]))]) (wr := [((q 201), .inl (k 1, 5340, .inl at0))]) hx hb hml hown hts hKK hP hD hS hA (m_gives l D k (q 200) [.ref (q 201), .ref (q 202), .int 0, .long 0, .long 1, .ref (q 203), .ref (q 204), .ref (q 205), .ref (q 206), .ref (q 207), .int 0, .int 0, .int 0, .int 0, .int 0, .int 0, .int (-1), .int (-1), .int 0, .int 0, .int 0, .ref (q 208), .int 0, .int 0, .ref (q 209), .ref (q 210), .ref (q 211), .ref (q 212), .ref (q 213), .int 0, .int 0, .ref (q 214), .ref (q 215), .ref (q 216), .int 0, .int 0] (Nat.le_of_ble_eq_true rfl) 0) ci_X12_gives qm_X12_85 ⟨Nat.le_of_ble_eq_true rfl, Nat.le_of_ble_eq_true rfl⟩ ⟨Nat.le_of_ble_eq_true rfl, Nat.le_of_ble_eq_true rfl⟩ [0] [1] rfl rfl rfl rfl rfl (by decide) 0 rfl rfl rfl hl.1 rfl (Nat.le_of_ble_eq_true rfl) dX12_told_44 (fun u_9 H locs hφ hP hD hS => ?_)
        have hP : va_P D vwCl [((q 201), .inl (k 1, 5340, .inl at0))] H := hP
        have hD : va_D A [((q 201), .inl (k 1, 5340, .inl at0))] := hD
        refine W.eq (g2 := F0 m 47 ls [.int 0]) rfl ?_
        exact EWi hx hb hr hlocks hS () (by rw [show inA 2 5 = 0 by decide +kernel]) trivial nil_P nil_D dX12_told_47
      ·
        refine lv_aload_n hx hb dX12_told_15 rfl (lv_at hl 0 rfl) ?_
        refine lv_iload_n hx hb dX12_told_16 rfl (lv_at hl 1 rfl) ?_
        refine lv_iconst (v := 5) hx hb dX12_told_17 (by decide) ?_
        refine lv_icmp_ne (tgt := 38) hx hb dX12_told_18 (by decide) (fun _ => ?_) (fun c => absurd c (by decide))
        refine lv_aload_n hx hb dX12_told_38 rfl (lv_at hl 0 rfl) ?_
        refine va_get (D := D) (ci := 12) (v := .ref (q 201)) (C := RX12) (T := TX12) (N := 36) hx hb hts iX12 hown hK hP 0 rfl rfl 0 (by decide) (hts _ qf_X12_7) (fun _ h => h) rfl dX12_told_39 ?_
        refine lv_iload_n hx hb dX12_told_42 rfl (lv_at hl 1 rfl) ?_
        refine va_iald hx hb hK hP 1 1 rfl rfl (xin 3 5340 rfl (by decide) (by decide)) dX12_told_43 ?_
        refine lv_topi (fun x_10 ex_10 => ?_)
        obtain rfl : x_10 = 0 := ex_10.trans (by decide +kernel)
        refine CWV (As := [.int 0]) (rest := []) (wc := [((q 200), .inr (12, [.ref (q 201), .ref (q 202), .int 0, .long 0, .long 1, .ref (q 203), .ref (q 204), .ref (q 205), .ref (q 206), .ref (q 207), .int 0, .int 0, .int 0, .int 0, .int 0, .int 0, .int (-1), .int (-1), .int 0, .int 0, .int 0, .ref (q 208), .int 0, .int 0, .ref (q 209), .ref (q 210), .ref (q 211), .ref (q 212), .ref (q 213), .int 0, .int 0, .ref (q 214), .ref (q 215), .ref (q 216), .int 0, .int 0]))]) (wr := [((q 201), .inl (k 1, 5340, .inl at0))]) hx hb hml hown hts hKK hP hD hS hA (m_gives l D k (q 200) [.ref (q 201), .ref (q 202), .int 0, .long 0, .long 1, .ref (q 203), .ref (q 204), .ref (q 205), .ref (q 206), .ref (q 207), .int 0, .int 0, .int 0, .int 0, .int 0, .int 0, .int (-1), .int (-1), .int 0, .int 0, .int 0, .ref (q 208), .int 0, .int 0, .ref (q 209), .ref (q 210), .ref (q 211), .ref (q 212), .ref (q 213), .int 0, .int 0, .ref (q 214), .ref (q 215), .ref (q 216), .int 0, .int 0] (Nat.le_of_ble_eq_true rfl) 0) ci_X12_gives qm_X12_85 ⟨Nat.le_of_ble_eq_true rfl, Nat.le_of_ble_eq_true rfl⟩ ⟨Nat.le_of_ble_eq_true rfl, Nat.le_of_ble_eq_true rfl⟩ [0] [1] rfl rfl rfl rfl rfl (by decide) 0 rfl rfl rfl hl.1 rfl (Nat.le_of_ble_eq_true rfl) dX12_told_44 (fun u_11 H locs hφ hP hD hS => ?_)
        have hP : va_P D vwCl [((q 201), .inl (k 1, 5340, .inl at0))] H := hP
        have hD : va_D A [((q 201), .inl (k 1, 5340, .inl at0))] := hD
        refine W.eq (g2 := F0 m 47 ls [.int 0]) rfl ?_
        exact EWi hx hb hr hlocks hS () (by rw [show inA 3 5 = 0 by decide +kernel]) trivial nil_P nil_D dX12_told_47
      ·
        refine lv_aload_n hx hb dX12_told_15 rfl (lv_at hl 0 rfl) ?_
        refine lv_iload_n hx hb dX12_told_16 rfl (lv_at hl 1 rfl) ?_
        refine lv_iconst (v := 5) hx hb dX12_told_17 (by decide) ?_
        refine lv_icmp_ne (tgt := 38) hx hb dX12_told_18 (by decide) (fun _ => ?_) (fun c => absurd c (by decide))
        refine lv_aload_n hx hb dX12_told_38 rfl (lv_at hl 0 rfl) ?_
        refine va_get (D := D) (ci := 12) (v := .ref (q 201)) (C := RX12) (T := TX12) (N := 36) hx hb hts iX12 hown hK hP 0 rfl rfl 0 (by decide) (hts _ qf_X12_7) (fun _ h => h) rfl dX12_told_39 ?_
        refine lv_iload_n hx hb dX12_told_42 rfl (lv_at hl 1 rfl) ?_
        refine va_iald hx hb hK hP 1 1 rfl rfl (xin 4 5340 rfl (by decide) (by decide)) dX12_told_43 ?_
        refine lv_topi (fun x_12 ex_12 => ?_)
        obtain rfl : x_12 = 0 := ex_12.trans (by decide +kernel)
        refine CWV (As := [.int 0]) (rest := []) (wc := [((q 200), .inr (12, [.ref (q 201), .ref (q 202), .int 0, .long 0, .long 1, .ref (q 203), .ref (q 204), .ref (q 205), .ref (q 206), .ref (q 207), .int 0, .int 0, .int 0, .int 0, .int 0, .int 0, .int (-1), .int (-1), .int 0, .int 0, .int 0, .ref (q 208), .int 0, .int 0, .ref (q 209), .ref (q 210), .ref (q 211), .ref (q 212), .ref (q 213), .int 0, .int 0, .ref (q 214), .ref (q 215), .ref (q 216), .int 0, .int 0]))]) (wr := [((q 201), .inl (k 1, 5340, .inl at0))]) hx hb hml hown hts hKK hP hD hS hA (m_gives l D k (q 200) [.ref (q 201), .ref (q 202), .int 0, .long 0, .long 1, .ref (q 203), .ref (q 204), .ref (q 205), .ref (q 206), .ref (q 207), .int 0, .int 0, .int 0, .int 0, .int 0, .int 0, .int (-1), .int (-1), .int 0, .int 0, .int 0, .ref (q 208), .int 0, .int 0, .ref (q 209), .ref (q 210), .ref (q 211), .ref (q 212), .ref (q 213), .int 0, .int 0, .ref (q 214), .ref (q 215), .ref (q 216), .int 0, .int 0] (Nat.le_of_ble_eq_true rfl) 0) ci_X12_gives qm_X12_85 ⟨Nat.le_of_ble_eq_true rfl, Nat.le_of_ble_eq_true rfl⟩ ⟨Nat.le_of_ble_eq_true rfl, Nat.le_of_ble_eq_true rfl⟩ [0] [1] rfl rfl rfl rfl rfl (by decide) 0 rfl rfl rfl hl.1 rfl (Nat.le_of_ble_eq_true rfl) dX12_told_44 (fun u_13 H locs hφ hP hD hS => ?_)
        have hP : va_P D vwCl [((q 201), .inl (k 1, 5340, .inl at0))] H := hP
        have hD : va_D A [((q 201), .inl (k 1, 5340, .inl at0))] := hD
        refine W.eq (g2 := F0 m 47 ls [.int 0]) rfl ?_
        exact EWi hx hb hr hlocks hS () (by rw [show inA 4 5 = 0 by decide +kernel]) trivial nil_P nil_D dX12_told_47
      ·
        refine lv_aload_n hx hb dX12_told_15 rfl (lv_at hl 0 rfl) ?_
        refine lv_iload_n hx hb dX12_told_16 rfl (lv_at hl 1 rfl) ?_
        refine lv_iconst (v := 5) hx hb dX12_told_17 (by decide) ?_
        refine lv_icmp_ne (tgt := 38) hx hb dX12_told_18 (by decide) (fun c => absurd (by decide) c) (fun _ => ?_)
        refine lv_aload_n hx hb dX12_told_21 rfl (lv_at hl 0 rfl) ?_
        refine va_get (D := D) (ci := 12) (v := .ref (q 201)) (C := RX12) (T := TX12) (N := 36) hx hb hts iX12 hown hK hP 0 rfl rfl 0 (by decide) (hts _ qf_X12_7) (fun _ h => h) rfl dX12_told_22 ?_
        refine lv_bipush (v := 118) hx hb dX12_told_25 (by decide) ?_
        refine lv_aload_n hx hb dX12_told_27 rfl (lv_at hl 0 rfl) ?_
        refine va_get (D := D) (ci := 12) (v := .ref (q 201)) (C := RX12) (T := TX12) (N := 36) hx hb hts iX12 hown hK hP 0 rfl rfl 0 (by decide) (hts _ qf_X12_7) (fun _ h => h) rfl dX12_told_28 ?_
        refine lv_iconst (v := 3) hx hb dX12_told_31 (by decide) ?_
        refine va_iald hx hb hK hP 1 1 rfl rfl (xin 3 5340 rfl (by decide) (by decide)) dX12_told_32 ?_
        refine lv_topi (fun x_14 ex_14 => ?_)
        obtain rfl : x_14 = 0 := ex_14.trans (by decide +kernel)
        refine lv_iadd hx hb dX12_told_33 ?_
        refine lv_topi (fun x_15 ex_15 => ?_)
        obtain rfl : x_15 = 118 := ex_15.trans (by decide +kernel)
        refine va_iald hx hb hK hP 1 1 rfl rfl (xin 118 5340 rfl (by decide) (by decide)) dX12_told_34 ?_
        refine lv_topi (fun x_16 ex_16 => ?_)
        obtain rfl : x_16 = 0 := ex_16.trans (by decide +kernel)
        refine lv_goto (tgt := 44) hx hb dX12_told_35 (by decide) ?_
        refine CWV (As := [.int 0]) (rest := []) (wc := [((q 200), .inr (12, [.ref (q 201), .ref (q 202), .int 0, .long 0, .long 1, .ref (q 203), .ref (q 204), .ref (q 205), .ref (q 206), .ref (q 207), .int 0, .int 0, .int 0, .int 0, .int 0, .int 0, .int (-1), .int (-1), .int 0, .int 0, .int 0, .ref (q 208), .int 0, .int 0, .ref (q 209), .ref (q 210), .ref (q 211), .ref (q 212), .ref (q 213), .int 0, .int 0, .ref (q 214), .ref (q 215), .ref (q 216), .int 0, .int 0]))]) (wr := [((q 201), .inl (k 1, 5340, .inl at0))]) hx hb hml hown hts hKK hP hD hS hA (m_gives l D k (q 200) [.ref (q 201), .ref (q 202), .int 0, .long 0, .long 1, .ref (q 203), .ref (q 204), .ref (q 205), .ref (q 206), .ref (q 207), .int 0, .int 0, .int 0, .int 0, .int 0, .int 0, .int (-1), .int (-1), .int 0, .int 0, .int 0, .ref (q 208), .int 0, .int 0, .ref (q 209), .ref (q 210), .ref (q 211), .ref (q 212), .ref (q 213), .int 0, .int 0, .ref (q 214), .ref (q 215), .ref (q 216), .int 0, .int 0] (Nat.le_of_ble_eq_true rfl) 0) ci_X12_gives qm_X12_85 ⟨Nat.le_of_ble_eq_true rfl, Nat.le_of_ble_eq_true rfl⟩ ⟨Nat.le_of_ble_eq_true rfl, Nat.le_of_ble_eq_true rfl⟩ [0] [1] rfl rfl rfl rfl rfl (by decide) 0 rfl rfl rfl hl.1 rfl (Nat.le_of_ble_eq_true rfl) dX12_told_44 (fun u_17 H locs hφ hP hD hS => ?_)
        have hP : va_P D vwCl [((q 201), .inl (k 1, 5340, .inl at0))] H := hP
        have hD : va_D A [((q 201), .inl (k 1, 5340, .inl at0))] := hD
        refine W.eq (g2 := F0 m 47 ls [.int 0]) rfl ?_
        exact EWi hx hb hr hlocks hS () (by rw [show inA 5 5 = 0 by decide +kernel]) trivial nil_P nil_D dX12_told_47
    ·
      refine lv_aload_n hx hb dX12_told_9 rfl (lv_at hl 0 rfl) ?_
      refine lv_iconst (v := 1) hx hb dX12_told_10 (by decide) ?_
      refine CWV (As := [.int 1]) (rest := []) (wc := [((q 200), .inr (12, [.ref (q 201), .ref (q 202), .int 0, .long 0, .long 1, .ref (q 203), .ref (q 204), .ref (q 205), .ref (q 206), .ref (q 207), .int 0, .int 0, .int 0, .int 0, .int 0, .int 0, .int (-1), .int (-1), .int 0, .int 0, .int 0, .ref (q 208), .int 0, .int 0, .ref (q 209), .ref (q 210), .ref (q 211), .ref (q 212), .ref (q 213), .int 0, .int 0, .ref (q 214), .ref (q 215), .ref (q 216), .int 0, .int 0]))]) (wr := [((q 201), .inl (k 1, 5340, .inl at0))]) hx hb hml hown hts hKK hP hD hS hA (m_refuse l D k (q 200) [.ref (q 201), .ref (q 202), .int 0, .long 0, .long 1, .ref (q 203), .ref (q 204), .ref (q 205), .ref (q 206), .ref (q 207), .int 0, .int 0, .int 0, .int 0, .int 0, .int 0, .int (-1), .int (-1), .int 0, .int 0, .int 0, .ref (q 208), .int 0, .int 0, .ref (q 209), .ref (q 210), .ref (q 211), .ref (q 212), .ref (q 213), .int 0, .int 0, .ref (q 214), .ref (q 215), .ref (q 216), .int 0, .int 0] (Nat.le_of_ble_eq_true rfl) 1) ci_X12_refuse qm_X12_81 ⟨Nat.le_of_ble_eq_true rfl, Nat.le_of_ble_eq_true rfl⟩ ⟨Nat.le_of_ble_eq_true rfl, Nat.le_of_ble_eq_true rfl⟩ [0] [1] rfl rfl rfl rfl rfl (by decide) 0 rfl rfl rfl hl.1 rfl (Nat.le_of_ble_eq_true rfl) dX12_told_11 (fun u_18 H locs hφ hP hD hS => ?_)
      have hP : va_P D vwCl [((q 201), .inl (k 1, 5340, .inl at0))] H := hP
      have hD : va_D A [((q 201), .inl (k 1, 5340, .inl at0))] := hD
      refine W.eq (g2 := F0 m 14 ls [.int (-1)]) rfl ?_
      exact EWi hx hb hr hlocks hS () (by simp [inA, bw, c_1, Int32.not_le.mp c_3]) trivial nil_P nil_D dX12_told_14
set_option maxHeartbeats 4000000 in
set_option maxRecDepth 100000 in
theorem m_plain0 (l : Launch) (D : va_G) (k : Nat → ClassId) (q : Nat → Nat) (fs : List Value) (f0 : fs[0]? = some (.ref (q 201))) (f : Nat → Int32) (hf : ∀ i : Nat, i < 890 → f (0 + i) = 0) : WD (σ := Unit) l yX12_plain cX12_plain 3 none 0 0 0 D k [.ref (q 200), .int 0] [((q 200), .inr (12, fs)), ((q 201), .inl (k 1, 5340, .inl f))] (fun _ => none) (fun _ => True) (fun _ => [((q 200), .inr (12, fs)), ((q 201), .inl (k 1, 5340, .inl (upd f (5 : Int32).toNatClampNeg (-1))))]) := by
  refine MW (by decide) (Nat.le_of_ble_eq_true rfl) (fun p e s m below meth c ls A hx hb hml hr hlocks hin hts hown hKK hP hD hS hA hl => ?_)
  have hK := hKK.1
  have hl : lv_has ls 3 [(0, .ref (q 200)), (1, .int 0)] := hl
  refine lv_iconst (v := 0) hx hb dX12_plain_0 (by decide) ?_
  refine lv_istore_n (lv' := [(2, .int 0), (0, .ref (q 200)), (1, .int 0)]) hx hb dX12_plain_1 rfl hl (by decide) rfl (fun ls hl => ?_)
  have HL : ∀ (r i : Nat) (H : Heap) (locs : List Loc) (ls : Array Slot), i + r = 890 → va_P D vwCl [((q 200), .inr (12, fs)), ((q 201), .inl (k 1, 5340, .inl f))] H → va_D A [((q 200), .inr (12, fs)), ((q 201), .inl (k 1, 5340, .inl f))] → va_S A s.heap H locs → lv_has ls 3 [(2, .int (nI i)), (0, .ref (q 200)), (1, .int 0)] → W p l e (rj 0 0 0) s m [.ref (q 200), .int 0].toArray below meth c H locs 0 0 (MQ below (QW (σ := Unit) (fun _ => none) (fun _ => True) (fun _ => [((q 200), .inr (12, fs)), ((q 201), .inl (k 1, 5340, .inl (upd f (5 : Int32).toNatClampNeg (-1))))]) D A) [.ref (q 200), .int 0].toArray s 0 0 A) (F0 m 2 ls []) := by
    intro r
    induction r with
    | zero =>
      intro i  H locs ls hi  hP hD hS hl
      refine lv_iload_n hx hb dX12_plain_2 rfl (lv_at hl 0 rfl) ?_
      refine lv_sipush (v := 890) hx hb dX12_plain_3 (by decide) ?_
      refine lv_icmp_ge (tgt := 24) hx hb dX12_plain_6 (by decide) (fun _ => ?_) (fun c => absurd (nI_le (a := 890) (b := i) (by omega) (by omega)) c)
      refine lv_aload_n hx hb dX12_plain_24 rfl (lv_at hl 1 rfl) ?_
      refine va_get (D := D) (ci := 12) (v := .ref (q 201)) (C := RX12) (T := TX12) (N := 36) hx hb hts iX12 hown hK hP 0 rfl rfl 0 (by decide) (hts _ qf_X12_7) (fun _ h => h) f0 dX12_plain_25 ?_
      refine lv_iload_n hx hb dX12_plain_28 rfl (lv_at hl 2 rfl) ?_
      refine lv_iconst (v := 5) hx hb dX12_plain_29 (by decide) ?_
      refine lv_iadd hx hb dX12_plain_30 ?_
      refine lv_topi (fun x_1 ex_1 => ?_)
      obtain rfl : x_1 = 5 := ex_1.trans (by decide +kernel)
      refine lv_iconst (v := (-1)) hx hb dX12_plain_31 (by decide) ?_
      refine va_iast hx hb hK hP hD hS 1 1 rfl rfl (xin 5 5340 rfl (by decide) (by decide)) dX12_plain_32 (fun H locs hP hD hS => ?_)
      have hP : va_P D vwCl [((q 200), .inr (12, fs)), ((q 201), .inl (k 1, 5340, .inl (upd f (5 : Int32).toNatClampNeg (-1))))] H := hP
      have hD : va_D A [((q 200), .inr (12, fs)), ((q 201), .inl (k 1, 5340, .inl (upd f (5 : Int32).toNatClampNeg (-1))))] := hD
      exact EWv hx hb hr hlocks hS () rfl trivial (hP.sub (ws' := [((q 200), .inr (12, fs)), ((q 201), .inl (k 1, 5340, .inl (upd f (5 : Int32).toNatClampNeg (-1))))]) [0, 1] rfl) (hD.sub (ws' := [((q 200), .inr (12, fs)), ((q 201), .inl (k 1, 5340, .inl (upd f (5 : Int32).toNatClampNeg (-1))))]) [0, 1] rfl rfl) dX12_plain_33
    | succ r ih =>
      intro i  H locs ls hi  hP hD hS hl
      refine lv_iload_n hx hb dX12_plain_2 rfl (lv_at hl 0 rfl) ?_
      refine lv_sipush (v := 890) hx hb dX12_plain_3 (by decide) ?_
      refine lv_icmp_ge (tgt := 24) hx hb dX12_plain_6 (by decide) (fun c => absurd c (nI_ge (a := i) (b := 890) (by omega) (by omega))) (fun _ => ?_)
      refine lv_aload_n hx hb dX12_plain_9 rfl (lv_at hl 1 rfl) ?_
      refine va_get (D := D) (ci := 12) (v := .ref (q 201)) (C := RX12) (T := TX12) (N := 36) hx hb hts iX12 hown hK hP 0 rfl rfl 0 (by decide) (hts _ qf_X12_7) (fun _ h => h) f0 dX12_plain_10 ?_
      refine lv_iload_n hx hb dX12_plain_13 rfl (lv_at hl 2 rfl) ?_
      refine lv_iload_n hx hb dX12_plain_14 rfl (lv_at hl 0 rfl) ?_
      refine lv_iadd hx hb dX12_plain_15 ?_
      refine lv_topi (fun x_2 ex_2 => ?_)
      obtain rfl : x_2 = nI (0 + i) := ex_2.trans (nI_add 0 i)
      refine lv_iconst (v := 0) hx hb dX12_plain_16 (by decide) ?_
      refine va_iast hx hb hK hP hD hS 1 1 rfl rfl (vp_in_nI (by omega) (by decide)) dX12_plain_17 (fun H locs hP hD hS => ?_)
      have hP : va_P D vwCl [((q 200), .inr (12, fs)), ((q 201), .inl (k 1, 5340, .inl (upd f (nI (0 + i) : Int32).toNatClampNeg 0)))] H := hP
      have hD : va_D A [((q 200), .inr (12, fs)), ((q 201), .inl (k 1, 5340, .inl (upd f (nI (0 + i) : Int32).toNatClampNeg 0)))] := hD
      refine lv_iinc (v := nI (i + 1)) (lv' := [(2, .int (nI (i + 1))), (0, .ref (q 200)), (1, .int 0)]) hx hb dX12_plain_18 hl (k := 0) rfl (nI_1 i) (by decide) rfl (fun ls hl => ?_)
      refine lv_goto (tgt := 2) hx hb dX12_plain_21 (by decide) ?_
      rw [upd_z (n := 0 + i) (by omega) (hf i (by omega))] at hP hD
      exact ih (i + 1)  _ _ _ (by omega)  (hP.sub [0, 1] rfl) (hD.sub [0, 1] rfl rfl) hS (lv_sub hl [0, 1, 2] rfl)
  exact HL 890 0  _ _ _ (by omega)  (hP.sub [0, 1] rfl) (hD.sub [0, 1] rfl rfl) hS (lv_sub hl [0, 1, 2] rfl)
set_option maxHeartbeats 4000000 in
set_option maxRecDepth 100000 in
theorem m_plain3560 (l : Launch) (D : va_G) (k : Nat → ClassId) (q : Nat → Nat) (fs : List Value) (f0 : fs[0]? = some (.ref (q 201))) (f : Nat → Int32) (hf : ∀ i : Nat, i < 890 → f (3560 + i) = 0) : WD (σ := Unit) l yX12_plain cX12_plain 3 none 0 0 0 D k [.ref (q 200), .int 3560] [((q 200), .inr (12, fs)), ((q 201), .inl (k 1, 5340, .inl f))] (fun _ => none) (fun _ => True) (fun _ => [((q 200), .inr (12, fs)), ((q 201), .inl (k 1, 5340, .inl (upd f (3565 : Int32).toNatClampNeg (-1))))]) := by
  refine MW (by decide) (Nat.le_of_ble_eq_true rfl) (fun p e s m below meth c ls A hx hb hml hr hlocks hin hts hown hKK hP hD hS hA hl => ?_)
  have hK := hKK.1
  have hl : lv_has ls 3 [(0, .ref (q 200)), (1, .int 3560)] := hl
  refine lv_iconst (v := 0) hx hb dX12_plain_0 (by decide) ?_
  refine lv_istore_n (lv' := [(2, .int 0), (0, .ref (q 200)), (1, .int 3560)]) hx hb dX12_plain_1 rfl hl (by decide) rfl (fun ls hl => ?_)
  have HL : ∀ (r i : Nat) (H : Heap) (locs : List Loc) (ls : Array Slot), i + r = 890 → va_P D vwCl [((q 200), .inr (12, fs)), ((q 201), .inl (k 1, 5340, .inl f))] H → va_D A [((q 200), .inr (12, fs)), ((q 201), .inl (k 1, 5340, .inl f))] → va_S A s.heap H locs → lv_has ls 3 [(2, .int (nI i)), (0, .ref (q 200)), (1, .int 3560)] → W p l e (rj 0 0 0) s m [.ref (q 200), .int 3560].toArray below meth c H locs 0 0 (MQ below (QW (σ := Unit) (fun _ => none) (fun _ => True) (fun _ => [((q 200), .inr (12, fs)), ((q 201), .inl (k 1, 5340, .inl (upd f (3565 : Int32).toNatClampNeg (-1))))]) D A) [.ref (q 200), .int 3560].toArray s 0 0 A) (F0 m 2 ls []) := by
    intro r
    induction r with
    | zero =>
      intro i  H locs ls hi  hP hD hS hl
      refine lv_iload_n hx hb dX12_plain_2 rfl (lv_at hl 0 rfl) ?_
      refine lv_sipush (v := 890) hx hb dX12_plain_3 (by decide) ?_
      refine lv_icmp_ge (tgt := 24) hx hb dX12_plain_6 (by decide) (fun _ => ?_) (fun c => absurd (nI_le (a := 890) (b := i) (by omega) (by omega)) c)
      refine lv_aload_n hx hb dX12_plain_24 rfl (lv_at hl 1 rfl) ?_
      refine va_get (D := D) (ci := 12) (v := .ref (q 201)) (C := RX12) (T := TX12) (N := 36) hx hb hts iX12 hown hK hP 0 rfl rfl 0 (by decide) (hts _ qf_X12_7) (fun _ h => h) f0 dX12_plain_25 ?_
      refine lv_iload_n hx hb dX12_plain_28 rfl (lv_at hl 2 rfl) ?_
      refine lv_iconst (v := 5) hx hb dX12_plain_29 (by decide) ?_
      refine lv_iadd hx hb dX12_plain_30 ?_
      refine lv_topi (fun x_1 ex_1 => ?_)
      obtain rfl : x_1 = 3565 := ex_1.trans (by decide +kernel)
      refine lv_iconst (v := (-1)) hx hb dX12_plain_31 (by decide) ?_
      refine va_iast hx hb hK hP hD hS 1 1 rfl rfl (xin 3565 5340 rfl (by decide) (by decide)) dX12_plain_32 (fun H locs hP hD hS => ?_)
      have hP : va_P D vwCl [((q 200), .inr (12, fs)), ((q 201), .inl (k 1, 5340, .inl (upd f (3565 : Int32).toNatClampNeg (-1))))] H := hP
      have hD : va_D A [((q 200), .inr (12, fs)), ((q 201), .inl (k 1, 5340, .inl (upd f (3565 : Int32).toNatClampNeg (-1))))] := hD
      exact EWv hx hb hr hlocks hS () rfl trivial (hP.sub (ws' := [((q 200), .inr (12, fs)), ((q 201), .inl (k 1, 5340, .inl (upd f (3565 : Int32).toNatClampNeg (-1))))]) [0, 1] rfl) (hD.sub (ws' := [((q 200), .inr (12, fs)), ((q 201), .inl (k 1, 5340, .inl (upd f (3565 : Int32).toNatClampNeg (-1))))]) [0, 1] rfl rfl) dX12_plain_33
    | succ r ih =>
      intro i  H locs ls hi  hP hD hS hl
      refine lv_iload_n hx hb dX12_plain_2 rfl (lv_at hl 0 rfl) ?_
      refine lv_sipush (v := 890) hx hb dX12_plain_3 (by decide) ?_
      refine lv_icmp_ge (tgt := 24) hx hb dX12_plain_6 (by decide) (fun c => absurd c (nI_ge (a := i) (b := 890) (by omega) (by omega))) (fun _ => ?_)
      refine lv_aload_n hx hb dX12_plain_9 rfl (lv_at hl 1 rfl) ?_
      refine va_get (D := D) (ci := 12) (v := .ref (q 201)) (C := RX12) (T := TX12) (N := 36) hx hb hts iX12 hown hK hP 0 rfl rfl 0 (by decide) (hts _ qf_X12_7) (fun _ h => h) f0 dX12_plain_10 ?_
      refine lv_iload_n hx hb dX12_plain_13 rfl (lv_at hl 2 rfl) ?_
      refine lv_iload_n hx hb dX12_plain_14 rfl (lv_at hl 0 rfl) ?_
      refine lv_iadd hx hb dX12_plain_15 ?_
      refine lv_topi (fun x_2 ex_2 => ?_)
      obtain rfl : x_2 = nI (3560 + i) := ex_2.trans (nI_add 3560 i)
      refine lv_iconst (v := 0) hx hb dX12_plain_16 (by decide) ?_
      refine va_iast hx hb hK hP hD hS 1 1 rfl rfl (vp_in_nI (by omega) (by decide)) dX12_plain_17 (fun H locs hP hD hS => ?_)
      have hP : va_P D vwCl [((q 200), .inr (12, fs)), ((q 201), .inl (k 1, 5340, .inl (upd f (nI (3560 + i) : Int32).toNatClampNeg 0)))] H := hP
      have hD : va_D A [((q 200), .inr (12, fs)), ((q 201), .inl (k 1, 5340, .inl (upd f (nI (3560 + i) : Int32).toNatClampNeg 0)))] := hD
      refine lv_iinc (v := nI (i + 1)) (lv' := [(2, .int (nI (i + 1))), (0, .ref (q 200)), (1, .int 3560)]) hx hb dX12_plain_18 hl (k := 0) rfl (nI_1 i) (by decide) rfl (fun ls hl => ?_)
      refine lv_goto (tgt := 2) hx hb dX12_plain_21 (by decide) ?_
      rw [upd_z (n := 3560 + i) (by omega) (hf i (by omega))] at hP hD
      exact ih (i + 1)  _ _ _ (by omega)  (hP.sub [0, 1] rfl) (hD.sub [0, 1] rfl rfl) hS (lv_sub hl [0, 1, 2] rfl)
  exact HL 890 0  _ _ _ (by omega)  (hP.sub [0, 1] rfl) (hD.sub [0, 1] rfl rfl) hS (lv_sub hl [0, 1, 2] rfl)
set_option maxHeartbeats 4000000 in
set_option maxRecDepth 100000 in
theorem m_byteAt (l : Launch) (D : va_G) (k : Nat → ClassId) (h : Nat) (fs : List Value) (f11 : fs[11]? = some (.int 0)) : RD l yX12_byteAt cX12_byteAt 2 (some .int) 0 D k [.ref h, .int 0] [(h, .inr (12, fs))] (-1) := by
  refine MR (by decide) (Nat.le_of_ble_eq_true rfl) (fun p e s m below meth c ls hx hb hml hr hlocks hts hown hKK hP hl => ?_)
  have hK := hKK.1
  have hl : lv_has ls 2 [(0, .ref h), (1, .int 0)] := hl
  refine lv_iload_n hx hb dX12_byteAt_0 rfl (lv_at hl 1 rfl) ?_
  refine lv_aload_n hx hb dX12_byteAt_1 rfl (lv_at hl 0 rfl) ?_
  refine va_get (D := D) (ci := 12) (v := .int 0) (C := RX12) (T := TX12) (N := 36) hx hb hts iX12 hown hK hP 0 rfl rfl 11 (by decide) (hts _ qf_X12_112) (fun _ h => h) f11 dX12_byteAt_2 ?_
  refine lv_icmp_ge (tgt := 21) hx hb dX12_byteAt_5 (by decide) (fun _ => ?_) (fun c => absurd (by decide) c)
  refine lv_iconst (v := (-1)) hx hb dX12_byteAt_21 (by decide) ?_
  exact ERi hx hb hr hlocks rfl dX12_byteAt_22
set_option maxHeartbeats 4000000 in
set_option maxRecDepth 100000 in
theorem m_onward (l : Launch) (D : va_G) (k : Nat → ClassId) (q : Nat → Nat) : WD (σ := Unit) l yX12_onward cX12_onward 2 none 1 0 0 D k [.ref (q 200)] [((q 200), .inr (12, [.ref (q 201), .ref (q 202), .int 0, .long 0, .long 1, .ref (q 203), .ref (q 204), .ref (q 205), .ref (q 206), .ref (q 207), .int 0, .int 0, .int 0, .int 0, .int 0, .int 0, .int (-1), .int (-1), .int 0, .int 0, .int 0, .ref (q 208), .int 0, .int 0, .ref (q 209), .ref (q 210), .ref (q 211), .ref (q 212), .ref (q 213), .int 0, .int 0, .ref (q 214), .ref (q 215), .ref (q 216), .int 0, .int 0]))] (fun _ => none) (fun _ => True) (fun _ => [((q 200), .inr (12, [.ref (q 201), .ref (q 202), .int 0, .long 0, .long 1, .ref (q 203), .ref (q 204), .ref (q 205), .ref (q 206), .ref (q 207), .int 0, .int 0, .int 0, .int 0, .int 0, .int (-1), .int (-1), .int (-1), .int 0, .int 0, .int 0, .ref (q 208), .int 0, .int 0, .ref (q 209), .ref (q 210), .ref (q 211), .ref (q 212), .ref (q 213), .int 0, .int 0, .ref (q 214), .ref (q 215), .ref (q 216), .int 0, .int 0]))]) := by
  refine MW (by decide) (Nat.le_of_ble_eq_true rfl) (fun p e s m below meth c ls A hx hb hml hr hlocks hin hts hown hKK hP hD hS hA hl => ?_)
  have hK := hKK.1
  have hl : lv_has ls 2 [(0, .ref (q 200))] := hl
  refine lv_aload_n hx hb dX12_onward_0 rfl (lv_at hl 0 rfl) ?_
  refine lv_aload_n hx hb dX12_onward_1 rfl (lv_at hl 0 rfl) ?_
  refine va_get (D := D) (ci := 12) (v := .int 0) (C := RX12) (T := TX12) (N := 36) hx hb hts iX12 hown hK hP 0 rfl rfl 14 (by decide) (hts _ qf_X12_115) (fun _ h => h) rfl dX12_onward_2 ?_
  refine CRV (As := [.int 0]) (rest := []) hx hb hml hown hts hKK hP (m_byteAt l D k (q 200) [.ref (q 201), .ref (q 202), .int 0, .long 0, .long 1, .ref (q 203), .ref (q 204), .ref (q 205), .ref (q 206), .ref (q 207), .int 0, .int 0, .int 0, .int 0, .int 0, .int 0, .int (-1), .int (-1), .int 0, .int 0, .int 0, .ref (q 208), .int 0, .int 0, .ref (q 209), .ref (q 210), .ref (q 211), .ref (q 212), .ref (q 213), .int 0, .int 0, .ref (q 214), .ref (q 215), .ref (q 216), .int 0, .int 0] rfl) ci_X12_byteAt qm_X12_118 ⟨Nat.le_of_ble_eq_true rfl, Nat.le_of_ble_eq_true rfl⟩ ⟨Nat.le_of_ble_eq_true rfl, Nat.le_of_ble_eq_true rfl⟩ 0 rfl rfl rfl hl.1 rfl (Nat.le_of_ble_eq_true rfl) dX12_onward_5 ?_
  refine lv_bipush (v := 32) hx hb dX12_onward_8 (by decide) ?_
  refine lv_icmp_eq (tgt := 26) hx hb dX12_onward_10 (by decide) (fun c => absurd c (by decide)) (fun _ => ?_)
  refine lv_aload_n hx hb dX12_onward_13 rfl (lv_at hl 0 rfl) ?_
  refine lv_aload_n hx hb dX12_onward_14 rfl (lv_at hl 0 rfl) ?_
  refine va_get (D := D) (ci := 12) (v := .int 0) (C := RX12) (T := TX12) (N := 36) hx hb hts iX12 hown hK hP 0 rfl rfl 14 (by decide) (hts _ qf_X12_115) (fun _ h => h) rfl dX12_onward_15 ?_
  refine CRV (As := [.int 0]) (rest := []) hx hb hml hown hts hKK hP (m_byteAt l D k (q 200) [.ref (q 201), .ref (q 202), .int 0, .long 0, .long 1, .ref (q 203), .ref (q 204), .ref (q 205), .ref (q 206), .ref (q 207), .int 0, .int 0, .int 0, .int 0, .int 0, .int 0, .int (-1), .int (-1), .int 0, .int 0, .int 0, .ref (q 208), .int 0, .int 0, .ref (q 209), .ref (q 210), .ref (q 211), .ref (q 212), .ref (q 213), .int 0, .int 0, .ref (q 214), .ref (q 215), .ref (q 216), .int 0, .int 0] rfl) ci_X12_byteAt qm_X12_118 ⟨Nat.le_of_ble_eq_true rfl, Nat.le_of_ble_eq_true rfl⟩ ⟨Nat.le_of_ble_eq_true rfl, Nat.le_of_ble_eq_true rfl⟩ 0 rfl rfl rfl hl.1 rfl (Nat.le_of_ble_eq_true rfl) dX12_onward_18 ?_
  refine lv_bipush (v := 10) hx hb dX12_onward_21 (by decide) ?_
  refine lv_icmp_ne (tgt := 39) hx hb dX12_onward_23 (by decide) (fun _ => ?_) (fun c => absurd c (by decide))
  refine lv_aload_n hx hb dX12_onward_39 rfl (lv_at hl 0 rfl) ?_
  refine lv_aload_n hx hb dX12_onward_40 rfl (lv_at hl 0 rfl) ?_
  refine va_get (D := D) (ci := 12) (v := .int 0) (C := RX12) (T := TX12) (N := 36) hx hb hts iX12 hown hK hP 0 rfl rfl 14 (by decide) (hts _ qf_X12_115) (fun _ h => h) rfl dX12_onward_41 ?_
  refine va_put (D := D) (ci := 12) (v := .int 0) (ty := .int) (C := RX12) (T := TX12) (N := 36) hx hb hts iX12 tyX12 tyX12_ok nmX12 hown hK hP hD hS 0 rfl rfl 13 (by decide) (hts _ qf_X12_121) (fun _ h => h) rfl (by decide +kernel) rfl rfl (Nat.le_of_ble_eq_true rfl) dX12_onward_44 (fun H locs hP hD hS => ?_)
  have hP : va_P D vwCl [((q 200), .inr (12, [.ref (q 201), .ref (q 202), .int 0, .long 0, .long 1, .ref (q 203), .ref (q 204), .ref (q 205), .ref (q 206), .ref (q 207), .int 0, .int 0, .int 0, .int 0, .int 0, .int 0, .int (-1), .int (-1), .int 0, .int 0, .int 0, .ref (q 208), .int 0, .int 0, .ref (q 209), .ref (q 210), .ref (q 211), .ref (q 212), .ref (q 213), .int 0, .int 0, .ref (q 214), .ref (q 215), .ref (q 216), .int 0, .int 0]))] H := hP
  have hD : va_D A [((q 200), .inr (12, [.ref (q 201), .ref (q 202), .int 0, .long 0, .long 1, .ref (q 203), .ref (q 204), .ref (q 205), .ref (q 206), .ref (q 207), .int 0, .int 0, .int 0, .int 0, .int 0, .int 0, .int (-1), .int (-1), .int 0, .int 0, .int 0, .ref (q 208), .int 0, .int 0, .ref (q 209), .ref (q 210), .ref (q 211), .ref (q 212), .ref (q 213), .int 0, .int 0, .ref (q 214), .ref (q 215), .ref (q 216), .int 0, .int 0]))] := hD
  refine lv_aload_n hx hb dX12_onward_47 rfl (lv_at hl 0 rfl) ?_
  refine lv_aload_n hx hb dX12_onward_48 rfl (lv_at hl 0 rfl) ?_
  refine va_get (D := D) (ci := 12) (v := .int 0) (C := RX12) (T := TX12) (N := 36) hx hb hts iX12 hown hK hP 0 rfl rfl 14 (by decide) (hts _ qf_X12_115) (fun _ h => h) rfl dX12_onward_49 ?_
  refine CRV (As := [.int 0]) (rest := []) hx hb hml hown hts hKK hP (m_byteAt l D k (q 200) [.ref (q 201), .ref (q 202), .int 0, .long 0, .long 1, .ref (q 203), .ref (q 204), .ref (q 205), .ref (q 206), .ref (q 207), .int 0, .int 0, .int 0, .int 0, .int 0, .int 0, .int (-1), .int (-1), .int 0, .int 0, .int 0, .ref (q 208), .int 0, .int 0, .ref (q 209), .ref (q 210), .ref (q 211), .ref (q 212), .ref (q 213), .int 0, .int 0, .ref (q 214), .ref (q 215), .ref (q 216), .int 0, .int 0] rfl) ci_X12_byteAt qm_X12_118 ⟨Nat.le_of_ble_eq_true rfl, Nat.le_of_ble_eq_true rfl⟩ ⟨Nat.le_of_ble_eq_true rfl, Nat.le_of_ble_eq_true rfl⟩ 0 rfl rfl rfl hl.1 rfl (Nat.le_of_ble_eq_true rfl) dX12_onward_52 ?_
  refine lv_istore_n (lv' := [(1, .int (-1)), (0, .ref (q 200))]) hx hb dX12_onward_55 rfl hl (by decide) rfl (fun ls hl => ?_)
  refine lv_aload_n hx hb dX12_onward_56 rfl (lv_at hl 1 rfl) ?_
  refine lv_iload_n hx hb dX12_onward_57 rfl (lv_at hl 0 rfl) ?_
  refine va_put (D := D) (ci := 12) (v := .int (-1)) (ty := .int) (C := RX12) (T := TX12) (N := 36) hx hb hts iX12 tyX12 tyX12_ok nmX12 hown hK hP hD hS 0 rfl rfl 15 (by decide) (hts _ qf_X12_124) (fun _ h => h) rfl (by decide +kernel) rfl rfl (Nat.le_of_ble_eq_true rfl) dX12_onward_58 (fun H locs hP hD hS => ?_)
  have hP : va_P D vwCl [((q 200), .inr (12, [.ref (q 201), .ref (q 202), .int 0, .long 0, .long 1, .ref (q 203), .ref (q 204), .ref (q 205), .ref (q 206), .ref (q 207), .int 0, .int 0, .int 0, .int 0, .int 0, .int (-1), .int (-1), .int (-1), .int 0, .int 0, .int 0, .ref (q 208), .int 0, .int 0, .ref (q 209), .ref (q 210), .ref (q 211), .ref (q 212), .ref (q 213), .int 0, .int 0, .ref (q 214), .ref (q 215), .ref (q 216), .int 0, .int 0]))] H := hP
  have hD : va_D A [((q 200), .inr (12, [.ref (q 201), .ref (q 202), .int 0, .long 0, .long 1, .ref (q 203), .ref (q 204), .ref (q 205), .ref (q 206), .ref (q 207), .int 0, .int 0, .int 0, .int 0, .int 0, .int (-1), .int (-1), .int (-1), .int 0, .int 0, .int 0, .ref (q 208), .int 0, .int 0, .ref (q 209), .ref (q 210), .ref (q 211), .ref (q 212), .ref (q 213), .int 0, .int 0, .ref (q 214), .ref (q 215), .ref (q 216), .int 0, .int 0]))] := hD
  refine lv_iload_n hx hb dX12_onward_61 rfl (lv_at hl 0 rfl) ?_
  refine lv_iconst (v := (-1)) hx hb dX12_onward_62 (by decide) ?_
  refine lv_icmp_ne (tgt := 74) hx hb dX12_onward_63 (by decide) (fun c => absurd (by decide) c) (fun _ => ?_)
  refine lv_aload_n hx hb dX12_onward_66 rfl (lv_at hl 1 rfl) ?_
  refine lv_iconst (v := 0) hx hb dX12_onward_67 (by decide) ?_
  refine va_put (D := D) (ci := 12) (v := .int 0) (ty := .int) (C := RX12) (T := TX12) (N := 36) hx hb hts iX12 tyX12 tyX12_ok nmX12 hown hK hP hD hS 0 rfl rfl 12 (by decide) (hts _ qf_X12_127) (fun _ h => h) rfl (by decide +kernel) rfl rfl (Nat.le_of_ble_eq_true rfl) dX12_onward_68 (fun H locs hP hD hS => ?_)
  have hP : va_P D vwCl [((q 200), .inr (12, [.ref (q 201), .ref (q 202), .int 0, .long 0, .long 1, .ref (q 203), .ref (q 204), .ref (q 205), .ref (q 206), .ref (q 207), .int 0, .int 0, .int 0, .int 0, .int 0, .int (-1), .int (-1), .int (-1), .int 0, .int 0, .int 0, .ref (q 208), .int 0, .int 0, .ref (q 209), .ref (q 210), .ref (q 211), .ref (q 212), .ref (q 213), .int 0, .int 0, .ref (q 214), .ref (q 215), .ref (q 216), .int 0, .int 0]))] H := hP
  have hD : va_D A [((q 200), .inr (12, [.ref (q 201), .ref (q 202), .int 0, .long 0, .long 1, .ref (q 203), .ref (q 204), .ref (q 205), .ref (q 206), .ref (q 207), .int 0, .int 0, .int 0, .int 0, .int 0, .int (-1), .int (-1), .int (-1), .int 0, .int 0, .int 0, .ref (q 208), .int 0, .int 0, .ref (q 209), .ref (q 210), .ref (q 211), .ref (q 212), .ref (q 213), .int 0, .int 0, .ref (q 214), .ref (q 215), .ref (q 216), .int 0, .int 0]))] := hD
  refine lv_goto (tgt := 251) hx hb dX12_onward_71 (by decide) ?_
  exact EWv hx hb hr hlocks hS () rfl trivial (hP.sub (ws' := [((q 200), .inr (12, [.ref (q 201), .ref (q 202), .int 0, .long 0, .long 1, .ref (q 203), .ref (q 204), .ref (q 205), .ref (q 206), .ref (q 207), .int 0, .int 0, .int 0, .int 0, .int 0, .int (-1), .int (-1), .int (-1), .int 0, .int 0, .int 0, .ref (q 208), .int 0, .int 0, .ref (q 209), .ref (q 210), .ref (q 211), .ref (q 212), .ref (q 213), .int 0, .int 0, .ref (q 214), .ref (q 215), .ref (q 216), .int 0, .int 0]))]) [0] rfl) (hD.sub (ws' := [((q 200), .inr (12, [.ref (q 201), .ref (q 202), .int 0, .long 0, .long 1, .ref (q 203), .ref (q 204), .ref (q 205), .ref (q 206), .ref (q 207), .int 0, .int 0, .int 0, .int 0, .int 0, .int (-1), .int (-1), .int (-1), .int 0, .int 0, .int 0, .ref (q 208), .int 0, .int 0, .ref (q 209), .ref (q 210), .ref (q 211), .ref (q 212), .ref (q 213), .int 0, .int 0, .ref (q 214), .ref (q 215), .ref (q 216), .int 0, .int 0]))]) [0] rfl rfl) dX12_onward_251
set_option maxHeartbeats 4000000 in
set_option maxRecDepth 100000 in
theorem m_begins900 (l : Launch) (D : va_G) (k : Nat → ClassId) (q : Nat → Nat) : WD (σ := Unit) l yX12_begins cX12_begins 4 (some .boolean) 2 0 0 D k [.ref (q 200), .int 0, .int 900] [((q 200), .inr (12, [.ref (q 201), .ref (q 202), .int 0, .long 0, .long 1, .ref (q 203), .ref (q 204), .ref (q 205), .ref (q 206), .ref (q 207), .int 0, .int 0, .int 0, .int 0, .int 0, .int 0, .int (-1), .int (-1), .int 0, .int 0, .int 0, .ref (q 208), .int 0, .int 0, .ref (q 209), .ref (q 210), .ref (q 211), .ref (q 212), .ref (q 213), .int 0, .int 0, .ref (q 214), .ref (q 215), .ref (q 216), .int 0, .int 0]))] (fun _ => some (.int 1)) (fun _ => True) (fun _ => [((q 200), .inr (12, [.ref (q 201), .ref (q 202), .int 0, .long 0, .long 1, .ref (q 203), .ref (q 204), .ref (q 205), .ref (q 206), .ref (q 207), .int 0, .int 0, .int 0, .int 0, .int 0, .int (-1), .int (-1), .int (-1), .int 0, .int 0, .int 0, .ref (q 208), .int 0, .int 0, .ref (q 209), .ref (q 210), .ref (q 211), .ref (q 212), .ref (q 213), .int 0, .int 0, .ref (q 214), .ref (q 215), .ref (q 216), .int 0, .int 0]))]) := by
  refine MW (by decide) (Nat.le_of_ble_eq_true rfl) (fun p e s m below meth c ls A hx hb hml hr hlocks hin hts hown hKK hP hD hS hA hl => ?_)
  have hK := hKK.1
  have hl : lv_has ls 4 [(0, .ref (q 200)), (1, .int 0), (2, .int 900)] := hl
  refine lv_iload_n hx hb dX12_begins_0 rfl (lv_at hl 1 rfl) ?_
  refine lv_if_lt (tgt := 17) hx hb dX12_begins_1 (by decide) (fun c => absurd c (by decide)) (fun _ => ?_)
  refine lv_iload_n hx hb dX12_begins_4 rfl (lv_at hl 1 rfl) ?_
  refine lv_aload_n hx hb dX12_begins_5 rfl (lv_at hl 0 rfl) ?_
  refine va_get (D := D) (ci := 12) (v := .int 0) (C := RX12) (T := TX12) (N := 36) hx hb hts iX12 hown hK hP 0 rfl rfl 10 (by decide) (hts _ qf_X12_106) (fun _ h => h) rfl dX12_begins_6 ?_
  refine lv_icmp_gt (tgt := 17) hx hb dX12_begins_9 (by decide) (fun c => absurd c (by decide)) (fun _ => ?_)
  refine lv_iload_n hx hb dX12_begins_12 rfl (lv_at hl 1 rfl) ?_
  refine lv_iload_n hx hb dX12_begins_13 rfl (lv_at hl 2 rfl) ?_
  refine lv_icmp_le (tgt := 19) hx hb dX12_begins_14 (by decide) (fun _ => ?_) (fun c => absurd (by decide) c)
  refine lv_aload_n hx hb dX12_begins_19 rfl (lv_at hl 0 rfl) ?_
  refine lv_iload_n hx hb dX12_begins_20 rfl (lv_at hl 1 rfl) ?_
  refine va_put (D := D) (ci := 12) (v := .int 0) (ty := .int) (C := RX12) (T := TX12) (N := 36) hx hb hts iX12 tyX12 tyX12_ok nmX12 hown hK hP hD hS 0 rfl rfl 11 (by decide) (hts _ qf_X12_112) (fun _ h => h) rfl (by decide +kernel) rfl rfl (Nat.le_of_ble_eq_true rfl) dX12_begins_21 (fun H locs hP hD hS => ?_)
  have hP : va_P D vwCl [((q 200), .inr (12, [.ref (q 201), .ref (q 202), .int 0, .long 0, .long 1, .ref (q 203), .ref (q 204), .ref (q 205), .ref (q 206), .ref (q 207), .int 0, .int 0, .int 0, .int 0, .int 0, .int 0, .int (-1), .int (-1), .int 0, .int 0, .int 0, .ref (q 208), .int 0, .int 0, .ref (q 209), .ref (q 210), .ref (q 211), .ref (q 212), .ref (q 213), .int 0, .int 0, .ref (q 214), .ref (q 215), .ref (q 216), .int 0, .int 0]))] H := hP
  have hD : va_D A [((q 200), .inr (12, [.ref (q 201), .ref (q 202), .int 0, .long 0, .long 1, .ref (q 203), .ref (q 204), .ref (q 205), .ref (q 206), .ref (q 207), .int 0, .int 0, .int 0, .int 0, .int 0, .int 0, .int (-1), .int (-1), .int 0, .int 0, .int 0, .ref (q 208), .int 0, .int 0, .ref (q 209), .ref (q 210), .ref (q 211), .ref (q 212), .ref (q 213), .int 0, .int 0, .ref (q 214), .ref (q 215), .ref (q 216), .int 0, .int 0]))] := hD
  refine lv_iconst (v := 0) hx hb dX12_begins_24 (by decide) ?_
  refine lv_istore_n (lv' := [(3, .int 0), (0, .ref (q 200)), (1, .int 0), (2, .int 900)]) hx hb dX12_begins_25 rfl hl (by decide) rfl (fun ls hl => ?_)
  refine lv_iload_n hx hb dX12_begins_26 rfl (lv_at hl 0 rfl) ?_
  refine lv_iload_n hx hb dX12_begins_27 rfl (lv_at hl 2 rfl) ?_
  refine lv_icmp_ge (tgt := 49) hx hb dX12_begins_28 (by decide) (fun _ => ?_) (fun c => absurd (by decide) c)
  refine lv_aload_n hx hb dX12_begins_49 rfl (lv_at hl 1 rfl) ?_
  refine lv_iconst (v := 0) hx hb dX12_begins_50 (by decide) ?_
  refine va_put (D := D) (ci := 12) (v := .int 0) (ty := .int) (C := RX12) (T := TX12) (N := 36) hx hb hts iX12 tyX12 tyX12_ok nmX12 hown hK hP hD hS 0 rfl rfl 10 (by decide) (hts _ qf_X12_106) (fun _ h => h) rfl (by decide +kernel) rfl rfl (Nat.le_of_ble_eq_true rfl) dX12_begins_51 (fun H locs hP hD hS => ?_)
  have hP : va_P D vwCl [((q 200), .inr (12, [.ref (q 201), .ref (q 202), .int 0, .long 0, .long 1, .ref (q 203), .ref (q 204), .ref (q 205), .ref (q 206), .ref (q 207), .int 0, .int 0, .int 0, .int 0, .int 0, .int 0, .int (-1), .int (-1), .int 0, .int 0, .int 0, .ref (q 208), .int 0, .int 0, .ref (q 209), .ref (q 210), .ref (q 211), .ref (q 212), .ref (q 213), .int 0, .int 0, .ref (q 214), .ref (q 215), .ref (q 216), .int 0, .int 0]))] H := hP
  have hD : va_D A [((q 200), .inr (12, [.ref (q 201), .ref (q 202), .int 0, .long 0, .long 1, .ref (q 203), .ref (q 204), .ref (q 205), .ref (q 206), .ref (q 207), .int 0, .int 0, .int 0, .int 0, .int 0, .int 0, .int (-1), .int (-1), .int 0, .int 0, .int 0, .ref (q 208), .int 0, .int 0, .ref (q 209), .ref (q 210), .ref (q 211), .ref (q 212), .ref (q 213), .int 0, .int 0, .ref (q 214), .ref (q 215), .ref (q 216), .int 0, .int 0]))] := hD
  refine lv_aload_n hx hb dX12_begins_54 rfl (lv_at hl 1 rfl) ?_
  refine lv_iconst (v := 0) hx hb dX12_begins_55 (by decide) ?_
  refine va_put (D := D) (ci := 12) (v := .int 0) (ty := .int) (C := RX12) (T := TX12) (N := 36) hx hb hts iX12 tyX12 tyX12_ok nmX12 hown hK hP hD hS 0 rfl rfl 18 (by decide) (hts _ qf_X12_152) (fun _ h => h) rfl (by decide +kernel) rfl rfl (Nat.le_of_ble_eq_true rfl) dX12_begins_56 (fun H locs hP hD hS => ?_)
  have hP : va_P D vwCl [((q 200), .inr (12, [.ref (q 201), .ref (q 202), .int 0, .long 0, .long 1, .ref (q 203), .ref (q 204), .ref (q 205), .ref (q 206), .ref (q 207), .int 0, .int 0, .int 0, .int 0, .int 0, .int 0, .int (-1), .int (-1), .int 0, .int 0, .int 0, .ref (q 208), .int 0, .int 0, .ref (q 209), .ref (q 210), .ref (q 211), .ref (q 212), .ref (q 213), .int 0, .int 0, .ref (q 214), .ref (q 215), .ref (q 216), .int 0, .int 0]))] H := hP
  have hD : va_D A [((q 200), .inr (12, [.ref (q 201), .ref (q 202), .int 0, .long 0, .long 1, .ref (q 203), .ref (q 204), .ref (q 205), .ref (q 206), .ref (q 207), .int 0, .int 0, .int 0, .int 0, .int 0, .int 0, .int (-1), .int (-1), .int 0, .int 0, .int 0, .ref (q 208), .int 0, .int 0, .ref (q 209), .ref (q 210), .ref (q 211), .ref (q 212), .ref (q 213), .int 0, .int 0, .ref (q 214), .ref (q 215), .ref (q 216), .int 0, .int 0]))] := hD
  refine lv_aload_n hx hb dX12_begins_59 rfl (lv_at hl 1 rfl) ?_
  refine lv_iconst (v := (-1)) hx hb dX12_begins_60 (by decide) ?_
  refine va_put (D := D) (ci := 12) (v := .int (-1)) (ty := .int) (C := RX12) (T := TX12) (N := 36) hx hb hts iX12 tyX12 tyX12_ok nmX12 hown hK hP hD hS 0 rfl rfl 17 (by decide) (hts _ qf_X12_41) (fun _ h => h) rfl (by decide +kernel) rfl rfl (Nat.le_of_ble_eq_true rfl) dX12_begins_61 (fun H locs hP hD hS => ?_)
  have hP : va_P D vwCl [((q 200), .inr (12, [.ref (q 201), .ref (q 202), .int 0, .long 0, .long 1, .ref (q 203), .ref (q 204), .ref (q 205), .ref (q 206), .ref (q 207), .int 0, .int 0, .int 0, .int 0, .int 0, .int 0, .int (-1), .int (-1), .int 0, .int 0, .int 0, .ref (q 208), .int 0, .int 0, .ref (q 209), .ref (q 210), .ref (q 211), .ref (q 212), .ref (q 213), .int 0, .int 0, .ref (q 214), .ref (q 215), .ref (q 216), .int 0, .int 0]))] H := hP
  have hD : va_D A [((q 200), .inr (12, [.ref (q 201), .ref (q 202), .int 0, .long 0, .long 1, .ref (q 203), .ref (q 204), .ref (q 205), .ref (q 206), .ref (q 207), .int 0, .int 0, .int 0, .int 0, .int 0, .int 0, .int (-1), .int (-1), .int 0, .int 0, .int 0, .ref (q 208), .int 0, .int 0, .ref (q 209), .ref (q 210), .ref (q 211), .ref (q 212), .ref (q 213), .int 0, .int 0, .ref (q 214), .ref (q 215), .ref (q 216), .int 0, .int 0]))] := hD
  refine lv_aload_n hx hb dX12_begins_64 rfl (lv_at hl 1 rfl) ?_
  refine lv_iconst (v := 0) hx hb dX12_begins_65 (by decide) ?_
  refine va_put (D := D) (ci := 12) (v := .int 0) (ty := .int) (C := RX12) (T := TX12) (N := 36) hx hb hts iX12 tyX12 tyX12_ok nmX12 hown hK hP hD hS 0 rfl rfl 14 (by decide) (hts _ qf_X12_115) (fun _ h => h) rfl (by decide +kernel) rfl rfl (Nat.le_of_ble_eq_true rfl) dX12_begins_66 (fun H locs hP hD hS => ?_)
  have hP : va_P D vwCl [((q 200), .inr (12, [.ref (q 201), .ref (q 202), .int 0, .long 0, .long 1, .ref (q 203), .ref (q 204), .ref (q 205), .ref (q 206), .ref (q 207), .int 0, .int 0, .int 0, .int 0, .int 0, .int 0, .int (-1), .int (-1), .int 0, .int 0, .int 0, .ref (q 208), .int 0, .int 0, .ref (q 209), .ref (q 210), .ref (q 211), .ref (q 212), .ref (q 213), .int 0, .int 0, .ref (q 214), .ref (q 215), .ref (q 216), .int 0, .int 0]))] H := hP
  have hD : va_D A [((q 200), .inr (12, [.ref (q 201), .ref (q 202), .int 0, .long 0, .long 1, .ref (q 203), .ref (q 204), .ref (q 205), .ref (q 206), .ref (q 207), .int 0, .int 0, .int 0, .int 0, .int 0, .int 0, .int (-1), .int (-1), .int 0, .int 0, .int 0, .ref (q 208), .int 0, .int 0, .ref (q 209), .ref (q 210), .ref (q 211), .ref (q 212), .ref (q 213), .int 0, .int 0, .ref (q 214), .ref (q 215), .ref (q 216), .int 0, .int 0]))] := hD
  refine lv_aload_n hx hb dX12_begins_69 rfl (lv_at hl 1 rfl) ?_
  refine lv_iconst (v := 0) hx hb dX12_begins_70 (by decide) ?_
  refine va_put (D := D) (ci := 12) (v := .int 0) (ty := .int) (C := RX12) (T := TX12) (N := 36) hx hb hts iX12 tyX12 tyX12_ok nmX12 hown hK hP hD hS 0 rfl rfl 19 (by decide) (hts _ qf_X12_155) (fun _ h => h) rfl (by decide +kernel) rfl rfl (Nat.le_of_ble_eq_true rfl) dX12_begins_71 (fun H locs hP hD hS => ?_)
  have hP : va_P D vwCl [((q 200), .inr (12, [.ref (q 201), .ref (q 202), .int 0, .long 0, .long 1, .ref (q 203), .ref (q 204), .ref (q 205), .ref (q 206), .ref (q 207), .int 0, .int 0, .int 0, .int 0, .int 0, .int 0, .int (-1), .int (-1), .int 0, .int 0, .int 0, .ref (q 208), .int 0, .int 0, .ref (q 209), .ref (q 210), .ref (q 211), .ref (q 212), .ref (q 213), .int 0, .int 0, .ref (q 214), .ref (q 215), .ref (q 216), .int 0, .int 0]))] H := hP
  have hD : va_D A [((q 200), .inr (12, [.ref (q 201), .ref (q 202), .int 0, .long 0, .long 1, .ref (q 203), .ref (q 204), .ref (q 205), .ref (q 206), .ref (q 207), .int 0, .int 0, .int 0, .int 0, .int 0, .int 0, .int (-1), .int (-1), .int 0, .int 0, .int 0, .ref (q 208), .int 0, .int 0, .ref (q 209), .ref (q 210), .ref (q 211), .ref (q 212), .ref (q 213), .int 0, .int 0, .ref (q 214), .ref (q 215), .ref (q 216), .int 0, .int 0]))] := hD
  refine lv_aload_n hx hb dX12_begins_74 rfl (lv_at hl 1 rfl) ?_
  refine CWV (As := []) (rest := []) (wc := [((q 200), .inr (12, [.ref (q 201), .ref (q 202), .int 0, .long 0, .long 1, .ref (q 203), .ref (q 204), .ref (q 205), .ref (q 206), .ref (q 207), .int 0, .int 0, .int 0, .int 0, .int 0, .int 0, .int (-1), .int (-1), .int 0, .int 0, .int 0, .ref (q 208), .int 0, .int 0, .ref (q 209), .ref (q 210), .ref (q 211), .ref (q 212), .ref (q 213), .int 0, .int 0, .ref (q 214), .ref (q 215), .ref (q 216), .int 0, .int 0]))]) (wr := []) hx hb hml hown hts hKK hP hD hS hA (m_onward l D k q) ci_X12_onward qm_X12_158 ⟨Nat.le_of_ble_eq_true rfl, Nat.le_of_ble_eq_true rfl⟩ ⟨Nat.le_of_ble_eq_true rfl, Nat.le_of_ble_eq_true rfl⟩ [0] [] rfl rfl rfl rfl rfl (by decide) 0 rfl rfl rfl hl.1 rfl (Nat.le_of_ble_eq_true rfl) dX12_begins_75 (fun u_1 H locs hφ hP hD hS => ?_)
  have hP : va_P D vwCl [((q 200), .inr (12, [.ref (q 201), .ref (q 202), .int 0, .long 0, .long 1, .ref (q 203), .ref (q 204), .ref (q 205), .ref (q 206), .ref (q 207), .int 0, .int 0, .int 0, .int 0, .int 0, .int (-1), .int (-1), .int (-1), .int 0, .int 0, .int 0, .ref (q 208), .int 0, .int 0, .ref (q 209), .ref (q 210), .ref (q 211), .ref (q 212), .ref (q 213), .int 0, .int 0, .ref (q 214), .ref (q 215), .ref (q 216), .int 0, .int 0]))] H := hP
  have hD : va_D A [((q 200), .inr (12, [.ref (q 201), .ref (q 202), .int 0, .long 0, .long 1, .ref (q 203), .ref (q 204), .ref (q 205), .ref (q 206), .ref (q 207), .int 0, .int 0, .int 0, .int 0, .int 0, .int (-1), .int (-1), .int (-1), .int 0, .int 0, .int 0, .ref (q 208), .int 0, .int 0, .ref (q 209), .ref (q 210), .ref (q 211), .ref (q 212), .ref (q 213), .int 0, .int 0, .ref (q 214), .ref (q 215), .ref (q 216), .int 0, .int 0]))] := hD
  refine W.eq (g2 := F0 m 78 ls []) rfl ?_
  refine lv_iconst (v := 1) hx hb dX12_begins_78 (by decide) ?_
  exact EWz hx hb hr hlocks hS () rfl rfl trivial (hP.sub (ws' := [((q 200), .inr (12, [.ref (q 201), .ref (q 202), .int 0, .long 0, .long 1, .ref (q 203), .ref (q 204), .ref (q 205), .ref (q 206), .ref (q 207), .int 0, .int 0, .int 0, .int 0, .int 0, .int (-1), .int (-1), .int (-1), .int 0, .int 0, .int 0, .ref (q 208), .int 0, .int 0, .ref (q 209), .ref (q 210), .ref (q 211), .ref (q 212), .ref (q 213), .int 0, .int 0, .ref (q 214), .ref (q 215), .ref (q 216), .int 0, .int 0]))]) [0] rfl) (hD.sub (ws' := [((q 200), .inr (12, [.ref (q 201), .ref (q 202), .int 0, .long 0, .long 1, .ref (q 203), .ref (q 204), .ref (q 205), .ref (q 206), .ref (q 207), .int 0, .int 0, .int 0, .int 0, .int 0, .int (-1), .int (-1), .int (-1), .int 0, .int 0, .int 0, .ref (q 208), .int 0, .int 0, .ref (q 209), .ref (q 210), .ref (q 211), .ref (q 212), .ref (q 213), .int 0, .int 0, .ref (q 214), .ref (q 215), .ref (q 216), .int 0, .int 0]))]) [0] rfl rfl) dX12_begins_79
set_option maxHeartbeats 4000000 in
set_option maxRecDepth 100000 in
theorem m_begins300 (l : Launch) (D : va_G) (k : Nat → ClassId) (q : Nat → Nat) : WD (σ := Unit) l yX12_begins cX12_begins 4 (some .boolean) 2 0 0 D k [.ref (q 200), .int 0, .int 300] [((q 200), .inr (12, [.ref (q 201), .ref (q 202), .int 0, .long 0, .long 1, .ref (q 203), .ref (q 204), .ref (q 205), .ref (q 206), .ref (q 207), .int 0, .int 0, .int 0, .int 0, .int 0, .int 0, .int (-1), .int (-1), .int 0, .int 0, .int 0, .ref (q 208), .int 0, .int 0, .ref (q 209), .ref (q 210), .ref (q 211), .ref (q 212), .ref (q 213), .int 0, .int 0, .ref (q 214), .ref (q 215), .ref (q 216), .int 0, .int 0]))] (fun _ => some (.int 1)) (fun _ => True) (fun _ => [((q 200), .inr (12, [.ref (q 201), .ref (q 202), .int 0, .long 0, .long 1, .ref (q 203), .ref (q 204), .ref (q 205), .ref (q 206), .ref (q 207), .int 0, .int 0, .int 0, .int 0, .int 0, .int (-1), .int (-1), .int (-1), .int 0, .int 0, .int 0, .ref (q 208), .int 0, .int 0, .ref (q 209), .ref (q 210), .ref (q 211), .ref (q 212), .ref (q 213), .int 0, .int 0, .ref (q 214), .ref (q 215), .ref (q 216), .int 0, .int 0]))]) := by
  refine MW (by decide) (Nat.le_of_ble_eq_true rfl) (fun p e s m below meth c ls A hx hb hml hr hlocks hin hts hown hKK hP hD hS hA hl => ?_)
  have hK := hKK.1
  have hl : lv_has ls 4 [(0, .ref (q 200)), (1, .int 0), (2, .int 300)] := hl
  refine lv_iload_n hx hb dX12_begins_0 rfl (lv_at hl 1 rfl) ?_
  refine lv_if_lt (tgt := 17) hx hb dX12_begins_1 (by decide) (fun c => absurd c (by decide)) (fun _ => ?_)
  refine lv_iload_n hx hb dX12_begins_4 rfl (lv_at hl 1 rfl) ?_
  refine lv_aload_n hx hb dX12_begins_5 rfl (lv_at hl 0 rfl) ?_
  refine va_get (D := D) (ci := 12) (v := .int 0) (C := RX12) (T := TX12) (N := 36) hx hb hts iX12 hown hK hP 0 rfl rfl 10 (by decide) (hts _ qf_X12_106) (fun _ h => h) rfl dX12_begins_6 ?_
  refine lv_icmp_gt (tgt := 17) hx hb dX12_begins_9 (by decide) (fun c => absurd c (by decide)) (fun _ => ?_)
  refine lv_iload_n hx hb dX12_begins_12 rfl (lv_at hl 1 rfl) ?_
  refine lv_iload_n hx hb dX12_begins_13 rfl (lv_at hl 2 rfl) ?_
  refine lv_icmp_le (tgt := 19) hx hb dX12_begins_14 (by decide) (fun _ => ?_) (fun c => absurd (by decide) c)
  refine lv_aload_n hx hb dX12_begins_19 rfl (lv_at hl 0 rfl) ?_
  refine lv_iload_n hx hb dX12_begins_20 rfl (lv_at hl 1 rfl) ?_
  refine va_put (D := D) (ci := 12) (v := .int 0) (ty := .int) (C := RX12) (T := TX12) (N := 36) hx hb hts iX12 tyX12 tyX12_ok nmX12 hown hK hP hD hS 0 rfl rfl 11 (by decide) (hts _ qf_X12_112) (fun _ h => h) rfl (by decide +kernel) rfl rfl (Nat.le_of_ble_eq_true rfl) dX12_begins_21 (fun H locs hP hD hS => ?_)
  have hP : va_P D vwCl [((q 200), .inr (12, [.ref (q 201), .ref (q 202), .int 0, .long 0, .long 1, .ref (q 203), .ref (q 204), .ref (q 205), .ref (q 206), .ref (q 207), .int 0, .int 0, .int 0, .int 0, .int 0, .int 0, .int (-1), .int (-1), .int 0, .int 0, .int 0, .ref (q 208), .int 0, .int 0, .ref (q 209), .ref (q 210), .ref (q 211), .ref (q 212), .ref (q 213), .int 0, .int 0, .ref (q 214), .ref (q 215), .ref (q 216), .int 0, .int 0]))] H := hP
  have hD : va_D A [((q 200), .inr (12, [.ref (q 201), .ref (q 202), .int 0, .long 0, .long 1, .ref (q 203), .ref (q 204), .ref (q 205), .ref (q 206), .ref (q 207), .int 0, .int 0, .int 0, .int 0, .int 0, .int 0, .int (-1), .int (-1), .int 0, .int 0, .int 0, .ref (q 208), .int 0, .int 0, .ref (q 209), .ref (q 210), .ref (q 211), .ref (q 212), .ref (q 213), .int 0, .int 0, .ref (q 214), .ref (q 215), .ref (q 216), .int 0, .int 0]))] := hD
  refine lv_iconst (v := 0) hx hb dX12_begins_24 (by decide) ?_
  refine lv_istore_n (lv' := [(3, .int 0), (0, .ref (q 200)), (1, .int 0), (2, .int 300)]) hx hb dX12_begins_25 rfl hl (by decide) rfl (fun ls hl => ?_)
  refine lv_iload_n hx hb dX12_begins_26 rfl (lv_at hl 0 rfl) ?_
  refine lv_iload_n hx hb dX12_begins_27 rfl (lv_at hl 2 rfl) ?_
  refine lv_icmp_ge (tgt := 49) hx hb dX12_begins_28 (by decide) (fun _ => ?_) (fun c => absurd (by decide) c)
  refine lv_aload_n hx hb dX12_begins_49 rfl (lv_at hl 1 rfl) ?_
  refine lv_iconst (v := 0) hx hb dX12_begins_50 (by decide) ?_
  refine va_put (D := D) (ci := 12) (v := .int 0) (ty := .int) (C := RX12) (T := TX12) (N := 36) hx hb hts iX12 tyX12 tyX12_ok nmX12 hown hK hP hD hS 0 rfl rfl 10 (by decide) (hts _ qf_X12_106) (fun _ h => h) rfl (by decide +kernel) rfl rfl (Nat.le_of_ble_eq_true rfl) dX12_begins_51 (fun H locs hP hD hS => ?_)
  have hP : va_P D vwCl [((q 200), .inr (12, [.ref (q 201), .ref (q 202), .int 0, .long 0, .long 1, .ref (q 203), .ref (q 204), .ref (q 205), .ref (q 206), .ref (q 207), .int 0, .int 0, .int 0, .int 0, .int 0, .int 0, .int (-1), .int (-1), .int 0, .int 0, .int 0, .ref (q 208), .int 0, .int 0, .ref (q 209), .ref (q 210), .ref (q 211), .ref (q 212), .ref (q 213), .int 0, .int 0, .ref (q 214), .ref (q 215), .ref (q 216), .int 0, .int 0]))] H := hP
  have hD : va_D A [((q 200), .inr (12, [.ref (q 201), .ref (q 202), .int 0, .long 0, .long 1, .ref (q 203), .ref (q 204), .ref (q 205), .ref (q 206), .ref (q 207), .int 0, .int 0, .int 0, .int 0, .int 0, .int 0, .int (-1), .int (-1), .int 0, .int 0, .int 0, .ref (q 208), .int 0, .int 0, .ref (q 209), .ref (q 210), .ref (q 211), .ref (q 212), .ref (q 213), .int 0, .int 0, .ref (q 214), .ref (q 215), .ref (q 216), .int 0, .int 0]))] := hD
  refine lv_aload_n hx hb dX12_begins_54 rfl (lv_at hl 1 rfl) ?_
  refine lv_iconst (v := 0) hx hb dX12_begins_55 (by decide) ?_
  refine va_put (D := D) (ci := 12) (v := .int 0) (ty := .int) (C := RX12) (T := TX12) (N := 36) hx hb hts iX12 tyX12 tyX12_ok nmX12 hown hK hP hD hS 0 rfl rfl 18 (by decide) (hts _ qf_X12_152) (fun _ h => h) rfl (by decide +kernel) rfl rfl (Nat.le_of_ble_eq_true rfl) dX12_begins_56 (fun H locs hP hD hS => ?_)
  have hP : va_P D vwCl [((q 200), .inr (12, [.ref (q 201), .ref (q 202), .int 0, .long 0, .long 1, .ref (q 203), .ref (q 204), .ref (q 205), .ref (q 206), .ref (q 207), .int 0, .int 0, .int 0, .int 0, .int 0, .int 0, .int (-1), .int (-1), .int 0, .int 0, .int 0, .ref (q 208), .int 0, .int 0, .ref (q 209), .ref (q 210), .ref (q 211), .ref (q 212), .ref (q 213), .int 0, .int 0, .ref (q 214), .ref (q 215), .ref (q 216), .int 0, .int 0]))] H := hP
  have hD : va_D A [((q 200), .inr (12, [.ref (q 201), .ref (q 202), .int 0, .long 0, .long 1, .ref (q 203), .ref (q 204), .ref (q 205), .ref (q 206), .ref (q 207), .int 0, .int 0, .int 0, .int 0, .int 0, .int 0, .int (-1), .int (-1), .int 0, .int 0, .int 0, .ref (q 208), .int 0, .int 0, .ref (q 209), .ref (q 210), .ref (q 211), .ref (q 212), .ref (q 213), .int 0, .int 0, .ref (q 214), .ref (q 215), .ref (q 216), .int 0, .int 0]))] := hD
  refine lv_aload_n hx hb dX12_begins_59 rfl (lv_at hl 1 rfl) ?_
  refine lv_iconst (v := (-1)) hx hb dX12_begins_60 (by decide) ?_
  refine va_put (D := D) (ci := 12) (v := .int (-1)) (ty := .int) (C := RX12) (T := TX12) (N := 36) hx hb hts iX12 tyX12 tyX12_ok nmX12 hown hK hP hD hS 0 rfl rfl 17 (by decide) (hts _ qf_X12_41) (fun _ h => h) rfl (by decide +kernel) rfl rfl (Nat.le_of_ble_eq_true rfl) dX12_begins_61 (fun H locs hP hD hS => ?_)
  have hP : va_P D vwCl [((q 200), .inr (12, [.ref (q 201), .ref (q 202), .int 0, .long 0, .long 1, .ref (q 203), .ref (q 204), .ref (q 205), .ref (q 206), .ref (q 207), .int 0, .int 0, .int 0, .int 0, .int 0, .int 0, .int (-1), .int (-1), .int 0, .int 0, .int 0, .ref (q 208), .int 0, .int 0, .ref (q 209), .ref (q 210), .ref (q 211), .ref (q 212), .ref (q 213), .int 0, .int 0, .ref (q 214), .ref (q 215), .ref (q 216), .int 0, .int 0]))] H := hP
  have hD : va_D A [((q 200), .inr (12, [.ref (q 201), .ref (q 202), .int 0, .long 0, .long 1, .ref (q 203), .ref (q 204), .ref (q 205), .ref (q 206), .ref (q 207), .int 0, .int 0, .int 0, .int 0, .int 0, .int 0, .int (-1), .int (-1), .int 0, .int 0, .int 0, .ref (q 208), .int 0, .int 0, .ref (q 209), .ref (q 210), .ref (q 211), .ref (q 212), .ref (q 213), .int 0, .int 0, .ref (q 214), .ref (q 215), .ref (q 216), .int 0, .int 0]))] := hD
  refine lv_aload_n hx hb dX12_begins_64 rfl (lv_at hl 1 rfl) ?_
  refine lv_iconst (v := 0) hx hb dX12_begins_65 (by decide) ?_
  refine va_put (D := D) (ci := 12) (v := .int 0) (ty := .int) (C := RX12) (T := TX12) (N := 36) hx hb hts iX12 tyX12 tyX12_ok nmX12 hown hK hP hD hS 0 rfl rfl 14 (by decide) (hts _ qf_X12_115) (fun _ h => h) rfl (by decide +kernel) rfl rfl (Nat.le_of_ble_eq_true rfl) dX12_begins_66 (fun H locs hP hD hS => ?_)
  have hP : va_P D vwCl [((q 200), .inr (12, [.ref (q 201), .ref (q 202), .int 0, .long 0, .long 1, .ref (q 203), .ref (q 204), .ref (q 205), .ref (q 206), .ref (q 207), .int 0, .int 0, .int 0, .int 0, .int 0, .int 0, .int (-1), .int (-1), .int 0, .int 0, .int 0, .ref (q 208), .int 0, .int 0, .ref (q 209), .ref (q 210), .ref (q 211), .ref (q 212), .ref (q 213), .int 0, .int 0, .ref (q 214), .ref (q 215), .ref (q 216), .int 0, .int 0]))] H := hP
  have hD : va_D A [((q 200), .inr (12, [.ref (q 201), .ref (q 202), .int 0, .long 0, .long 1, .ref (q 203), .ref (q 204), .ref (q 205), .ref (q 206), .ref (q 207), .int 0, .int 0, .int 0, .int 0, .int 0, .int 0, .int (-1), .int (-1), .int 0, .int 0, .int 0, .ref (q 208), .int 0, .int 0, .ref (q 209), .ref (q 210), .ref (q 211), .ref (q 212), .ref (q 213), .int 0, .int 0, .ref (q 214), .ref (q 215), .ref (q 216), .int 0, .int 0]))] := hD
  refine lv_aload_n hx hb dX12_begins_69 rfl (lv_at hl 1 rfl) ?_
  refine lv_iconst (v := 0) hx hb dX12_begins_70 (by decide) ?_
  refine va_put (D := D) (ci := 12) (v := .int 0) (ty := .int) (C := RX12) (T := TX12) (N := 36) hx hb hts iX12 tyX12 tyX12_ok nmX12 hown hK hP hD hS 0 rfl rfl 19 (by decide) (hts _ qf_X12_155) (fun _ h => h) rfl (by decide +kernel) rfl rfl (Nat.le_of_ble_eq_true rfl) dX12_begins_71 (fun H locs hP hD hS => ?_)
  have hP : va_P D vwCl [((q 200), .inr (12, [.ref (q 201), .ref (q 202), .int 0, .long 0, .long 1, .ref (q 203), .ref (q 204), .ref (q 205), .ref (q 206), .ref (q 207), .int 0, .int 0, .int 0, .int 0, .int 0, .int 0, .int (-1), .int (-1), .int 0, .int 0, .int 0, .ref (q 208), .int 0, .int 0, .ref (q 209), .ref (q 210), .ref (q 211), .ref (q 212), .ref (q 213), .int 0, .int 0, .ref (q 214), .ref (q 215), .ref (q 216), .int 0, .int 0]))] H := hP
  have hD : va_D A [((q 200), .inr (12, [.ref (q 201), .ref (q 202), .int 0, .long 0, .long 1, .ref (q 203), .ref (q 204), .ref (q 205), .ref (q 206), .ref (q 207), .int 0, .int 0, .int 0, .int 0, .int 0, .int 0, .int (-1), .int (-1), .int 0, .int 0, .int 0, .ref (q 208), .int 0, .int 0, .ref (q 209), .ref (q 210), .ref (q 211), .ref (q 212), .ref (q 213), .int 0, .int 0, .ref (q 214), .ref (q 215), .ref (q 216), .int 0, .int 0]))] := hD
  refine lv_aload_n hx hb dX12_begins_74 rfl (lv_at hl 1 rfl) ?_
  refine CWV (As := []) (rest := []) (wc := [((q 200), .inr (12, [.ref (q 201), .ref (q 202), .int 0, .long 0, .long 1, .ref (q 203), .ref (q 204), .ref (q 205), .ref (q 206), .ref (q 207), .int 0, .int 0, .int 0, .int 0, .int 0, .int 0, .int (-1), .int (-1), .int 0, .int 0, .int 0, .ref (q 208), .int 0, .int 0, .ref (q 209), .ref (q 210), .ref (q 211), .ref (q 212), .ref (q 213), .int 0, .int 0, .ref (q 214), .ref (q 215), .ref (q 216), .int 0, .int 0]))]) (wr := []) hx hb hml hown hts hKK hP hD hS hA (m_onward l D k q) ci_X12_onward qm_X12_158 ⟨Nat.le_of_ble_eq_true rfl, Nat.le_of_ble_eq_true rfl⟩ ⟨Nat.le_of_ble_eq_true rfl, Nat.le_of_ble_eq_true rfl⟩ [0] [] rfl rfl rfl rfl rfl (by decide) 0 rfl rfl rfl hl.1 rfl (Nat.le_of_ble_eq_true rfl) dX12_begins_75 (fun u_1 H locs hφ hP hD hS => ?_)
  have hP : va_P D vwCl [((q 200), .inr (12, [.ref (q 201), .ref (q 202), .int 0, .long 0, .long 1, .ref (q 203), .ref (q 204), .ref (q 205), .ref (q 206), .ref (q 207), .int 0, .int 0, .int 0, .int 0, .int 0, .int (-1), .int (-1), .int (-1), .int 0, .int 0, .int 0, .ref (q 208), .int 0, .int 0, .ref (q 209), .ref (q 210), .ref (q 211), .ref (q 212), .ref (q 213), .int 0, .int 0, .ref (q 214), .ref (q 215), .ref (q 216), .int 0, .int 0]))] H := hP
  have hD : va_D A [((q 200), .inr (12, [.ref (q 201), .ref (q 202), .int 0, .long 0, .long 1, .ref (q 203), .ref (q 204), .ref (q 205), .ref (q 206), .ref (q 207), .int 0, .int 0, .int 0, .int 0, .int 0, .int (-1), .int (-1), .int (-1), .int 0, .int 0, .int 0, .ref (q 208), .int 0, .int 0, .ref (q 209), .ref (q 210), .ref (q 211), .ref (q 212), .ref (q 213), .int 0, .int 0, .ref (q 214), .ref (q 215), .ref (q 216), .int 0, .int 0]))] := hD
  refine W.eq (g2 := F0 m 78 ls []) rfl ?_
  refine lv_iconst (v := 1) hx hb dX12_begins_78 (by decide) ?_
  exact EWz hx hb hr hlocks hS () rfl rfl trivial (hP.sub (ws' := [((q 200), .inr (12, [.ref (q 201), .ref (q 202), .int 0, .long 0, .long 1, .ref (q 203), .ref (q 204), .ref (q 205), .ref (q 206), .ref (q 207), .int 0, .int 0, .int 0, .int 0, .int 0, .int (-1), .int (-1), .int (-1), .int 0, .int 0, .int 0, .ref (q 208), .int 0, .int 0, .ref (q 209), .ref (q 210), .ref (q 211), .ref (q 212), .ref (q 213), .int 0, .int 0, .ref (q 214), .ref (q 215), .ref (q 216), .int 0, .int 0]))]) [0] rfl) (hD.sub (ws' := [((q 200), .inr (12, [.ref (q 201), .ref (q 202), .int 0, .long 0, .long 1, .ref (q 203), .ref (q 204), .ref (q 205), .ref (q 206), .ref (q 207), .int 0, .int 0, .int 0, .int 0, .int 0, .int (-1), .int (-1), .int (-1), .int 0, .int 0, .int 0, .ref (q 208), .int 0, .int 0, .ref (q 209), .ref (q 210), .ref (q 211), .ref (q 212), .ref (q 213), .int 0, .int 0, .ref (q 214), .ref (q 215), .ref (q 216), .int 0, .int 0]))]) [0] rfl rfl) dX12_begins_79
set_option maxHeartbeats 4000000 in
set_option maxRecDepth 100000 in
theorem m_beginsN900 (l : Launch) (D : va_G) (k : Nat → ClassId) (q : Nat → Nat) (a : Int32) (ha : ¬ a = 0) : WD (σ := Unit) l yX12_begins cX12_begins 4 (some .boolean) 2 0 0 D k [.ref (q 200), .int a, .int 900] [((q 200), .inr (12, [.ref (q 201), .ref (q 202), .int 0, .long 0, .long 1, .ref (q 203), .ref (q 204), .ref (q 205), .ref (q 206), .ref (q 207), .int 0, .int 0, .int 0, .int 0, .int 0, .int 0, .int (-1), .int (-1), .int 0, .int 0, .int 0, .ref (q 208), .int 0, .int 0, .ref (q 209), .ref (q 210), .ref (q 211), .ref (q 212), .ref (q 213), .int 0, .int 0, .ref (q 214), .ref (q 215), .ref (q 216), .int 0, .int 0]))] (fun _ => some (.int 0)) (fun _ => True) (fun _ => [((q 200), .inr (12, [.ref (q 201), .ref (q 202), .int 0, .long 0, .long 1, .ref (q 203), .ref (q 204), .ref (q 205), .ref (q 206), .ref (q 207), .int 0, .int 0, .int 0, .int 0, .int 0, .int 0, .int (-1), .int (-1), .int 0, .int 0, .int 0, .ref (q 208), .int 0, .int 0, .ref (q 209), .ref (q 210), .ref (q 211), .ref (q 212), .ref (q 213), .int 0, .int 0, .ref (q 214), .ref (q 215), .ref (q 216), .int 0, .int 0]))]) := by
  refine MW (by decide) (Nat.le_of_ble_eq_true rfl) (fun p e s m below meth c ls A hx hb hml hr hlocks hin hts hown hKK hP hD hS hA hl => ?_)
  have hK := hKK.1
  have hl : lv_has ls 4 [(0, .ref (q 200)), (1, .int a), (2, .int 900)] := hl
  refine lv_iload_n hx hb dX12_begins_0 rfl (lv_at hl 1 rfl) ?_
  refine lv_if_lt (tgt := 17) hx hb dX12_begins_1 (by decide) (fun c_1 => ?_) (fun c_1 => ?_)
  ·
    refine lv_iconst (v := 0) hx hb dX12_begins_17 (by decide) ?_
    exact EWz hx hb hr hlocks hS () rfl rfl trivial hP hD dX12_begins_18
  ·
    refine lv_iload_n hx hb dX12_begins_4 rfl (lv_at hl 1 rfl) ?_
    refine lv_aload_n hx hb dX12_begins_5 rfl (lv_at hl 0 rfl) ?_
    refine va_get (D := D) (ci := 12) (v := .int 0) (C := RX12) (T := TX12) (N := 36) hx hb hts iX12 hown hK hP 0 rfl rfl 10 (by decide) (hts _ qf_X12_106) (fun _ h => h) rfl dX12_begins_6 ?_
    refine lv_icmp_gt (tgt := 17) hx hb dX12_begins_9 (by decide) (fun c_2 => ?_) (fun c_2 => ?_)
    ·
      refine lv_iconst (v := 0) hx hb dX12_begins_17 (by decide) ?_
      exact EWz hx hb hr hlocks hS () rfl rfl trivial hP hD dX12_begins_18
    ·
      exact absurd (Int32.le_antisymm (Int32.not_lt.mp c_2) (Int32.not_lt.mp c_1)) ha
set_option maxHeartbeats 4000000 in
set_option maxRecDepth 100000 in
theorem m_beginsN300 (l : Launch) (D : va_G) (k : Nat → ClassId) (q : Nat → Nat) (a : Int32) (ha : ¬ a = 0) : WD (σ := Unit) l yX12_begins cX12_begins 4 (some .boolean) 2 0 0 D k [.ref (q 200), .int a, .int 300] [((q 200), .inr (12, [.ref (q 201), .ref (q 202), .int 0, .long 0, .long 1, .ref (q 203), .ref (q 204), .ref (q 205), .ref (q 206), .ref (q 207), .int 0, .int 0, .int 0, .int 0, .int 0, .int 0, .int (-1), .int (-1), .int 0, .int 0, .int 0, .ref (q 208), .int 0, .int 0, .ref (q 209), .ref (q 210), .ref (q 211), .ref (q 212), .ref (q 213), .int 0, .int 0, .ref (q 214), .ref (q 215), .ref (q 216), .int 0, .int 0]))] (fun _ => some (.int 0)) (fun _ => True) (fun _ => [((q 200), .inr (12, [.ref (q 201), .ref (q 202), .int 0, .long 0, .long 1, .ref (q 203), .ref (q 204), .ref (q 205), .ref (q 206), .ref (q 207), .int 0, .int 0, .int 0, .int 0, .int 0, .int 0, .int (-1), .int (-1), .int 0, .int 0, .int 0, .ref (q 208), .int 0, .int 0, .ref (q 209), .ref (q 210), .ref (q 211), .ref (q 212), .ref (q 213), .int 0, .int 0, .ref (q 214), .ref (q 215), .ref (q 216), .int 0, .int 0]))]) := by
  refine MW (by decide) (Nat.le_of_ble_eq_true rfl) (fun p e s m below meth c ls A hx hb hml hr hlocks hin hts hown hKK hP hD hS hA hl => ?_)
  have hK := hKK.1
  have hl : lv_has ls 4 [(0, .ref (q 200)), (1, .int a), (2, .int 300)] := hl
  refine lv_iload_n hx hb dX12_begins_0 rfl (lv_at hl 1 rfl) ?_
  refine lv_if_lt (tgt := 17) hx hb dX12_begins_1 (by decide) (fun c_1 => ?_) (fun c_1 => ?_)
  ·
    refine lv_iconst (v := 0) hx hb dX12_begins_17 (by decide) ?_
    exact EWz hx hb hr hlocks hS () rfl rfl trivial hP hD dX12_begins_18
  ·
    refine lv_iload_n hx hb dX12_begins_4 rfl (lv_at hl 1 rfl) ?_
    refine lv_aload_n hx hb dX12_begins_5 rfl (lv_at hl 0 rfl) ?_
    refine va_get (D := D) (ci := 12) (v := .int 0) (C := RX12) (T := TX12) (N := 36) hx hb hts iX12 hown hK hP 0 rfl rfl 10 (by decide) (hts _ qf_X12_106) (fun _ h => h) rfl dX12_begins_6 ?_
    refine lv_icmp_gt (tgt := 17) hx hb dX12_begins_9 (by decide) (fun c_2 => ?_) (fun c_2 => ?_)
    ·
      refine lv_iconst (v := 0) hx hb dX12_begins_17 (by decide) ?_
      exact EWz hx hb hr hlocks hS () rfl rfl trivial hP hD dX12_begins_18
    ·
      exact absurd (Int32.le_antisymm (Int32.not_lt.mp c_2) (Int32.not_lt.mp c_1)) ha
set_option maxHeartbeats 4000000 in
set_option maxRecDepth 100000 in
theorem m_taken0 (l : Launch) (D : va_G) (k : Nat → ClassId) (q : Nat → Nat) : WD (σ := Unit) l yX12_taken cX12_taken 2 (some .int) 1 0 0 D k [.ref (q 200), .int 0] [((q 200), .inr (12, [.ref (q 201), .ref (q 202), .int 0, .long 0, .long 1, .ref (q 203), .ref (q 204), .ref (q 205), .ref (q 206), .ref (q 207), .int 0, .int 0, .int 0, .int 0, .int 0, .int (-1), .int (-1), .int (-1), .int 0, .int 0, .int 0, .ref (q 208), .int 0, .int 0, .ref (q 209), .ref (q 210), .ref (q 211), .ref (q 212), .ref (q 213), .int 0, .int 0, .ref (q 214), .ref (q 215), .ref (q 216), .int 0, .int 0]))] (fun _ => some (.int 0)) (fun _ => True) (fun _ => []) := by
  refine MW (by decide) (Nat.le_of_ble_eq_true rfl) (fun p e s m below meth c ls A hx hb hml hr hlocks hin hts hown hKK hP hD hS hA hl => ?_)
  have hK := hKK.1
  have hl : lv_has ls 2 [(0, .ref (q 200)), (1, .int 0)] := hl
  refine lv_aload_n hx hb dX12_taken_0 rfl (lv_at hl 0 rfl) ?_
  refine lv_aload_n hx hb dX12_taken_1 rfl (lv_at hl 0 rfl) ?_
  refine va_get (D := D) (ci := 12) (v := .int 0) (C := RX12) (T := TX12) (N := 36) hx hb hts iX12 hown hK hP 0 rfl rfl 18 (by decide) (hts _ qf_X12_152) (fun _ h => h) rfl dX12_taken_2 ?_
  refine va_put (D := D) (ci := 12) (v := .int 0) (ty := .int) (C := RX12) (T := TX12) (N := 36) hx hb hts iX12 tyX12 tyX12_ok nmX12 hown hK hP hD hS 0 rfl rfl 16 (by decide) (hts _ qf_X12_37) (fun _ h => h) rfl (by decide +kernel) rfl rfl (Nat.le_of_ble_eq_true rfl) dX12_taken_5 (fun H locs hP hD hS => ?_)
  have hP : va_P D vwCl [((q 200), .inr (12, [.ref (q 201), .ref (q 202), .int 0, .long 0, .long 1, .ref (q 203), .ref (q 204), .ref (q 205), .ref (q 206), .ref (q 207), .int 0, .int 0, .int 0, .int 0, .int 0, .int (-1), .int 0, .int (-1), .int 0, .int 0, .int 0, .ref (q 208), .int 0, .int 0, .ref (q 209), .ref (q 210), .ref (q 211), .ref (q 212), .ref (q 213), .int 0, .int 0, .ref (q 214), .ref (q 215), .ref (q 216), .int 0, .int 0]))] H := hP
  have hD : va_D A [((q 200), .inr (12, [.ref (q 201), .ref (q 202), .int 0, .long 0, .long 1, .ref (q 203), .ref (q 204), .ref (q 205), .ref (q 206), .ref (q 207), .int 0, .int 0, .int 0, .int 0, .int 0, .int (-1), .int 0, .int (-1), .int 0, .int 0, .int 0, .ref (q 208), .int 0, .int 0, .ref (q 209), .ref (q 210), .ref (q 211), .ref (q 212), .ref (q 213), .int 0, .int 0, .ref (q 214), .ref (q 215), .ref (q 216), .int 0, .int 0]))] := hD
  refine lv_aload_n hx hb dX12_taken_8 rfl (lv_at hl 0 rfl) ?_
  refine va_get (D := D) (ci := 12) (v := .int 0) (C := RX12) (T := TX12) (N := 36) hx hb hts iX12 hown hK hP 0 rfl rfl 18 (by decide) (hts _ qf_X12_152) (fun _ h => h) rfl dX12_taken_9 ?_
  refine lv_if_le (tgt := 24) hx hb dX12_taken_12 (by decide) (fun _ => ?_) (fun c => absurd (by decide) c)
  refine lv_aload_n hx hb dX12_taken_24 rfl (lv_at hl 0 rfl) ?_
  refine lv_iload_n hx hb dX12_taken_25 rfl (lv_at hl 1 rfl) ?_
  refine CWV (As := [.int 0]) (rest := []) (wc := [((q 200), .inr (12, [.ref (q 201), .ref (q 202), .int 0, .long 0, .long 1, .ref (q 203), .ref (q 204), .ref (q 205), .ref (q 206), .ref (q 207), .int 0, .int 0, .int 0, .int 0, .int 0, .int (-1), .int 0, .int (-1), .int 0, .int 0, .int 0, .ref (q 208), .int 0, .int 0, .ref (q 209), .ref (q 210), .ref (q 211), .ref (q 212), .ref (q 213), .int 0, .int 0, .ref (q 214), .ref (q 215), .ref (q 216), .int 0, .int 0]))]) (wr := []) hx hb hml hown hts hKK hP hD hS hA (m_gives l D k (q 200) [.ref (q 201), .ref (q 202), .int 0, .long 0, .long 1, .ref (q 203), .ref (q 204), .ref (q 205), .ref (q 206), .ref (q 207), .int 0, .int 0, .int 0, .int 0, .int 0, .int (-1), .int 0, .int (-1), .int 0, .int 0, .int 0, .ref (q 208), .int 0, .int 0, .ref (q 209), .ref (q 210), .ref (q 211), .ref (q 212), .ref (q 213), .int 0, .int 0, .ref (q 214), .ref (q 215), .ref (q 216), .int 0, .int 0] (Nat.le_of_ble_eq_true rfl) 0) ci_X12_gives qm_X12_85 ⟨Nat.le_of_ble_eq_true rfl, Nat.le_of_ble_eq_true rfl⟩ ⟨Nat.le_of_ble_eq_true rfl, Nat.le_of_ble_eq_true rfl⟩ [0] [] rfl rfl rfl rfl rfl (by decide) 0 rfl rfl rfl hl.1 rfl (Nat.le_of_ble_eq_true rfl) dX12_taken_26 (fun u_1 H locs hφ hP hD hS => ?_)
  have hP : va_P D vwCl [] H := hP
  have hD : va_D A [] := hD
  refine W.eq (g2 := F0 m 29 ls [.int 0]) rfl ?_
  exact EWi hx hb hr hlocks hS () rfl trivial (hP.sub (ws' := []) [] rfl) (hD.sub (ws' := []) [] rfl rfl) dX12_taken_29
theorem inA0 {a : Int32} (h : ¬ a = 0) : inA a 0 = -1 := by
  unfold inA
  by_cases h1 : bw a 0 = 0
  · rw [if_pos h1]
  · exact absurd (bw0 h1) h
theorem inA00 : inA 0 0 = 0 := by decide
theorem cp_0 {g : Nat → Int32} {i : Nat} {x : Int32} (hi : i < 890) (h0 : g 0 = 0) (h1 : g 3560 = 0) (hx : x = g (nI (3560 + i)).toNatClampNeg) : upd g (nI i).toNatClampNeg x 0 = 0 := by
  rcases Nat.eq_zero_or_pos i with rfl | h
  · rw [upd_i (by omega), hx, nI_clamp (by omega)]; exact h1
  · rw [upd_o (by omega) (by omega)]; exact h0
theorem cp_1 {g : Nat → Int32} {i : Nat} {x : Int32} (hi : i < 890) (h1 : g 3560 = 0) : upd g (nI i).toNatClampNeg x 3560 = 0 := by
  rw [upd_o (by omega) (by omega)]; exact h1
set_option maxHeartbeats 4000000 in
set_option maxRecDepth 100000 in
theorem r_sky (l : Launch) (D : va_G) (k : Nat → ClassId) (q : Nat → Nat) (a : Int32) : WD (σ := Unit) l yX12_sky cX12_sky 4 (some .int) 8 0 0 D k [.ref (q 200), .int a] [((q 200), .inr (12, [.ref (q 201), .ref (q 202), .int 0, .long 0, .long 1, .ref (q 203), .ref (q 204), .ref (q 205), .ref (q 206), .ref (q 207), .int 0, .int 0, .int 0, .int 0, .int 0, .int 0, .int (-1), .int (-1), .int 0, .int 0, .int 0, .ref (q 208), .int 0, .int 0, .ref (q 209), .ref (q 210), .ref (q 211), .ref (q 212), .ref (q 213), .int 0, .int 0, .ref (q 214), .ref (q 215), .ref (q 216), .int 0, .int 0])), ((q 201), .inl (k 1, 5340, .inl at0)), ((q 202), .inl (k 2, 36, .inr (.inl (fun _ => 0))))] (fun _ => some (.int (inA a 0))) (fun _ => True) (fun _ => []) := by
  refine MW (by decide) (Nat.le_of_ble_eq_true rfl) (fun p e s m below meth c ls A hx hb hml hr hlocks hin hts hown hKK hP hD hS hA hl => ?_)
  have hK := hKK.1
  have hl : lv_has ls 4 [(0, .ref (q 200)), (1, .int a)] := hl
  rcases Classical.em (a = 0) with hane | hane
  ·
    subst hane
    refine lv_aload_n hx hb dX12_sky_0 rfl (lv_at hl 0 rfl) ?_
    refine lv_iload_n hx hb dX12_sky_1 rfl (lv_at hl 1 rfl) ?_
    refine lv_sipush (v := 900) hx hb dX12_sky_2 (by decide) ?_
    refine CWV (As := [.int 0, .int 900]) (rest := []) (wc := [((q 200), .inr (12, [.ref (q 201), .ref (q 202), .int 0, .long 0, .long 1, .ref (q 203), .ref (q 204), .ref (q 205), .ref (q 206), .ref (q 207), .int 0, .int 0, .int 0, .int 0, .int 0, .int 0, .int (-1), .int (-1), .int 0, .int 0, .int 0, .ref (q 208), .int 0, .int 0, .ref (q 209), .ref (q 210), .ref (q 211), .ref (q 212), .ref (q 213), .int 0, .int 0, .ref (q 214), .ref (q 215), .ref (q 216), .int 0, .int 0]))]) (wr := [((q 201), .inl (k 1, 5340, .inl at0)), ((q 202), .inl (k 2, 36, .inr (.inl (fun _ => 0))))]) hx hb hml hown hts hKK hP hD hS hA (m_begins900 l D k q) ci_X12_begins qm_X12_215 ⟨Nat.le_of_ble_eq_true rfl, Nat.le_of_ble_eq_true rfl⟩ ⟨Nat.le_of_ble_eq_true rfl, Nat.le_of_ble_eq_true rfl⟩ [0] [1, 2] rfl rfl rfl rfl rfl (by decide) 0 rfl rfl rfl hl.1 rfl (Nat.le_of_ble_eq_true rfl) dX12_sky_5 (fun u_1 H locs hφ hP hD hS => ?_)
    have hP : va_P D vwCl [((q 201), .inl (k 1, 5340, .inl at0)), ((q 202), .inl (k 2, 36, .inr (.inl (fun _ => 0)))), ((q 200), .inr (12, [.ref (q 201), .ref (q 202), .int 0, .long 0, .long 1, .ref (q 203), .ref (q 204), .ref (q 205), .ref (q 206), .ref (q 207), .int 0, .int 0, .int 0, .int 0, .int 0, .int (-1), .int (-1), .int (-1), .int 0, .int 0, .int 0, .ref (q 208), .int 0, .int 0, .ref (q 209), .ref (q 210), .ref (q 211), .ref (q 212), .ref (q 213), .int 0, .int 0, .ref (q 214), .ref (q 215), .ref (q 216), .int 0, .int 0]))] H := hP
    have hD : va_D A [((q 201), .inl (k 1, 5340, .inl at0)), ((q 202), .inl (k 2, 36, .inr (.inl (fun _ => 0)))), ((q 200), .inr (12, [.ref (q 201), .ref (q 202), .int 0, .long 0, .long 1, .ref (q 203), .ref (q 204), .ref (q 205), .ref (q 206), .ref (q 207), .int 0, .int 0, .int 0, .int 0, .int 0, .int (-1), .int (-1), .int (-1), .int 0, .int 0, .int 0, .ref (q 208), .int 0, .int 0, .ref (q 209), .ref (q 210), .ref (q 211), .ref (q 212), .ref (q 213), .int 0, .int 0, .ref (q 214), .ref (q 215), .ref (q 216), .int 0, .int 0]))] := hD
    refine W.eq (g2 := F0 m 8 ls [.int 1]) rfl ?_
    refine lv_if_ne (tgt := 17) hx hb dX12_sky_8 (by decide) (fun _ => ?_) (fun c => absurd c (by decide))
    refine lv_aload_n hx hb dX12_sky_17 rfl (lv_at hl 0 rfl) ?_
    refine lv_sipush (v := 3560) hx hb dX12_sky_18 (by decide) ?_
    refine CWV (As := [.int 3560]) (rest := []) (wc := [((q 200), .inr (12, [.ref (q 201), .ref (q 202), .int 0, .long 0, .long 1, .ref (q 203), .ref (q 204), .ref (q 205), .ref (q 206), .ref (q 207), .int 0, .int 0, .int 0, .int 0, .int 0, .int (-1), .int (-1), .int (-1), .int 0, .int 0, .int 0, .ref (q 208), .int 0, .int 0, .ref (q 209), .ref (q 210), .ref (q 211), .ref (q 212), .ref (q 213), .int 0, .int 0, .ref (q 214), .ref (q 215), .ref (q 216), .int 0, .int 0])), ((q 201), .inl (k 1, 5340, .inl at0))]) (wr := [((q 202), .inl (k 2, 36, .inr (.inl (fun _ => 0))))]) hx hb hml hown hts hKK hP hD hS hA (m_plain3560 l D k q [.ref (q 201), .ref (q 202), .int 0, .long 0, .long 1, .ref (q 203), .ref (q 204), .ref (q 205), .ref (q 206), .ref (q 207), .int 0, .int 0, .int 0, .int 0, .int 0, .int (-1), .int (-1), .int (-1), .int 0, .int 0, .int 0, .ref (q 208), .int 0, .int 0, .ref (q 209), .ref (q 210), .ref (q 211), .ref (q 212), .ref (q 213), .int 0, .int 0, .ref (q 214), .ref (q 215), .ref (q 216), .int 0, .int 0] rfl at0 (fun i hi => by show (if 3560 + i = 5 then _ else _) = _; rw [if_neg (by omega)])) ci_X12_plain qm_X12_71 ⟨Nat.le_of_ble_eq_true rfl, Nat.le_of_ble_eq_true rfl⟩ ⟨Nat.le_of_ble_eq_true rfl, Nat.le_of_ble_eq_true rfl⟩ [2, 0] [1] rfl rfl rfl rfl rfl (by decide) 0 rfl rfl rfl hl.1 rfl (Nat.le_of_ble_eq_true rfl) dX12_sky_21 (fun u_2 H locs hφ hP hD hS => ?_)
    have hP : va_P D vwCl [((q 202), .inl (k 2, 36, .inr (.inl (fun _ => 0)))), ((q 200), .inr (12, [.ref (q 201), .ref (q 202), .int 0, .long 0, .long 1, .ref (q 203), .ref (q 204), .ref (q 205), .ref (q 206), .ref (q 207), .int 0, .int 0, .int 0, .int 0, .int 0, .int (-1), .int (-1), .int (-1), .int 0, .int 0, .int 0, .ref (q 208), .int 0, .int 0, .ref (q 209), .ref (q 210), .ref (q 211), .ref (q 212), .ref (q 213), .int 0, .int 0, .ref (q 214), .ref (q 215), .ref (q 216), .int 0, .int 0])), ((q 201), .inl (k 1, 5340, .inl (upd at0 (3565 : Int32).toNatClampNeg (-1))))] H := hP
    have hD : va_D A [((q 202), .inl (k 2, 36, .inr (.inl (fun _ => 0)))), ((q 200), .inr (12, [.ref (q 201), .ref (q 202), .int 0, .long 0, .long 1, .ref (q 203), .ref (q 204), .ref (q 205), .ref (q 206), .ref (q 207), .int 0, .int 0, .int 0, .int 0, .int 0, .int (-1), .int (-1), .int (-1), .int 0, .int 0, .int 0, .ref (q 208), .int 0, .int 0, .ref (q 209), .ref (q 210), .ref (q 211), .ref (q 212), .ref (q 213), .int 0, .int 0, .ref (q 214), .ref (q 215), .ref (q 216), .int 0, .int 0])), ((q 201), .inl (k 1, 5340, .inl (upd at0 (3565 : Int32).toNatClampNeg (-1))))] := hD
    refine W.eq (g2 := F0 m 24 ls []) rfl ?_
    refine lv_aload_n hx hb dX12_sky_24 rfl (lv_at hl 0 rfl) ?_
    refine lv_iconst (v := 0) hx hb dX12_sky_25 (by decide) ?_
    refine va_put (D := D) (ci := 12) (v := .int 0) (ty := .boolean) (C := RX12) (T := TX12) (N := 36) hx hb hts iX12 tyX12 tyX12_ok nmX12 hown hK hP hD hS 1 rfl rfl 20 (by decide) (hts _ qf_X12_198) (fun _ h => h) rfl (by decide +kernel) rfl rfl (Nat.le_of_ble_eq_true rfl) dX12_sky_26 (fun H locs hP hD hS => ?_)
    have hP : va_P D vwCl [((q 202), .inl (k 2, 36, .inr (.inl (fun _ => 0)))), ((q 200), .inr (12, [.ref (q 201), .ref (q 202), .int 0, .long 0, .long 1, .ref (q 203), .ref (q 204), .ref (q 205), .ref (q 206), .ref (q 207), .int 0, .int 0, .int 0, .int 0, .int 0, .int (-1), .int (-1), .int (-1), .int 0, .int 0, .int 0, .ref (q 208), .int 0, .int 0, .ref (q 209), .ref (q 210), .ref (q 211), .ref (q 212), .ref (q 213), .int 0, .int 0, .ref (q 214), .ref (q 215), .ref (q 216), .int 0, .int 0])), ((q 201), .inl (k 1, 5340, .inl (upd at0 (3565 : Int32).toNatClampNeg (-1))))] H := hP
    have hD : va_D A [((q 202), .inl (k 2, 36, .inr (.inl (fun _ => 0)))), ((q 200), .inr (12, [.ref (q 201), .ref (q 202), .int 0, .long 0, .long 1, .ref (q 203), .ref (q 204), .ref (q 205), .ref (q 206), .ref (q 207), .int 0, .int 0, .int 0, .int 0, .int 0, .int (-1), .int (-1), .int (-1), .int 0, .int 0, .int 0, .ref (q 208), .int 0, .int 0, .ref (q 209), .ref (q 210), .ref (q 211), .ref (q 212), .ref (q 213), .int 0, .int 0, .ref (q 214), .ref (q 215), .ref (q 216), .int 0, .int 0])), ((q 201), .inl (k 1, 5340, .inl (upd at0 (3565 : Int32).toNatClampNeg (-1))))] := hD
    refine lv_iconst (v := 1) hx hb dX12_sky_29 (by decide) ?_
    refine lv_istore_n (lv' := [(2, .int 1), (0, .ref (q 200)), (1, .int 0)]) hx hb dX12_sky_30 rfl hl (by decide) rfl (fun ls hl => ?_)
    refine lv_iload_n hx hb dX12_sky_31 rfl (lv_at hl 0 rfl) ?_
    refine lv_if_eq (tgt := 50) hx hb dX12_sky_32 (by decide) (fun c => absurd c (by decide)) (fun _ => ?_)
    refine lv_aload_n hx hb dX12_sky_35 rfl (lv_at hl 1 rfl) ?_
    refine va_get (D := D) (ci := 12) (v := .int 0) (C := RX12) (T := TX12) (N := 36) hx hb hts iX12 hown hK hP 1 rfl rfl 12 (by decide) (hts _ qf_X12_127) (fun _ h => h) rfl dX12_sky_36 ?_
    refine lv_if_eq (tgt := 50) hx hb dX12_sky_39 (by decide) (fun _ => ?_) (fun c => absurd (by decide) c)
    refine lv_aload_n hx hb dX12_sky_50 rfl (lv_at hl 1 rfl) ?_
    refine va_get (D := D) (ci := 12) (v := .int 0) (C := RX12) (T := TX12) (N := 36) hx hb hts iX12 hown hK hP 1 rfl rfl 18 (by decide) (hts _ qf_X12_152) (fun _ h => h) rfl dX12_sky_51 ?_
    refine lv_if_ne (tgt := 117) hx hb dX12_sky_54 (by decide) (fun c => absurd (by decide) c) (fun _ => ?_)
    refine lv_iconst (v := 0) hx hb dX12_sky_57 (by decide) ?_
    refine lv_istore_n (lv' := [(3, .int 0), (2, .int 1), (0, .ref (q 200)), (1, .int 0)]) hx hb dX12_sky_58 rfl hl (by decide) rfl (fun ls hl => ?_)
    have HL : ∀ (r i : Nat) (g : Nat → Int32) (H : Heap) (locs : List Loc) (ls : Array Slot), i + r = 890 → g 0 = 0 → g 3560 = 0 → va_P D vwCl [((q 202), .inl (k 2, 36, .inr (.inl (fun _ => 0)))), ((q 200), .inr (12, [.ref (q 201), .ref (q 202), .int 0, .long 0, .long 1, .ref (q 203), .ref (q 204), .ref (q 205), .ref (q 206), .ref (q 207), .int 0, .int 0, .int 0, .int 0, .int 0, .int (-1), .int (-1), .int (-1), .int 0, .int 0, .int 0, .ref (q 208), .int 0, .int 0, .ref (q 209), .ref (q 210), .ref (q 211), .ref (q 212), .ref (q 213), .int 0, .int 0, .ref (q 214), .ref (q 215), .ref (q 216), .int 0, .int 0])), ((q 201), .inl (k 1, 5340, .inl g))] H → va_D A [((q 202), .inl (k 2, 36, .inr (.inl (fun _ => 0)))), ((q 200), .inr (12, [.ref (q 201), .ref (q 202), .int 0, .long 0, .long 1, .ref (q 203), .ref (q 204), .ref (q 205), .ref (q 206), .ref (q 207), .int 0, .int 0, .int 0, .int 0, .int 0, .int (-1), .int (-1), .int (-1), .int 0, .int 0, .int 0, .ref (q 208), .int 0, .int 0, .ref (q 209), .ref (q 210), .ref (q 211), .ref (q 212), .ref (q 213), .int 0, .int 0, .ref (q 214), .ref (q 215), .ref (q 216), .int 0, .int 0])), ((q 201), .inl (k 1, 5340, .inl g))] → va_S A s.heap H locs → lv_has ls 4 [(3, .int (nI i)), (2, .int 1), (0, .ref (q 200)), (1, .int 0)] → W p l e (rj 8 0 0) s m [.ref (q 200), .int 0].toArray below meth c H locs 0 0 (MQ below (QW (σ := Unit) (fun _ => some (.int (inA 0 0))) (fun _ => True) (fun _ => []) D A) [.ref (q 200), .int 0].toArray s 0 0 A) (F0 m 59 ls []) := by
      intro r
      induction r with
      | zero =>
        intro i g H locs ls hi h0 h1 hP hD hS hl
        refine lv_iload_n hx hb dX12_sky_59 rfl (lv_at hl 0 rfl) ?_
        refine lv_sipush (v := 890) hx hb dX12_sky_60 (by decide) ?_
        refine lv_icmp_ge (tgt := 88) hx hb dX12_sky_63 (by decide) (fun _ => ?_) (fun c => absurd (nI_le (a := 890) (b := i) (by omega) (by omega)) c)
        refine lv_iconst (v := 0) hx hb dX12_sky_88 (by decide) ?_
        refine lv_istore_n (lv' := [(3, .int 0), (2, .int 1), (0, .ref (q 200)), (1, .int 0)]) hx hb dX12_sky_89 rfl hl (by decide) rfl (fun ls hl => ?_)
        have HL : ∀ (r i : Nat) (g2 : Nat → Int64) (H : Heap) (locs : List Loc) (ls : Array Slot), i + r = 6 → va_P D vwCl [((q 202), .inl (k 2, 36, .inr (.inl g2))), ((q 200), .inr (12, [.ref (q 201), .ref (q 202), .int 0, .long 0, .long 1, .ref (q 203), .ref (q 204), .ref (q 205), .ref (q 206), .ref (q 207), .int 0, .int 0, .int 0, .int 0, .int 0, .int (-1), .int (-1), .int (-1), .int 0, .int 0, .int 0, .ref (q 208), .int 0, .int 0, .ref (q 209), .ref (q 210), .ref (q 211), .ref (q 212), .ref (q 213), .int 0, .int 0, .ref (q 214), .ref (q 215), .ref (q 216), .int 0, .int 0])), ((q 201), .inl (k 1, 5340, .inl g))] H → va_D A [((q 202), .inl (k 2, 36, .inr (.inl g2))), ((q 200), .inr (12, [.ref (q 201), .ref (q 202), .int 0, .long 0, .long 1, .ref (q 203), .ref (q 204), .ref (q 205), .ref (q 206), .ref (q 207), .int 0, .int 0, .int 0, .int 0, .int 0, .int (-1), .int (-1), .int (-1), .int 0, .int 0, .int 0, .ref (q 208), .int 0, .int 0, .ref (q 209), .ref (q 210), .ref (q 211), .ref (q 212), .ref (q 213), .int 0, .int 0, .ref (q 214), .ref (q 215), .ref (q 216), .int 0, .int 0])), ((q 201), .inl (k 1, 5340, .inl g))] → va_S A s.heap H locs → lv_has ls 4 [(3, .int (nI i)), (2, .int 1), (0, .ref (q 200)), (1, .int 0)] → W p l e (rj 8 0 0) s m [.ref (q 200), .int 0].toArray below meth c H locs 0 0 (MQ below (QW (σ := Unit) (fun _ => some (.int (inA 0 0))) (fun _ => True) (fun _ => []) D A) [.ref (q 200), .int 0].toArray s 0 0 A) (F0 m 90 ls []) := by
          intro r
          induction r with
          | zero =>
            intro i g2 H locs ls hi  hP hD hS hl
            refine lv_iload_n hx hb dX12_sky_90 rfl (lv_at hl 0 rfl) ?_
            refine lv_bipush (v := 6) hx hb dX12_sky_91 (by decide) ?_
            refine lv_icmp_ge (tgt := 117) hx hb dX12_sky_93 (by decide) (fun _ => ?_) (fun c => absurd (nI_le (a := 6) (b := i) (by omega) (by omega)) c)
            refine lv_aload_n hx hb dX12_sky_117 rfl (lv_at hl 2 rfl) ?_
            refine lv_aload_n hx hb dX12_sky_118 rfl (lv_at hl 2 rfl) ?_
            refine va_get (D := D) (ci := 12) (v := .ref (q 201)) (C := RX12) (T := TX12) (N := 36) hx hb hts iX12 hown hK hP 1 rfl rfl 0 (by decide) (hts _ qf_X12_7) (fun _ h => h) rfl dX12_sky_119 ?_
            refine lv_iconst (v := 0) hx hb dX12_sky_122 (by decide) ?_
            refine va_iald hx hb hK hP 2 1 rfl rfl (xin 0 5340 rfl (by decide) (by decide)) dX12_sky_123 ?_
            refine lv_topi (fun x_3 ex_3 => ?_)
            obtain rfl : x_3 = 0 := ex_3.trans h0
            refine CWV (As := [.int 0]) (rest := []) (wc := [((q 200), .inr (12, [.ref (q 201), .ref (q 202), .int 0, .long 0, .long 1, .ref (q 203), .ref (q 204), .ref (q 205), .ref (q 206), .ref (q 207), .int 0, .int 0, .int 0, .int 0, .int 0, .int (-1), .int (-1), .int (-1), .int 0, .int 0, .int 0, .ref (q 208), .int 0, .int 0, .ref (q 209), .ref (q 210), .ref (q 211), .ref (q 212), .ref (q 213), .int 0, .int 0, .ref (q 214), .ref (q 215), .ref (q 216), .int 0, .int 0]))]) (wr := [((q 202), .inl (k 2, 36, .inr (.inl g2))), ((q 201), .inl (k 1, 5340, .inl g))]) hx hb hml hown hts hKK hP hD hS hA (m_taken0 l D k q) ci_X12_taken qm_X12_222 ⟨Nat.le_of_ble_eq_true rfl, Nat.le_of_ble_eq_true rfl⟩ ⟨Nat.le_of_ble_eq_true rfl, Nat.le_of_ble_eq_true rfl⟩ [1] [0, 2] rfl rfl rfl rfl rfl (by decide) 0 rfl rfl rfl hl.1 rfl (Nat.le_of_ble_eq_true rfl) dX12_sky_124 (fun u_4 H locs hφ hP hD hS => ?_)
            have hP : va_P D vwCl [((q 202), .inl (k 2, 36, .inr (.inl g2))), ((q 201), .inl (k 1, 5340, .inl g))] H := hP
            have hD : va_D A [((q 202), .inl (k 2, 36, .inr (.inl g2))), ((q 201), .inl (k 1, 5340, .inl g))] := hD
            refine W.eq (g2 := F0 m 127 ls [.int 0]) rfl ?_
            exact EWi hx hb hr hlocks hS () (by rw [inA00]) trivial nil_P nil_D dX12_sky_127
          | succ r ih =>
            intro i g2 H locs ls hi  hP hD hS hl
            refine lv_iload_n hx hb dX12_sky_90 rfl (lv_at hl 0 rfl) ?_
            refine lv_bipush (v := 6) hx hb dX12_sky_91 (by decide) ?_
            refine lv_icmp_ge (tgt := 117) hx hb dX12_sky_93 (by decide) (fun c => absurd c (nI_ge (a := i) (b := 6) (by omega) (by omega))) (fun _ => ?_)
            refine lv_aload_n hx hb dX12_sky_96 rfl (lv_at hl 2 rfl) ?_
            refine va_get (D := D) (ci := 12) (v := .ref (q 202)) (C := RX12) (T := TX12) (N := 36) hx hb hts iX12 hown hK hP 1 rfl rfl 1 (by decide) (hts _ qf_X12_13) (fun _ h => h) rfl dX12_sky_97 ?_
            refine lv_iload_n hx hb dX12_sky_100 rfl (lv_at hl 0 rfl) ?_
            refine lv_aload_n hx hb dX12_sky_101 rfl (lv_at hl 2 rfl) ?_
            refine va_get (D := D) (ci := 12) (v := .ref (q 202)) (C := RX12) (T := TX12) (N := 36) hx hb hts iX12 hown hK hP 1 rfl rfl 1 (by decide) (hts _ qf_X12_13) (fun _ h => h) rfl dX12_sky_102 ?_
            refine lv_bipush (v := 24) hx hb dX12_sky_105 (by decide) ?_
            refine lv_iload_n hx hb dX12_sky_107 rfl (lv_at hl 0 rfl) ?_
            refine lv_iadd hx hb dX12_sky_108 ?_
            refine lv_topi (fun x_5 ex_5 => ?_)
            obtain rfl : x_5 = nI (24 + i) := ex_5.trans (nI_add 24 i)
            refine va_lald hx hb hK hP 0 2 rfl rfl (vp_in_nI (by omega) (by decide)) dX12_sky_109 ?_
            refine lv_topl (fun x_6 ex_6 => ?_)
            refine va_last hx hb hK hP hD hS 0 2 rfl rfl (vp_in_nI (by omega) (by decide)) dX12_sky_110 (fun H locs hP hD hS => ?_)
            have hP : va_P D vwCl [((q 202), .inl (k 2, 36, .inr (.inl (vp_updL g2 (nI i : Int32).toNatClampNeg x_6)))), ((q 200), .inr (12, [.ref (q 201), .ref (q 202), .int 0, .long 0, .long 1, .ref (q 203), .ref (q 204), .ref (q 205), .ref (q 206), .ref (q 207), .int 0, .int 0, .int 0, .int 0, .int 0, .int (-1), .int (-1), .int (-1), .int 0, .int 0, .int 0, .ref (q 208), .int 0, .int 0, .ref (q 209), .ref (q 210), .ref (q 211), .ref (q 212), .ref (q 213), .int 0, .int 0, .ref (q 214), .ref (q 215), .ref (q 216), .int 0, .int 0])), ((q 201), .inl (k 1, 5340, .inl g))] H := hP
            have hD : va_D A [((q 202), .inl (k 2, 36, .inr (.inl (vp_updL g2 (nI i : Int32).toNatClampNeg x_6)))), ((q 200), .inr (12, [.ref (q 201), .ref (q 202), .int 0, .long 0, .long 1, .ref (q 203), .ref (q 204), .ref (q 205), .ref (q 206), .ref (q 207), .int 0, .int 0, .int 0, .int 0, .int 0, .int (-1), .int (-1), .int (-1), .int 0, .int 0, .int 0, .ref (q 208), .int 0, .int 0, .ref (q 209), .ref (q 210), .ref (q 211), .ref (q 212), .ref (q 213), .int 0, .int 0, .ref (q 214), .ref (q 215), .ref (q 216), .int 0, .int 0])), ((q 201), .inl (k 1, 5340, .inl g))] := hD
            refine lv_iinc (v := nI (i + 1)) (lv' := [(3, .int (nI (i + 1))), (2, .int 1), (0, .ref (q 200)), (1, .int 0)]) hx hb dX12_sky_111 hl (k := 0) rfl (nI_1 i) (by decide) rfl (fun ls hl => ?_)
            refine lv_goto (tgt := 90) hx hb dX12_sky_114 (by decide) ?_
            exact ih (i + 1) _ _ _ _ (by omega)  (hP.sub [0, 1, 2] rfl) (hD.sub [0, 1, 2] rfl rfl) hS (lv_sub hl [0, 1, 2, 3] rfl)
        exact HL 6 0 _ _ _ _ (by omega)  (hP.sub [0, 1, 2] rfl) (hD.sub [0, 1, 2] rfl rfl) hS (lv_sub hl [0, 1, 2, 3] rfl)
      | succ r ih =>
        intro i g H locs ls hi h0 h1 hP hD hS hl
        refine lv_iload_n hx hb dX12_sky_59 rfl (lv_at hl 0 rfl) ?_
        refine lv_sipush (v := 890) hx hb dX12_sky_60 (by decide) ?_
        refine lv_icmp_ge (tgt := 88) hx hb dX12_sky_63 (by decide) (fun c => absurd c (nI_ge (a := i) (b := 890) (by omega) (by omega))) (fun _ => ?_)
        refine lv_aload_n hx hb dX12_sky_66 rfl (lv_at hl 2 rfl) ?_
        refine va_get (D := D) (ci := 12) (v := .ref (q 201)) (C := RX12) (T := TX12) (N := 36) hx hb hts iX12 hown hK hP 1 rfl rfl 0 (by decide) (hts _ qf_X12_7) (fun _ h => h) rfl dX12_sky_67 ?_
        refine lv_iload_n hx hb dX12_sky_70 rfl (lv_at hl 0 rfl) ?_
        refine lv_aload_n hx hb dX12_sky_71 rfl (lv_at hl 2 rfl) ?_
        refine va_get (D := D) (ci := 12) (v := .ref (q 201)) (C := RX12) (T := TX12) (N := 36) hx hb hts iX12 hown hK hP 1 rfl rfl 0 (by decide) (hts _ qf_X12_7) (fun _ h => h) rfl dX12_sky_72 ?_
        refine lv_sipush (v := 3560) hx hb dX12_sky_75 (by decide) ?_
        refine lv_iload_n hx hb dX12_sky_78 rfl (lv_at hl 0 rfl) ?_
        refine lv_iadd hx hb dX12_sky_79 ?_
        refine lv_topi (fun x_7 ex_7 => ?_)
        obtain rfl : x_7 = nI (3560 + i) := ex_7.trans (nI_add 3560 i)
        refine va_iald hx hb hK hP 2 1 rfl rfl (vp_in_nI (by omega) (by decide)) dX12_sky_80 ?_
        refine lv_topi (fun x_8 ex_8 => ?_)
        refine va_iast hx hb hK hP hD hS 2 1 rfl rfl (vp_in_nI (by omega) (by decide)) dX12_sky_81 (fun H locs hP hD hS => ?_)
        have hP : va_P D vwCl [((q 202), .inl (k 2, 36, .inr (.inl (fun _ => 0)))), ((q 200), .inr (12, [.ref (q 201), .ref (q 202), .int 0, .long 0, .long 1, .ref (q 203), .ref (q 204), .ref (q 205), .ref (q 206), .ref (q 207), .int 0, .int 0, .int 0, .int 0, .int 0, .int (-1), .int (-1), .int (-1), .int 0, .int 0, .int 0, .ref (q 208), .int 0, .int 0, .ref (q 209), .ref (q 210), .ref (q 211), .ref (q 212), .ref (q 213), .int 0, .int 0, .ref (q 214), .ref (q 215), .ref (q 216), .int 0, .int 0])), ((q 201), .inl (k 1, 5340, .inl (upd g (nI i : Int32).toNatClampNeg x_8)))] H := hP
        have hD : va_D A [((q 202), .inl (k 2, 36, .inr (.inl (fun _ => 0)))), ((q 200), .inr (12, [.ref (q 201), .ref (q 202), .int 0, .long 0, .long 1, .ref (q 203), .ref (q 204), .ref (q 205), .ref (q 206), .ref (q 207), .int 0, .int 0, .int 0, .int 0, .int 0, .int (-1), .int (-1), .int (-1), .int 0, .int 0, .int 0, .ref (q 208), .int 0, .int 0, .ref (q 209), .ref (q 210), .ref (q 211), .ref (q 212), .ref (q 213), .int 0, .int 0, .ref (q 214), .ref (q 215), .ref (q 216), .int 0, .int 0])), ((q 201), .inl (k 1, 5340, .inl (upd g (nI i : Int32).toNatClampNeg x_8)))] := hD
        refine lv_iinc (v := nI (i + 1)) (lv' := [(3, .int (nI (i + 1))), (2, .int 1), (0, .ref (q 200)), (1, .int 0)]) hx hb dX12_sky_82 hl (k := 0) rfl (nI_1 i) (by decide) rfl (fun ls hl => ?_)
        refine lv_goto (tgt := 59) hx hb dX12_sky_85 (by decide) ?_
        exact ih (i + 1) _ _ _ _ (by omega) (cp_0 (by omega) h0 h1 ex_8) (cp_1 (by omega) h1) (hP.sub [0, 1, 2] rfl) (hD.sub [0, 1, 2] rfl rfl) hS (lv_sub hl [0, 1, 2, 3] rfl)
    exact HL 890 0 _ _ _ _ (by omega) (by decide +kernel) (by decide +kernel) (hP.sub [0, 1, 2] rfl) (hD.sub [0, 1, 2] rfl rfl) hS (lv_sub hl [0, 1, 2, 3] rfl)
  ·
    refine lv_aload_n hx hb dX12_sky_0 rfl (lv_at hl 0 rfl) ?_
    refine lv_iload_n hx hb dX12_sky_1 rfl (lv_at hl 1 rfl) ?_
    refine lv_sipush (v := 900) hx hb dX12_sky_2 (by decide) ?_
    refine CWV (As := [.int a, .int 900]) (rest := []) (wc := [((q 200), .inr (12, [.ref (q 201), .ref (q 202), .int 0, .long 0, .long 1, .ref (q 203), .ref (q 204), .ref (q 205), .ref (q 206), .ref (q 207), .int 0, .int 0, .int 0, .int 0, .int 0, .int 0, .int (-1), .int (-1), .int 0, .int 0, .int 0, .ref (q 208), .int 0, .int 0, .ref (q 209), .ref (q 210), .ref (q 211), .ref (q 212), .ref (q 213), .int 0, .int 0, .ref (q 214), .ref (q 215), .ref (q 216), .int 0, .int 0]))]) (wr := [((q 201), .inl (k 1, 5340, .inl at0)), ((q 202), .inl (k 2, 36, .inr (.inl (fun _ => 0))))]) hx hb hml hown hts hKK hP hD hS hA (m_beginsN900 l D k q a hane) ci_X12_begins qm_X12_215 ⟨Nat.le_of_ble_eq_true rfl, Nat.le_of_ble_eq_true rfl⟩ ⟨Nat.le_of_ble_eq_true rfl, Nat.le_of_ble_eq_true rfl⟩ [0] [1, 2] rfl rfl rfl rfl rfl (by decide) 0 rfl rfl rfl hl.1 rfl (Nat.le_of_ble_eq_true rfl) dX12_sky_5 (fun u_9 H locs hφ hP hD hS => ?_)
    have hP : va_P D vwCl [((q 201), .inl (k 1, 5340, .inl at0)), ((q 202), .inl (k 2, 36, .inr (.inl (fun _ => 0)))), ((q 200), .inr (12, [.ref (q 201), .ref (q 202), .int 0, .long 0, .long 1, .ref (q 203), .ref (q 204), .ref (q 205), .ref (q 206), .ref (q 207), .int 0, .int 0, .int 0, .int 0, .int 0, .int 0, .int (-1), .int (-1), .int 0, .int 0, .int 0, .ref (q 208), .int 0, .int 0, .ref (q 209), .ref (q 210), .ref (q 211), .ref (q 212), .ref (q 213), .int 0, .int 0, .ref (q 214), .ref (q 215), .ref (q 216), .int 0, .int 0]))] H := hP
    have hD : va_D A [((q 201), .inl (k 1, 5340, .inl at0)), ((q 202), .inl (k 2, 36, .inr (.inl (fun _ => 0)))), ((q 200), .inr (12, [.ref (q 201), .ref (q 202), .int 0, .long 0, .long 1, .ref (q 203), .ref (q 204), .ref (q 205), .ref (q 206), .ref (q 207), .int 0, .int 0, .int 0, .int 0, .int 0, .int 0, .int (-1), .int (-1), .int 0, .int 0, .int 0, .ref (q 208), .int 0, .int 0, .ref (q 209), .ref (q 210), .ref (q 211), .ref (q 212), .ref (q 213), .int 0, .int 0, .ref (q 214), .ref (q 215), .ref (q 216), .int 0, .int 0]))] := hD
    refine W.eq (g2 := F0 m 8 ls [.int 0]) rfl ?_
    refine lv_if_ne (tgt := 17) hx hb dX12_sky_8 (by decide) (fun c => absurd (by decide) c) (fun _ => ?_)
    refine lv_aload_n hx hb dX12_sky_11 rfl (lv_at hl 0 rfl) ?_
    refine lv_iconst (v := 1) hx hb dX12_sky_12 (by decide) ?_
    refine CWV (As := [.int 1]) (rest := []) (wc := [((q 200), .inr (12, [.ref (q 201), .ref (q 202), .int 0, .long 0, .long 1, .ref (q 203), .ref (q 204), .ref (q 205), .ref (q 206), .ref (q 207), .int 0, .int 0, .int 0, .int 0, .int 0, .int 0, .int (-1), .int (-1), .int 0, .int 0, .int 0, .ref (q 208), .int 0, .int 0, .ref (q 209), .ref (q 210), .ref (q 211), .ref (q 212), .ref (q 213), .int 0, .int 0, .ref (q 214), .ref (q 215), .ref (q 216), .int 0, .int 0]))]) (wr := [((q 201), .inl (k 1, 5340, .inl at0)), ((q 202), .inl (k 2, 36, .inr (.inl (fun _ => 0))))]) hx hb hml hown hts hKK hP hD hS hA (m_refuse l D k (q 200) [.ref (q 201), .ref (q 202), .int 0, .long 0, .long 1, .ref (q 203), .ref (q 204), .ref (q 205), .ref (q 206), .ref (q 207), .int 0, .int 0, .int 0, .int 0, .int 0, .int 0, .int (-1), .int (-1), .int 0, .int 0, .int 0, .ref (q 208), .int 0, .int 0, .ref (q 209), .ref (q 210), .ref (q 211), .ref (q 212), .ref (q 213), .int 0, .int 0, .ref (q 214), .ref (q 215), .ref (q 216), .int 0, .int 0] (Nat.le_of_ble_eq_true rfl) 1) ci_X12_refuse qm_X12_81 ⟨Nat.le_of_ble_eq_true rfl, Nat.le_of_ble_eq_true rfl⟩ ⟨Nat.le_of_ble_eq_true rfl, Nat.le_of_ble_eq_true rfl⟩ [2] [0, 1] rfl rfl rfl rfl rfl (by decide) 0 rfl rfl rfl hl.1 rfl (Nat.le_of_ble_eq_true rfl) dX12_sky_13 (fun u_10 H locs hφ hP hD hS => ?_)
    have hP : va_P D vwCl [((q 201), .inl (k 1, 5340, .inl at0)), ((q 202), .inl (k 2, 36, .inr (.inl (fun _ => 0))))] H := hP
    have hD : va_D A [((q 201), .inl (k 1, 5340, .inl at0)), ((q 202), .inl (k 2, 36, .inr (.inl (fun _ => 0))))] := hD
    refine W.eq (g2 := F0 m 16 ls [.int (-1)]) rfl ?_
    exact EWi hx hb hr hlocks hS () (by rw [inA0 hane]) trivial nil_P nil_D dX12_sky_16
set_option maxHeartbeats 4000000 in
set_option maxRecDepth 100000 in
theorem r_years (l : Launch) (D : va_G) (k : Nat → ClassId) (q : Nat → Nat) (a : Int32) : WD (σ := Unit) l yX12_years cX12_years 4 (some .int) 8 0 0 D k [.ref (q 200), .int a] [((q 200), .inr (12, [.ref (q 201), .ref (q 202), .int 0, .long 0, .long 1, .ref (q 203), .ref (q 204), .ref (q 205), .ref (q 206), .ref (q 207), .int 0, .int 0, .int 0, .int 0, .int 0, .int 0, .int (-1), .int (-1), .int 0, .int 0, .int 0, .ref (q 208), .int 0, .int 0, .ref (q 209), .ref (q 210), .ref (q 211), .ref (q 212), .ref (q 213), .int 0, .int 0, .ref (q 214), .ref (q 215), .ref (q 216), .int 0, .int 0])), ((q 201), .inl (k 1, 5340, .inl at0))] (fun _ => some (.int (inA a 0))) (fun _ => True) (fun _ => []) := by
  refine MW (by decide) (Nat.le_of_ble_eq_true rfl) (fun p e s m below meth c ls A hx hb hml hr hlocks hin hts hown hKK hP hD hS hA hl => ?_)
  have hK := hKK.1
  have hl : lv_has ls 4 [(0, .ref (q 200)), (1, .int a)] := hl
  rcases Classical.em (a = 0) with hane | hane
  ·
    subst hane
    refine lv_aload_n hx hb dX12_years_0 rfl (lv_at hl 0 rfl) ?_
    refine lv_iload_n hx hb dX12_years_1 rfl (lv_at hl 1 rfl) ?_
    refine lv_sipush (v := 300) hx hb dX12_years_2 (by decide) ?_
    refine CWV (As := [.int 0, .int 300]) (rest := []) (wc := [((q 200), .inr (12, [.ref (q 201), .ref (q 202), .int 0, .long 0, .long 1, .ref (q 203), .ref (q 204), .ref (q 205), .ref (q 206), .ref (q 207), .int 0, .int 0, .int 0, .int 0, .int 0, .int 0, .int (-1), .int (-1), .int 0, .int 0, .int 0, .ref (q 208), .int 0, .int 0, .ref (q 209), .ref (q 210), .ref (q 211), .ref (q 212), .ref (q 213), .int 0, .int 0, .ref (q 214), .ref (q 215), .ref (q 216), .int 0, .int 0]))]) (wr := [((q 201), .inl (k 1, 5340, .inl at0))]) hx hb hml hown hts hKK hP hD hS hA (m_begins300 l D k q) ci_X12_begins qm_X12_215 ⟨Nat.le_of_ble_eq_true rfl, Nat.le_of_ble_eq_true rfl⟩ ⟨Nat.le_of_ble_eq_true rfl, Nat.le_of_ble_eq_true rfl⟩ [0] [1] rfl rfl rfl rfl rfl (by decide) 0 rfl rfl rfl hl.1 rfl (Nat.le_of_ble_eq_true rfl) dX12_years_5 (fun u_1 H locs hφ hP hD hS => ?_)
    have hP : va_P D vwCl [((q 201), .inl (k 1, 5340, .inl at0)), ((q 200), .inr (12, [.ref (q 201), .ref (q 202), .int 0, .long 0, .long 1, .ref (q 203), .ref (q 204), .ref (q 205), .ref (q 206), .ref (q 207), .int 0, .int 0, .int 0, .int 0, .int 0, .int (-1), .int (-1), .int (-1), .int 0, .int 0, .int 0, .ref (q 208), .int 0, .int 0, .ref (q 209), .ref (q 210), .ref (q 211), .ref (q 212), .ref (q 213), .int 0, .int 0, .ref (q 214), .ref (q 215), .ref (q 216), .int 0, .int 0]))] H := hP
    have hD : va_D A [((q 201), .inl (k 1, 5340, .inl at0)), ((q 200), .inr (12, [.ref (q 201), .ref (q 202), .int 0, .long 0, .long 1, .ref (q 203), .ref (q 204), .ref (q 205), .ref (q 206), .ref (q 207), .int 0, .int 0, .int 0, .int 0, .int 0, .int (-1), .int (-1), .int (-1), .int 0, .int 0, .int 0, .ref (q 208), .int 0, .int 0, .ref (q 209), .ref (q 210), .ref (q 211), .ref (q 212), .ref (q 213), .int 0, .int 0, .ref (q 214), .ref (q 215), .ref (q 216), .int 0, .int 0]))] := hD
    refine W.eq (g2 := F0 m 8 ls [.int 1]) rfl ?_
    refine lv_if_ne (tgt := 17) hx hb dX12_years_8 (by decide) (fun _ => ?_) (fun c => absurd c (by decide))
    refine lv_aload_n hx hb dX12_years_17 rfl (lv_at hl 0 rfl) ?_
    refine va_get (D := D) (ci := 12) (v := .ref (q 201)) (C := RX12) (T := TX12) (N := 36) hx hb hts iX12 hown hK hP 1 rfl rfl 0 (by decide) (hts _ qf_X12_7) (fun _ h => h) rfl dX12_years_18 ?_
    refine lv_sipush (v := 3565) hx hb dX12_years_21 (by decide) ?_
    refine lv_iconst (v := 0) hx hb dX12_years_24 (by decide) ?_
    refine va_iast hx hb hK hP hD hS 0 1 rfl rfl (xin 3565 5340 rfl (by decide) (by decide)) dX12_years_25 (fun H locs hP hD hS => ?_)
    have hP : va_P D vwCl [((q 201), .inl (k 1, 5340, .inl (upd at0 (3565 : Int32).toNatClampNeg 0))), ((q 200), .inr (12, [.ref (q 201), .ref (q 202), .int 0, .long 0, .long 1, .ref (q 203), .ref (q 204), .ref (q 205), .ref (q 206), .ref (q 207), .int 0, .int 0, .int 0, .int 0, .int 0, .int (-1), .int (-1), .int (-1), .int 0, .int 0, .int 0, .ref (q 208), .int 0, .int 0, .ref (q 209), .ref (q 210), .ref (q 211), .ref (q 212), .ref (q 213), .int 0, .int 0, .ref (q 214), .ref (q 215), .ref (q 216), .int 0, .int 0]))] H := hP
    have hD : va_D A [((q 201), .inl (k 1, 5340, .inl (upd at0 (3565 : Int32).toNatClampNeg 0))), ((q 200), .inr (12, [.ref (q 201), .ref (q 202), .int 0, .long 0, .long 1, .ref (q 203), .ref (q 204), .ref (q 205), .ref (q 206), .ref (q 207), .int 0, .int 0, .int 0, .int 0, .int 0, .int (-1), .int (-1), .int (-1), .int 0, .int 0, .int 0, .ref (q 208), .int 0, .int 0, .ref (q 209), .ref (q 210), .ref (q 211), .ref (q 212), .ref (q 213), .int 0, .int 0, .ref (q 214), .ref (q 215), .ref (q 216), .int 0, .int 0]))] := hD
    refine lv_aload_n hx hb dX12_years_26 rfl (lv_at hl 0 rfl) ?_
    refine lv_iconst (v := 0) hx hb dX12_years_27 (by decide) ?_
    refine va_put (D := D) (ci := 12) (v := .int 0) (ty := .int) (C := RX12) (T := TX12) (N := 36) hx hb hts iX12 tyX12 tyX12_ok nmX12 hown hK hP hD hS 1 rfl rfl 22 (by decide) (hts _ qf_X12_231) (fun _ h => h) rfl (by decide +kernel) rfl rfl (Nat.le_of_ble_eq_true rfl) dX12_years_28 (fun H locs hP hD hS => ?_)
    have hP : va_P D vwCl [((q 201), .inl (k 1, 5340, .inl (upd at0 (3565 : Int32).toNatClampNeg 0))), ((q 200), .inr (12, [.ref (q 201), .ref (q 202), .int 0, .long 0, .long 1, .ref (q 203), .ref (q 204), .ref (q 205), .ref (q 206), .ref (q 207), .int 0, .int 0, .int 0, .int 0, .int 0, .int (-1), .int (-1), .int (-1), .int 0, .int 0, .int 0, .ref (q 208), .int 0, .int 0, .ref (q 209), .ref (q 210), .ref (q 211), .ref (q 212), .ref (q 213), .int 0, .int 0, .ref (q 214), .ref (q 215), .ref (q 216), .int 0, .int 0]))] H := hP
    have hD : va_D A [((q 201), .inl (k 1, 5340, .inl (upd at0 (3565 : Int32).toNatClampNeg 0))), ((q 200), .inr (12, [.ref (q 201), .ref (q 202), .int 0, .long 0, .long 1, .ref (q 203), .ref (q 204), .ref (q 205), .ref (q 206), .ref (q 207), .int 0, .int 0, .int 0, .int 0, .int 0, .int (-1), .int (-1), .int (-1), .int 0, .int 0, .int 0, .ref (q 208), .int 0, .int 0, .ref (q 209), .ref (q 210), .ref (q 211), .ref (q 212), .ref (q 213), .int 0, .int 0, .ref (q 214), .ref (q 215), .ref (q 216), .int 0, .int 0]))] := hD
    refine lv_aload_n hx hb dX12_years_31 rfl (lv_at hl 0 rfl) ?_
    refine lv_iconst (v := 0) hx hb dX12_years_32 (by decide) ?_
    refine va_put (D := D) (ci := 12) (v := .int 0) (ty := .int) (C := RX12) (T := TX12) (N := 36) hx hb hts iX12 tyX12 tyX12_ok nmX12 hown hK hP hD hS 1 rfl rfl 23 (by decide) (hts _ qf_X12_234) (fun _ h => h) rfl (by decide +kernel) rfl rfl (Nat.le_of_ble_eq_true rfl) dX12_years_33 (fun H locs hP hD hS => ?_)
    have hP : va_P D vwCl [((q 201), .inl (k 1, 5340, .inl (upd at0 (3565 : Int32).toNatClampNeg 0))), ((q 200), .inr (12, [.ref (q 201), .ref (q 202), .int 0, .long 0, .long 1, .ref (q 203), .ref (q 204), .ref (q 205), .ref (q 206), .ref (q 207), .int 0, .int 0, .int 0, .int 0, .int 0, .int (-1), .int (-1), .int (-1), .int 0, .int 0, .int 0, .ref (q 208), .int 0, .int 0, .ref (q 209), .ref (q 210), .ref (q 211), .ref (q 212), .ref (q 213), .int 0, .int 0, .ref (q 214), .ref (q 215), .ref (q 216), .int 0, .int 0]))] H := hP
    have hD : va_D A [((q 201), .inl (k 1, 5340, .inl (upd at0 (3565 : Int32).toNatClampNeg 0))), ((q 200), .inr (12, [.ref (q 201), .ref (q 202), .int 0, .long 0, .long 1, .ref (q 203), .ref (q 204), .ref (q 205), .ref (q 206), .ref (q 207), .int 0, .int 0, .int 0, .int 0, .int 0, .int (-1), .int (-1), .int (-1), .int 0, .int 0, .int 0, .ref (q 208), .int 0, .int 0, .ref (q 209), .ref (q 210), .ref (q 211), .ref (q 212), .ref (q 213), .int 0, .int 0, .ref (q 214), .ref (q 215), .ref (q 216), .int 0, .int 0]))] := hD
    refine lv_iconst (v := 1) hx hb dX12_years_36 (by decide) ?_
    refine lv_istore_n (lv' := [(2, .int 1), (0, .ref (q 200)), (1, .int 0)]) hx hb dX12_years_37 rfl hl (by decide) rfl (fun ls hl => ?_)
    refine lv_iload_n hx hb dX12_years_38 rfl (lv_at hl 0 rfl) ?_
    refine lv_if_eq (tgt := 57) hx hb dX12_years_39 (by decide) (fun c => absurd c (by decide)) (fun _ => ?_)
    refine lv_aload_n hx hb dX12_years_42 rfl (lv_at hl 1 rfl) ?_
    refine va_get (D := D) (ci := 12) (v := .int 0) (C := RX12) (T := TX12) (N := 36) hx hb hts iX12 hown hK hP 1 rfl rfl 12 (by decide) (hts _ qf_X12_127) (fun _ h => h) rfl dX12_years_43 ?_
    refine lv_if_eq (tgt := 57) hx hb dX12_years_46 (by decide) (fun _ => ?_) (fun c => absurd (by decide) c)
    refine lv_aload_n hx hb dX12_years_57 rfl (lv_at hl 1 rfl) ?_
    refine va_get (D := D) (ci := 12) (v := .int 0) (C := RX12) (T := TX12) (N := 36) hx hb hts iX12 hown hK hP 1 rfl rfl 18 (by decide) (hts _ qf_X12_152) (fun _ h => h) rfl dX12_years_58 ?_
    refine lv_if_ne (tgt := 77) hx hb dX12_years_61 (by decide) (fun c => absurd (by decide) c) (fun _ => ?_)
    refine lv_aload_n hx hb dX12_years_64 rfl (lv_at hl 1 rfl) ?_
    refine va_get (D := D) (ci := 12) (v := .int 0) (C := RX12) (T := TX12) (N := 36) hx hb hts iX12 hown hK hP 1 rfl rfl 22 (by decide) (hts _ qf_X12_231) (fun _ h => h) rfl dX12_years_65 ?_
    refine lv_if_le (tgt := 77) hx hb dX12_years_68 (by decide) (fun _ => ?_) (fun c => absurd (by decide) c)
    refine lv_aload_n hx hb dX12_years_77 rfl (lv_at hl 1 rfl) ?_
    refine va_get (D := D) (ci := 12) (v := .int 0) (C := RX12) (T := TX12) (N := 36) hx hb hts iX12 hown hK hP 1 rfl rfl 18 (by decide) (hts _ qf_X12_152) (fun _ h => h) rfl dX12_years_78 ?_
    refine lv_if_ne (tgt := 131) hx hb dX12_years_81 (by decide) (fun c => absurd (by decide) c) (fun _ => ?_)
    refine lv_aload_n hx hb dX12_years_84 rfl (lv_at hl 1 rfl) ?_
    refine va_get (D := D) (ci := 12) (v := .ref (q 201)) (C := RX12) (T := TX12) (N := 36) hx hb hts iX12 hown hK hP 1 rfl rfl 0 (by decide) (hts _ qf_X12_7) (fun _ h => h) rfl dX12_years_85 ?_
    refine lv_iconst (v := 5) hx hb dX12_years_88 (by decide) ?_
    refine lv_aload_n hx hb dX12_years_89 rfl (lv_at hl 1 rfl) ?_
    refine va_get (D := D) (ci := 12) (v := .ref (q 201)) (C := RX12) (T := TX12) (N := 36) hx hb hts iX12 hown hK hP 1 rfl rfl 0 (by decide) (hts _ qf_X12_7) (fun _ h => h) rfl dX12_years_90 ?_
    refine lv_sipush (v := 3565) hx hb dX12_years_93 (by decide) ?_
    refine va_iald hx hb hK hP 0 1 rfl rfl (xin 3565 5340 rfl (by decide) (by decide)) dX12_years_96 ?_
    refine lv_topi (fun x_2 ex_2 => ?_)
    refine va_iast hx hb hK hP hD hS 0 1 rfl rfl (xin 5 5340 rfl (by decide) (by decide)) dX12_years_97 (fun H locs hP hD hS => ?_)
    have hP : va_P D vwCl [((q 201), .inl (k 1, 5340, .inl (upd (upd at0 (3565 : Int32).toNatClampNeg 0) (5 : Int32).toNatClampNeg x_2))), ((q 200), .inr (12, [.ref (q 201), .ref (q 202), .int 0, .long 0, .long 1, .ref (q 203), .ref (q 204), .ref (q 205), .ref (q 206), .ref (q 207), .int 0, .int 0, .int 0, .int 0, .int 0, .int (-1), .int (-1), .int (-1), .int 0, .int 0, .int 0, .ref (q 208), .int 0, .int 0, .ref (q 209), .ref (q 210), .ref (q 211), .ref (q 212), .ref (q 213), .int 0, .int 0, .ref (q 214), .ref (q 215), .ref (q 216), .int 0, .int 0]))] H := hP
    have hD : va_D A [((q 201), .inl (k 1, 5340, .inl (upd (upd at0 (3565 : Int32).toNatClampNeg 0) (5 : Int32).toNatClampNeg x_2))), ((q 200), .inr (12, [.ref (q 201), .ref (q 202), .int 0, .long 0, .long 1, .ref (q 203), .ref (q 204), .ref (q 205), .ref (q 206), .ref (q 207), .int 0, .int 0, .int 0, .int 0, .int 0, .int (-1), .int (-1), .int (-1), .int 0, .int 0, .int 0, .ref (q 208), .int 0, .int 0, .ref (q 209), .ref (q 210), .ref (q 211), .ref (q 212), .ref (q 213), .int 0, .int 0, .ref (q 214), .ref (q 215), .ref (q 216), .int 0, .int 0]))] := hD
    refine lv_sipush (v := 520) hx hb dX12_years_98 (by decide) ?_
    refine lv_istore_n (lv' := [(3, .int 520), (2, .int 1), (0, .ref (q 200)), (1, .int 0)]) hx hb dX12_years_101 rfl hl (by decide) rfl (fun ls hl => ?_)
    have HL : ∀ (r i : Nat) (g : Nat → Int32) (H : Heap) (locs : List Loc) (ls : Array Slot), i + r = 884 → va_P D vwCl [((q 201), .inl (k 1, 5340, .inl g)), ((q 200), .inr (12, [.ref (q 201), .ref (q 202), .int 0, .long 0, .long 1, .ref (q 203), .ref (q 204), .ref (q 205), .ref (q 206), .ref (q 207), .int 0, .int 0, .int 0, .int 0, .int 0, .int (-1), .int (-1), .int (-1), .int 0, .int 0, .int 0, .ref (q 208), .int 0, .int 0, .ref (q 209), .ref (q 210), .ref (q 211), .ref (q 212), .ref (q 213), .int 0, .int 0, .ref (q 214), .ref (q 215), .ref (q 216), .int 0, .int 0]))] H → va_D A [((q 201), .inl (k 1, 5340, .inl g)), ((q 200), .inr (12, [.ref (q 201), .ref (q 202), .int 0, .long 0, .long 1, .ref (q 203), .ref (q 204), .ref (q 205), .ref (q 206), .ref (q 207), .int 0, .int 0, .int 0, .int 0, .int 0, .int (-1), .int (-1), .int (-1), .int 0, .int 0, .int 0, .ref (q 208), .int 0, .int 0, .ref (q 209), .ref (q 210), .ref (q 211), .ref (q 212), .ref (q 213), .int 0, .int 0, .ref (q 214), .ref (q 215), .ref (q 216), .int 0, .int 0]))] → va_S A s.heap H locs → lv_has ls 4 [(3, .int (nI i)), (2, .int 1), (0, .ref (q 200)), (1, .int 0)] → W p l e (rj 8 0 0) s m [.ref (q 200), .int 0].toArray below meth c H locs 0 0 (MQ below (QW (σ := Unit) (fun _ => some (.int (inA 0 0))) (fun _ => True) (fun _ => []) D A) [.ref (q 200), .int 0].toArray s 0 0 A) (F0 m 102 ls []) := by
      intro r
      induction r with
      | zero =>
        intro i g H locs ls hi  hP hD hS hl
        refine lv_iload_n hx hb dX12_years_102 rfl (lv_at hl 0 rfl) ?_
        refine lv_sipush (v := 884) hx hb dX12_years_103 (by decide) ?_
        refine lv_icmp_ge (tgt := 131) hx hb dX12_years_106 (by decide) (fun _ => ?_) (fun c => absurd (nI_le (a := 884) (b := i) (by omega) (by omega)) c)
        refine lv_aload_n hx hb dX12_years_131 rfl (lv_at hl 2 rfl) ?_
        refine lv_aload_n hx hb dX12_years_132 rfl (lv_at hl 2 rfl) ?_
        refine va_get (D := D) (ci := 12) (v := .int 0) (C := RX12) (T := TX12) (N := 36) hx hb hts iX12 hown hK hP 1 rfl rfl 23 (by decide) (hts _ qf_X12_234) (fun _ h => h) rfl dX12_years_133 ?_
        refine CWV (As := [.int 0]) (rest := []) (wc := [((q 200), .inr (12, [.ref (q 201), .ref (q 202), .int 0, .long 0, .long 1, .ref (q 203), .ref (q 204), .ref (q 205), .ref (q 206), .ref (q 207), .int 0, .int 0, .int 0, .int 0, .int 0, .int (-1), .int (-1), .int (-1), .int 0, .int 0, .int 0, .ref (q 208), .int 0, .int 0, .ref (q 209), .ref (q 210), .ref (q 211), .ref (q 212), .ref (q 213), .int 0, .int 0, .ref (q 214), .ref (q 215), .ref (q 216), .int 0, .int 0]))]) (wr := [((q 201), .inl (k 1, 5340, .inl g))]) hx hb hml hown hts hKK hP hD hS hA (m_taken0 l D k q) ci_X12_taken qm_X12_222 ⟨Nat.le_of_ble_eq_true rfl, Nat.le_of_ble_eq_true rfl⟩ ⟨Nat.le_of_ble_eq_true rfl, Nat.le_of_ble_eq_true rfl⟩ [1] [0] rfl rfl rfl rfl rfl (by decide) 0 rfl rfl rfl hl.1 rfl (Nat.le_of_ble_eq_true rfl) dX12_years_136 (fun u_3 H locs hφ hP hD hS => ?_)
        have hP : va_P D vwCl [((q 201), .inl (k 1, 5340, .inl g))] H := hP
        have hD : va_D A [((q 201), .inl (k 1, 5340, .inl g))] := hD
        refine W.eq (g2 := F0 m 139 ls [.int 0]) rfl ?_
        exact EWi hx hb hr hlocks hS () (by rw [inA00]) trivial nil_P nil_D dX12_years_139
      | succ r ih =>
        intro i g H locs ls hi  hP hD hS hl
        refine lv_iload_n hx hb dX12_years_102 rfl (lv_at hl 0 rfl) ?_
        refine lv_sipush (v := 884) hx hb dX12_years_103 (by decide) ?_
        refine lv_icmp_ge (tgt := 131) hx hb dX12_years_106 (by decide) (fun c => absurd c (nI_ge (a := i) (b := 884) (by omega) (by omega))) (fun _ => ?_)
        refine lv_aload_n hx hb dX12_years_109 rfl (lv_at hl 2 rfl) ?_
        refine va_get (D := D) (ci := 12) (v := .ref (q 201)) (C := RX12) (T := TX12) (N := 36) hx hb hts iX12 hown hK hP 1 rfl rfl 0 (by decide) (hts _ qf_X12_7) (fun _ h => h) rfl dX12_years_110 ?_
        refine lv_iload_n hx hb dX12_years_113 rfl (lv_at hl 0 rfl) ?_
        refine lv_aload_n hx hb dX12_years_114 rfl (lv_at hl 2 rfl) ?_
        refine va_get (D := D) (ci := 12) (v := .ref (q 201)) (C := RX12) (T := TX12) (N := 36) hx hb hts iX12 hown hK hP 1 rfl rfl 0 (by decide) (hts _ qf_X12_7) (fun _ h => h) rfl dX12_years_115 ?_
        refine lv_sipush (v := 3560) hx hb dX12_years_118 (by decide) ?_
        refine lv_iload_n hx hb dX12_years_121 rfl (lv_at hl 0 rfl) ?_
        refine lv_iadd hx hb dX12_years_122 ?_
        refine lv_topi (fun x_4 ex_4 => ?_)
        obtain rfl : x_4 = nI (3560 + i) := ex_4.trans (nI_add 3560 i)
        refine va_iald hx hb hK hP 0 1 rfl rfl (vp_in_nI (by omega) (by decide)) dX12_years_123 ?_
        refine lv_topi (fun x_5 ex_5 => ?_)
        refine va_iast hx hb hK hP hD hS 0 1 rfl rfl (vp_in_nI (by omega) (by decide)) dX12_years_124 (fun H locs hP hD hS => ?_)
        have hP : va_P D vwCl [((q 201), .inl (k 1, 5340, .inl (upd g (nI i : Int32).toNatClampNeg x_5))), ((q 200), .inr (12, [.ref (q 201), .ref (q 202), .int 0, .long 0, .long 1, .ref (q 203), .ref (q 204), .ref (q 205), .ref (q 206), .ref (q 207), .int 0, .int 0, .int 0, .int 0, .int 0, .int (-1), .int (-1), .int (-1), .int 0, .int 0, .int 0, .ref (q 208), .int 0, .int 0, .ref (q 209), .ref (q 210), .ref (q 211), .ref (q 212), .ref (q 213), .int 0, .int 0, .ref (q 214), .ref (q 215), .ref (q 216), .int 0, .int 0]))] H := hP
        have hD : va_D A [((q 201), .inl (k 1, 5340, .inl (upd g (nI i : Int32).toNatClampNeg x_5))), ((q 200), .inr (12, [.ref (q 201), .ref (q 202), .int 0, .long 0, .long 1, .ref (q 203), .ref (q 204), .ref (q 205), .ref (q 206), .ref (q 207), .int 0, .int 0, .int 0, .int 0, .int 0, .int (-1), .int (-1), .int (-1), .int 0, .int 0, .int 0, .ref (q 208), .int 0, .int 0, .ref (q 209), .ref (q 210), .ref (q 211), .ref (q 212), .ref (q 213), .int 0, .int 0, .ref (q 214), .ref (q 215), .ref (q 216), .int 0, .int 0]))] := hD
        refine lv_iinc (v := nI (i + 1)) (lv' := [(3, .int (nI (i + 1))), (2, .int 1), (0, .ref (q 200)), (1, .int 0)]) hx hb dX12_years_125 hl (k := 0) rfl (nI_1 i) (by decide) rfl (fun ls hl => ?_)
        refine lv_goto (tgt := 102) hx hb dX12_years_128 (by decide) ?_
        exact ih (i + 1) _ _ _ _ (by omega)  (hP.sub [0, 1] rfl) (hD.sub [0, 1] rfl rfl) hS (lv_sub hl [0, 1, 2, 3] rfl)
    exact HL 364 520 _ _ _ _ (by omega)  (hP.sub [0, 1] rfl) (hD.sub [0, 1] rfl rfl) hS (lv_sub hl [0, 1, 2, 3] rfl)
  ·
    refine lv_aload_n hx hb dX12_years_0 rfl (lv_at hl 0 rfl) ?_
    refine lv_iload_n hx hb dX12_years_1 rfl (lv_at hl 1 rfl) ?_
    refine lv_sipush (v := 300) hx hb dX12_years_2 (by decide) ?_
    refine CWV (As := [.int a, .int 300]) (rest := []) (wc := [((q 200), .inr (12, [.ref (q 201), .ref (q 202), .int 0, .long 0, .long 1, .ref (q 203), .ref (q 204), .ref (q 205), .ref (q 206), .ref (q 207), .int 0, .int 0, .int 0, .int 0, .int 0, .int 0, .int (-1), .int (-1), .int 0, .int 0, .int 0, .ref (q 208), .int 0, .int 0, .ref (q 209), .ref (q 210), .ref (q 211), .ref (q 212), .ref (q 213), .int 0, .int 0, .ref (q 214), .ref (q 215), .ref (q 216), .int 0, .int 0]))]) (wr := [((q 201), .inl (k 1, 5340, .inl at0))]) hx hb hml hown hts hKK hP hD hS hA (m_beginsN300 l D k q a hane) ci_X12_begins qm_X12_215 ⟨Nat.le_of_ble_eq_true rfl, Nat.le_of_ble_eq_true rfl⟩ ⟨Nat.le_of_ble_eq_true rfl, Nat.le_of_ble_eq_true rfl⟩ [0] [1] rfl rfl rfl rfl rfl (by decide) 0 rfl rfl rfl hl.1 rfl (Nat.le_of_ble_eq_true rfl) dX12_years_5 (fun u_6 H locs hφ hP hD hS => ?_)
    have hP : va_P D vwCl [((q 201), .inl (k 1, 5340, .inl at0)), ((q 200), .inr (12, [.ref (q 201), .ref (q 202), .int 0, .long 0, .long 1, .ref (q 203), .ref (q 204), .ref (q 205), .ref (q 206), .ref (q 207), .int 0, .int 0, .int 0, .int 0, .int 0, .int 0, .int (-1), .int (-1), .int 0, .int 0, .int 0, .ref (q 208), .int 0, .int 0, .ref (q 209), .ref (q 210), .ref (q 211), .ref (q 212), .ref (q 213), .int 0, .int 0, .ref (q 214), .ref (q 215), .ref (q 216), .int 0, .int 0]))] H := hP
    have hD : va_D A [((q 201), .inl (k 1, 5340, .inl at0)), ((q 200), .inr (12, [.ref (q 201), .ref (q 202), .int 0, .long 0, .long 1, .ref (q 203), .ref (q 204), .ref (q 205), .ref (q 206), .ref (q 207), .int 0, .int 0, .int 0, .int 0, .int 0, .int 0, .int (-1), .int (-1), .int 0, .int 0, .int 0, .ref (q 208), .int 0, .int 0, .ref (q 209), .ref (q 210), .ref (q 211), .ref (q 212), .ref (q 213), .int 0, .int 0, .ref (q 214), .ref (q 215), .ref (q 216), .int 0, .int 0]))] := hD
    refine W.eq (g2 := F0 m 8 ls [.int 0]) rfl ?_
    refine lv_if_ne (tgt := 17) hx hb dX12_years_8 (by decide) (fun c => absurd (by decide) c) (fun _ => ?_)
    refine lv_aload_n hx hb dX12_years_11 rfl (lv_at hl 0 rfl) ?_
    refine lv_iconst (v := 1) hx hb dX12_years_12 (by decide) ?_
    refine CWV (As := [.int 1]) (rest := []) (wc := [((q 200), .inr (12, [.ref (q 201), .ref (q 202), .int 0, .long 0, .long 1, .ref (q 203), .ref (q 204), .ref (q 205), .ref (q 206), .ref (q 207), .int 0, .int 0, .int 0, .int 0, .int 0, .int 0, .int (-1), .int (-1), .int 0, .int 0, .int 0, .ref (q 208), .int 0, .int 0, .ref (q 209), .ref (q 210), .ref (q 211), .ref (q 212), .ref (q 213), .int 0, .int 0, .ref (q 214), .ref (q 215), .ref (q 216), .int 0, .int 0]))]) (wr := [((q 201), .inl (k 1, 5340, .inl at0))]) hx hb hml hown hts hKK hP hD hS hA (m_refuse l D k (q 200) [.ref (q 201), .ref (q 202), .int 0, .long 0, .long 1, .ref (q 203), .ref (q 204), .ref (q 205), .ref (q 206), .ref (q 207), .int 0, .int 0, .int 0, .int 0, .int 0, .int 0, .int (-1), .int (-1), .int 0, .int 0, .int 0, .ref (q 208), .int 0, .int 0, .ref (q 209), .ref (q 210), .ref (q 211), .ref (q 212), .ref (q 213), .int 0, .int 0, .ref (q 214), .ref (q 215), .ref (q 216), .int 0, .int 0] (Nat.le_of_ble_eq_true rfl) 1) ci_X12_refuse qm_X12_81 ⟨Nat.le_of_ble_eq_true rfl, Nat.le_of_ble_eq_true rfl⟩ ⟨Nat.le_of_ble_eq_true rfl, Nat.le_of_ble_eq_true rfl⟩ [1] [0] rfl rfl rfl rfl rfl (by decide) 0 rfl rfl rfl hl.1 rfl (Nat.le_of_ble_eq_true rfl) dX12_years_13 (fun u_7 H locs hφ hP hD hS => ?_)
    have hP : va_P D vwCl [((q 201), .inl (k 1, 5340, .inl at0))] H := hP
    have hD : va_D A [((q 201), .inl (k 1, 5340, .inl at0))] := hD
    refine W.eq (g2 := F0 m 16 ls [.int (-1)]) rfl ?_
    exact EWi hx hb hr hlocks hS () (by rw [inA0 hane]) trivial nil_P nil_D dX12_years_16
set_option maxHeartbeats 4000000 in
set_option maxRecDepth 100000 in
theorem r_peace (l : Launch) (D : va_G) (k : Nat → ClassId) (q : Nat → Nat) (a : Int32) : WD (σ := Unit) l yX12_peace cX12_peace 5 (some .int) 8 0 0 D k [.ref (q 200), .int a] [((q 200), .inr (12, [.ref (q 201), .ref (q 202), .int 0, .long 0, .long 1, .ref (q 203), .ref (q 204), .ref (q 205), .ref (q 206), .ref (q 207), .int 0, .int 0, .int 0, .int 0, .int 0, .int 0, .int (-1), .int (-1), .int 0, .int 0, .int 0, .ref (q 208), .int 0, .int 0, .ref (q 209), .ref (q 210), .ref (q 211), .ref (q 212), .ref (q 213), .int 0, .int 0, .ref (q 214), .ref (q 215), .ref (q 216), .int 0, .int 0])), ((q 201), .inl (k 1, 5340, .inl at0))] (fun _ => some (.int (-1))) (fun _ => True) (fun _ => []) := by
  refine MW (by decide) (Nat.le_of_ble_eq_true rfl) (fun p e s m below meth c ls A hx hb hml hr hlocks hin hts hown hKK hP hD hS hA hl => ?_)
  have hK := hKK.1
  have hl : lv_has ls 5 [(0, .ref (q 200)), (1, .int a)] := hl
  refine lv_iload_n hx hb dX12_peace_0 rfl (lv_at hl 1 rfl) ?_
  refine CRS (As := [.int a]) (rest := []) hx hb hml hown hts hKK (hP.sub (ws' := []) [] rfl) (m_isAsked l D k a) ci_X12_isAsked qm_X12_258 ⟨Nat.le_of_ble_eq_true rfl, Nat.le_of_ble_eq_true rfl⟩ ⟨Nat.le_of_ble_eq_true rfl, Nat.le_of_ble_eq_true rfl⟩ rfl hl.1 rfl (Nat.le_of_ble_eq_true rfl) dX12_peace_1 ?_
  refine lv_if_ne (tgt := 13) hx hb dX12_peace_4 (by decide) (fun c_1 => ?_) (fun c_1 => ?_)
  ·
    obtain ⟨w0, hw0, rfl⟩ := bw_nat 500 (by decide) c_1
    refine lv_aload_n hx hb dX12_peace_13 rfl (lv_at hl 0 rfl) ?_
    refine CWV (As := []) (rest := []) (wc := [((q 200), .inr (12, [.ref (q 201), .ref (q 202), .int 0, .long 0, .long 1, .ref (q 203), .ref (q 204), .ref (q 205), .ref (q 206), .ref (q 207), .int 0, .int 0, .int 0, .int 0, .int 0, .int 0, .int (-1), .int (-1), .int 0, .int 0, .int 0, .ref (q 208), .int 0, .int 0, .ref (q 209), .ref (q 210), .ref (q 211), .ref (q 212), .ref (q 213), .int 0, .int 0, .ref (q 214), .ref (q 215), .ref (q 216), .int 0, .int 0])), ((q 201), .inl (k 1, 5340, .inl at0))]) (wr := []) hx hb hml hown hts hKK hP hD hS hA (m_laysOrders l D k q) ci_X12_laysOrders qm_X12_330 ⟨Nat.le_of_ble_eq_true rfl, Nat.le_of_ble_eq_true rfl⟩ ⟨Nat.le_of_ble_eq_true rfl, Nat.le_of_ble_eq_true rfl⟩ [0, 1] [] rfl rfl rfl rfl rfl (by decide) 0 rfl rfl rfl hl.1 rfl (Nat.le_of_ble_eq_true rfl) dX12_peace_14 (fun u_2 H locs hφ hP hD hS => ?_)
    have hP : va_P D vwCl [((q 200), .inr (12, [.ref (q 201), .ref (q 202), .int 0, .long 0, .long 1, .ref (q 203), .ref (q 204), .ref (q 205), .ref (q 206), .ref (q 207), .int 0, .int 0, .int 0, .int 0, .int 0, .int 0, .int (-1), .int (-1), .int 0, .int 0, .int 0, .ref (q 208), .int 0, .int 0, .ref (q 209), .ref (q 210), .ref (q 211), .ref (q 212), .ref (q 213), .int 0, .int 0, .ref (q 214), .ref (q 215), .ref (q 216), .int 0, .int 0])), ((q 201), .inl (k 1, 5340, .inl at0))] H := hP
    have hD : va_D A [((q 200), .inr (12, [.ref (q 201), .ref (q 202), .int 0, .long 0, .long 1, .ref (q 203), .ref (q 204), .ref (q 205), .ref (q 206), .ref (q 207), .int 0, .int 0, .int 0, .int 0, .int 0, .int 0, .int (-1), .int (-1), .int 0, .int 0, .int 0, .ref (q 208), .int 0, .int 0, .ref (q 209), .ref (q 210), .ref (q 211), .ref (q 212), .ref (q 213), .int 0, .int 0, .ref (q 214), .ref (q 215), .ref (q 216), .int 0, .int 0])), ((q 201), .inl (k 1, 5340, .inl at0))] := hD
    refine W.eq (g2 := F0 m 17 ls []) rfl ?_
    refine lv_iload_n hx hb dX12_peace_17 rfl (lv_at hl 1 rfl) ?_
    refine lv_istore_n (lv' := [(2, .int (nI w0)), (0, .ref (q 200)), (1, .int (nI w0))]) hx hb dX12_peace_18 rfl hl (by decide) rfl (fun ls hl => ?_)
    have HL : ∀ (r i : Nat) (H : Heap) (locs : List Loc) (ls : Array Slot), i + r = 501 → va_P D vwCl [((q 200), .inr (12, [.ref (q 201), .ref (q 202), .int 0, .long 0, .long 1, .ref (q 203), .ref (q 204), .ref (q 205), .ref (q 206), .ref (q 207), .int 0, .int 0, .int 0, .int 0, .int 0, .int 0, .int (-1), .int (-1), .int 0, .int 0, .int 0, .ref (q 208), .int 0, .int 0, .ref (q 209), .ref (q 210), .ref (q 211), .ref (q 212), .ref (q 213), .int 0, .int 0, .ref (q 214), .ref (q 215), .ref (q 216), .int 0, .int 0])), ((q 201), .inl (k 1, 5340, .inl at0))] H → va_D A [((q 200), .inr (12, [.ref (q 201), .ref (q 202), .int 0, .long 0, .long 1, .ref (q 203), .ref (q 204), .ref (q 205), .ref (q 206), .ref (q 207), .int 0, .int 0, .int 0, .int 0, .int 0, .int 0, .int (-1), .int (-1), .int 0, .int 0, .int 0, .ref (q 208), .int 0, .int 0, .ref (q 209), .ref (q 210), .ref (q 211), .ref (q 212), .ref (q 213), .int 0, .int 0, .ref (q 214), .ref (q 215), .ref (q 216), .int 0, .int 0])), ((q 201), .inl (k 1, 5340, .inl at0))] → va_S A s.heap H locs → lv_has ls 5 [(2, .int (nI i)), (0, .ref (q 200)), (1, .int (nI w0))] → W p l e (rj 8 0 0) s m [.ref (q 200), .int (nI w0)].toArray below meth c H locs 0 0 (MQ below (QW (σ := Unit) (fun _ => some (.int (-1))) (fun _ => True) (fun _ => []) D A) [.ref (q 200), .int (nI w0)].toArray s 0 0 A) (F0 m 19 ls []) := by
      intro r
      induction r with
      | zero =>
        intro i  H locs ls hi  hP hD hS hl
        refine lv_iload_n hx hb dX12_peace_19 rfl (lv_at hl 0 rfl) ?_
        refine lv_sipush (v := 500) hx hb dX12_peace_20 (by decide) ?_
        refine lv_icmp_gt (tgt := 114) hx hb dX12_peace_23 (by decide) (fun _ => ?_) (fun c => absurd (nI_lt (a := 500) (b := i) (by omega) (by omega)) c)
        refine lv_aload_n hx hb dX12_peace_114 rfl (lv_at hl 1 rfl) ?_
        refine lv_bipush (v := 6) hx hb dX12_peace_115 (by decide) ?_
        refine CWV (As := [.int 6]) (rest := []) (wc := [((q 200), .inr (12, [.ref (q 201), .ref (q 202), .int 0, .long 0, .long 1, .ref (q 203), .ref (q 204), .ref (q 205), .ref (q 206), .ref (q 207), .int 0, .int 0, .int 0, .int 0, .int 0, .int 0, .int (-1), .int (-1), .int 0, .int 0, .int 0, .ref (q 208), .int 0, .int 0, .ref (q 209), .ref (q 210), .ref (q 211), .ref (q 212), .ref (q 213), .int 0, .int 0, .ref (q 214), .ref (q 215), .ref (q 216), .int 0, .int 0]))]) (wr := [((q 201), .inl (k 1, 5340, .inl at0))]) hx hb hml hown hts hKK hP hD hS hA (m_refuse l D k (q 200) [.ref (q 201), .ref (q 202), .int 0, .long 0, .long 1, .ref (q 203), .ref (q 204), .ref (q 205), .ref (q 206), .ref (q 207), .int 0, .int 0, .int 0, .int 0, .int 0, .int 0, .int (-1), .int (-1), .int 0, .int 0, .int 0, .ref (q 208), .int 0, .int 0, .ref (q 209), .ref (q 210), .ref (q 211), .ref (q 212), .ref (q 213), .int 0, .int 0, .ref (q 214), .ref (q 215), .ref (q 216), .int 0, .int 0] (Nat.le_of_ble_eq_true rfl) 6) ci_X12_refuse qm_X12_81 ⟨Nat.le_of_ble_eq_true rfl, Nat.le_of_ble_eq_true rfl⟩ ⟨Nat.le_of_ble_eq_true rfl, Nat.le_of_ble_eq_true rfl⟩ [0] [1] rfl rfl rfl rfl rfl (by decide) 0 rfl rfl rfl hl.1 rfl (Nat.le_of_ble_eq_true rfl) dX12_peace_117 (fun u_3 H locs hφ hP hD hS => ?_)
        have hP : va_P D vwCl [((q 201), .inl (k 1, 5340, .inl at0))] H := hP
        have hD : va_D A [((q 201), .inl (k 1, 5340, .inl at0))] := hD
        refine W.eq (g2 := F0 m 120 ls [.int (-1)]) rfl ?_
        exact EWi hx hb hr hlocks hS () rfl trivial nil_P nil_D dX12_peace_120
      | succ r ih =>
        intro i  H locs ls hi  hP hD hS hl
        refine lv_iload_n hx hb dX12_peace_19 rfl (lv_at hl 0 rfl) ?_
        refine lv_sipush (v := 500) hx hb dX12_peace_20 (by decide) ?_
        refine lv_icmp_gt (tgt := 114) hx hb dX12_peace_23 (by decide) (fun c => absurd c (nI_nlt (a := 500) (b := i) (by omega) (by omega))) (fun _ => ?_)
        refine lv_aload_n hx hb dX12_peace_26 rfl (lv_at hl 1 rfl) ?_
        refine va_get (D := D) (ci := 12) (v := .ref (q 201)) (C := RX12) (T := TX12) (N := 36) hx hb hts iX12 hown hK hP 0 rfl rfl 0 (by decide) (hts _ qf_X12_7) (fun _ h => h) rfl dX12_peace_27 ?_
        refine lv_iconst (v := 0) hx hb dX12_peace_30 (by decide) ?_
        refine va_iald hx hb hK hP 1 1 rfl rfl (xin 0 5340 rfl (by decide) (by decide)) dX12_peace_31 ?_
        refine lv_topi (fun x_4 ex_4 => ?_)
        obtain rfl : x_4 = 0 := ex_4.trans (by decide +kernel)
        refine lv_if_le (tgt := 39) hx hb dX12_peace_32 (by decide) (fun _ => ?_) (fun c => absurd (by decide) c)
        refine lv_iconst (v := 0) hx hb dX12_peace_39 (by decide) ?_
        refine lv_istore_n (lv' := [(3, .int 0), (2, .int (nI i)), (0, .ref (q 200)), (1, .int (nI w0))]) hx hb dX12_peace_40 rfl hl (by decide) rfl (fun ls hl => ?_)
        refine lv_iconst (v := 0) hx hb dX12_peace_41 (by decide) ?_
        refine lv_istore (lv' := [(4, .int 0), (3, .int 0), (2, .int (nI i)), (0, .ref (q 200)), (1, .int (nI w0))]) hx hb dX12_peace_42 hl (by decide) rfl (fun ls hl => ?_)
        refine lv_iload hx hb dX12_peace_44 (lv_at hl 0 rfl) ?_
        refine lv_aload_n hx hb dX12_peace_46 rfl (lv_at hl 3 rfl) ?_
        refine va_get (D := D) (ci := 12) (v := .ref (q 201)) (C := RX12) (T := TX12) (N := 36) hx hb hts iX12 hown hK hP 0 rfl rfl 0 (by decide) (hts _ qf_X12_7) (fun _ h => h) rfl dX12_peace_47 ?_
        refine lv_iconst (v := 0) hx hb dX12_peace_50 (by decide) ?_
        refine va_iald hx hb hK hP 1 1 rfl rfl (xin 0 5340 rfl (by decide) (by decide)) dX12_peace_51 ?_
        refine lv_topi (fun x_5 ex_5 => ?_)
        obtain rfl : x_5 = 0 := ex_5.trans (by decide +kernel)
        refine lv_icmp_ge (tgt := 98) hx hb dX12_peace_52 (by decide) (fun _ => ?_) (fun c => absurd (by decide) c)
        refine lv_iload_n hx hb dX12_peace_98 rfl (lv_at hl 1 rfl) ?_
        refine lv_if_eq (tgt := 108) hx hb dX12_peace_99 (by decide) (fun _ => ?_) (fun c => absurd (by decide) c)
        refine lv_iinc (v := nI (i + 1)) (lv' := [(2, .int (nI (i + 1))), (4, .int 0), (3, .int 0), (0, .ref (q 200)), (1, .int (nI w0))]) hx hb dX12_peace_108 hl (k := 2) rfl (nI_1 i) (by decide) rfl (fun ls hl => ?_)
        refine lv_goto (tgt := 19) hx hb dX12_peace_111 (by decide) ?_
        exact ih (i + 1)  _ _ _ (by omega)  (hP.sub [0, 1] rfl) (hD.sub [0, 1] rfl rfl) hS (lv_sub hl [0, 3, 4] rfl)
    exact HL (501 - w0) w0  _ _ _ (by omega)  (hP.sub [0, 1] rfl) (hD.sub [0, 1] rfl rfl) hS (lv_sub hl [0, 1, 2] rfl)
  ·
    refine lv_aload_n hx hb dX12_peace_7 rfl (lv_at hl 0 rfl) ?_
    refine lv_iconst (v := 1) hx hb dX12_peace_8 (by decide) ?_
    refine CWV (As := [.int 1]) (rest := []) (wc := [((q 200), .inr (12, [.ref (q 201), .ref (q 202), .int 0, .long 0, .long 1, .ref (q 203), .ref (q 204), .ref (q 205), .ref (q 206), .ref (q 207), .int 0, .int 0, .int 0, .int 0, .int 0, .int 0, .int (-1), .int (-1), .int 0, .int 0, .int 0, .ref (q 208), .int 0, .int 0, .ref (q 209), .ref (q 210), .ref (q 211), .ref (q 212), .ref (q 213), .int 0, .int 0, .ref (q 214), .ref (q 215), .ref (q 216), .int 0, .int 0]))]) (wr := [((q 201), .inl (k 1, 5340, .inl at0))]) hx hb hml hown hts hKK hP hD hS hA (m_refuse l D k (q 200) [.ref (q 201), .ref (q 202), .int 0, .long 0, .long 1, .ref (q 203), .ref (q 204), .ref (q 205), .ref (q 206), .ref (q 207), .int 0, .int 0, .int 0, .int 0, .int 0, .int 0, .int (-1), .int (-1), .int 0, .int 0, .int 0, .ref (q 208), .int 0, .int 0, .ref (q 209), .ref (q 210), .ref (q 211), .ref (q 212), .ref (q 213), .int 0, .int 0, .ref (q 214), .ref (q 215), .ref (q 216), .int 0, .int 0] (Nat.le_of_ble_eq_true rfl) 1) ci_X12_refuse qm_X12_81 ⟨Nat.le_of_ble_eq_true rfl, Nat.le_of_ble_eq_true rfl⟩ ⟨Nat.le_of_ble_eq_true rfl, Nat.le_of_ble_eq_true rfl⟩ [0] [1] rfl rfl rfl rfl rfl (by decide) 0 rfl rfl rfl hl.1 rfl (Nat.le_of_ble_eq_true rfl) dX12_peace_9 (fun u_6 H locs hφ hP hD hS => ?_)
    have hP : va_P D vwCl [((q 201), .inl (k 1, 5340, .inl at0))] H := hP
    have hD : va_D A [((q 201), .inl (k 1, 5340, .inl at0))] := hD
    refine W.eq (g2 := F0 m 12 ls [.int (-1)]) rfl ?_
    exact EWi hx hb hr hlocks hS () rfl trivial nil_P nil_D dX12_peace_12
theorem gs_0 {g : Nat → Int32} {i : Nat} {x y : Int32} (hi : i < 400) : upd (upd g (nI (118 + (i + 1))).toNatClampNeg x) (3 : Int32).toNatClampNeg y 0 = g 0 := by
  have h3 : (3 : Int32).toNatClampNeg = 3 := by decide
  rw [h3, pk_un (by omega), upd_o (by omega) (by omega)]
theorem gs_3 {g : Nat → Int32} {y : Int32} : upd g (3 : Int32).toNatClampNeg y 3 = y := by
  have h3 : (3 : Int32).toNatClampNeg = 3 := by decide
  rw [h3, pk_us]
set_option maxHeartbeats 4000000 in
set_option maxRecDepth 100000 in
theorem m_goes (l : Launch) (D : va_G) (k : Nat → ClassId) (q : Nat → Nat) (g : Nat → Int32) (i : Nat) (hi : i < 400) (h0 : g 0 = 0) (h3 : g 3 = nI i) : WD (σ := (Nat → Int32)) l yX12_goes cX12_goes 7 (some .boolean) 0 0 0 D k [.ref (q 200)] [((q 200), .inr (12, [.ref (q 201), .ref (q 202), .int 0, .long 0, .long 1, .ref (q 203), .ref (q 204), .ref (q 205), .ref (q 206), .ref (q 207), .int 0, .int 0, .int 0, .int 0, .int 0, .int 0, .int (-1), .int (-1), .int 0, .int 0, .int 0, .ref (q 208), .int 0, .int 0, .ref (q 209), .ref (q 210), .ref (q 211), .ref (q 212), .ref (q 213), .int 0, .int 0, .ref (q 214), .ref (q 215), .ref (q 216), .int 0, .int 0])), ((q 201), .inl (k 1, 5340, .inl g))] (fun _ => some (.int 1)) (fun g2 => g2 0 = 0 ∧ g2 3 = nI (i + 1)) (fun g2 => [((q 200), .inr (12, [.ref (q 201), .ref (q 202), .int 0, .long 0, .long 1, .ref (q 203), .ref (q 204), .ref (q 205), .ref (q 206), .ref (q 207), .int 0, .int 0, .int 0, .int 0, .int 0, .int 0, .int (-1), .int (-1), .int 0, .int 0, .int 0, .ref (q 208), .int 0, .int 0, .ref (q 209), .ref (q 210), .ref (q 211), .ref (q 212), .ref (q 213), .int 0, .int 0, .ref (q 214), .ref (q 215), .ref (q 216), .int 0, .int 0])), ((q 201), .inl (k 1, 5340, .inl g2))]) := by
  refine MW (by decide) (Nat.le_of_ble_eq_true rfl) (fun p e s m below meth c ls A hx hb hml hr hlocks hin hts hown hKK hP hD hS hA hl => ?_)
  have hK := hKK.1
  have hl : lv_has ls 7 [(0, .ref (q 200))] := hl
  refine lv_aload_n hx hb dX12_goes_0 rfl (lv_at hl 0 rfl) ?_
  refine va_get (D := D) (ci := 12) (v := .ref (q 201)) (C := RX12) (T := TX12) (N := 36) hx hb hts iX12 hown hK hP 0 rfl rfl 0 (by decide) (hts _ qf_X12_7) (fun _ h => h) rfl dX12_goes_1 ?_
  refine lv_iconst (v := 3) hx hb dX12_goes_4 (by decide) ?_
  refine va_iald hx hb hK hP 1 1 rfl rfl (xin 3 5340 rfl (by decide) (by decide)) dX12_goes_5 ?_
  refine lv_topi (fun x_1 ex_1 => ?_)
  obtain rfl : x_1 = nI i := ex_1.trans h3
  refine lv_sipush (v := 400) hx hb dX12_goes_6 (by decide) ?_
  refine lv_icmp_ne (tgt := 14) hx hb dX12_goes_9 (by decide) (fun _ => ?_) (fun c => absurd c (fun q => absurd ((nI_eq (by omega) (by decide)).mp (show nI i = nI 400 from q)) (by omega)))
  refine lv_aload_n hx hb dX12_goes_14 rfl (lv_at hl 0 rfl) ?_
  refine va_get (D := D) (ci := 12) (v := .ref (q 201)) (C := RX12) (T := TX12) (N := 36) hx hb hts iX12 hown hK hP 0 rfl rfl 0 (by decide) (hts _ qf_X12_7) (fun _ h => h) rfl dX12_goes_15 ?_
  refine lv_iconst (v := 3) hx hb dX12_goes_18 (by decide) ?_
  refine va_iald hx hb hK hP 1 1 rfl rfl (xin 3 5340 rfl (by decide) (by decide)) dX12_goes_19 ?_
  refine lv_topi (fun x_2 ex_2 => ?_)
  obtain rfl : x_2 = nI i := ex_2.trans h3
  refine lv_iconst (v := 1) hx hb dX12_goes_20 (by decide) ?_
  refine lv_iadd hx hb dX12_goes_21 ?_
  refine lv_topi (fun x_3 ex_3 => ?_)
  obtain rfl : x_3 = nI (i + 1) := ex_3.trans (nI_1 i)
  refine lv_istore_n (lv' := [(1, .int (nI (i + 1))), (0, .ref (q 200))]) hx hb dX12_goes_22 rfl hl (by decide) rfl (fun ls hl => ?_)
  refine lv_iconst (v := 0) hx hb dX12_goes_23 (by decide) ?_
  refine lv_istore_n (lv' := [(2, .int 0), (1, .int (nI (i + 1))), (0, .ref (q 200))]) hx hb dX12_goes_24 rfl hl (by decide) rfl (fun ls hl => ?_)
  refine lv_iconst (v := 0) hx hb dX12_goes_25 (by decide) ?_
  refine lv_istore_n (lv' := [(3, .int 0), (2, .int 0), (1, .int (nI (i + 1))), (0, .ref (q 200))]) hx hb dX12_goes_26 rfl hl (by decide) rfl (fun ls hl => ?_)
  refine lv_iload_n hx hb dX12_goes_27 rfl (lv_at hl 0 rfl) ?_
  refine lv_aload_n hx hb dX12_goes_28 rfl (lv_at hl 3 rfl) ?_
  refine va_get (D := D) (ci := 12) (v := .ref (q 201)) (C := RX12) (T := TX12) (N := 36) hx hb hts iX12 hown hK hP 0 rfl rfl 0 (by decide) (hts _ qf_X12_7) (fun _ h => h) rfl dX12_goes_29 ?_
  refine lv_iconst (v := 0) hx hb dX12_goes_32 (by decide) ?_
  refine va_iald hx hb hK hP 1 1 rfl rfl (xin 0 5340 rfl (by decide) (by decide)) dX12_goes_33 ?_
  refine lv_topi (fun x_4 ex_4 => ?_)
  obtain rfl : x_4 = 0 := ex_4.trans h0
  refine lv_icmp_ge (tgt := 145) hx hb dX12_goes_34 (by decide) (fun _ => ?_) (fun c => absurd (by decide) c)
  refine lv_aload_n hx hb dX12_goes_145 rfl (lv_at hl 3 rfl) ?_
  refine va_get (D := D) (ci := 12) (v := .ref (q 201)) (C := RX12) (T := TX12) (N := 36) hx hb hts iX12 hown hK hP 0 rfl rfl 0 (by decide) (hts _ qf_X12_7) (fun _ h => h) rfl dX12_goes_146 ?_
  refine lv_bipush (v := 118) hx hb dX12_goes_149 (by decide) ?_
  refine lv_iload_n hx hb dX12_goes_151 rfl (lv_at hl 2 rfl) ?_
  refine lv_iadd hx hb dX12_goes_152 ?_
  refine lv_topi (fun x_5 ex_5 => ?_)
  obtain rfl : x_5 = nI (118 + (i + 1)) := ex_5.trans (nI_add 118 (i + 1))
  refine lv_iload_n hx hb dX12_goes_153 rfl (lv_at hl 1 rfl) ?_
  refine va_iast hx hb hK hP hD hS 1 1 rfl rfl (vp_in_nI (by omega) (by decide)) dX12_goes_154 (fun H locs hP hD hS => ?_)
  have hP : va_P D vwCl [((q 200), .inr (12, [.ref (q 201), .ref (q 202), .int 0, .long 0, .long 1, .ref (q 203), .ref (q 204), .ref (q 205), .ref (q 206), .ref (q 207), .int 0, .int 0, .int 0, .int 0, .int 0, .int 0, .int (-1), .int (-1), .int 0, .int 0, .int 0, .ref (q 208), .int 0, .int 0, .ref (q 209), .ref (q 210), .ref (q 211), .ref (q 212), .ref (q 213), .int 0, .int 0, .ref (q 214), .ref (q 215), .ref (q 216), .int 0, .int 0])), ((q 201), .inl (k 1, 5340, .inl (upd g (nI (118 + (i + 1)) : Int32).toNatClampNeg 0)))] H := hP
  have hD : va_D A [((q 200), .inr (12, [.ref (q 201), .ref (q 202), .int 0, .long 0, .long 1, .ref (q 203), .ref (q 204), .ref (q 205), .ref (q 206), .ref (q 207), .int 0, .int 0, .int 0, .int 0, .int 0, .int 0, .int (-1), .int (-1), .int 0, .int 0, .int 0, .ref (q 208), .int 0, .int 0, .ref (q 209), .ref (q 210), .ref (q 211), .ref (q 212), .ref (q 213), .int 0, .int 0, .ref (q 214), .ref (q 215), .ref (q 216), .int 0, .int 0])), ((q 201), .inl (k 1, 5340, .inl (upd g (nI (118 + (i + 1)) : Int32).toNatClampNeg 0)))] := hD
  refine lv_aload_n hx hb dX12_goes_155 rfl (lv_at hl 3 rfl) ?_
  refine va_get (D := D) (ci := 12) (v := .ref (q 201)) (C := RX12) (T := TX12) (N := 36) hx hb hts iX12 hown hK hP 0 rfl rfl 0 (by decide) (hts _ qf_X12_7) (fun _ h => h) rfl dX12_goes_156 ?_
  refine lv_iconst (v := 3) hx hb dX12_goes_159 (by decide) ?_
  refine lv_iload_n hx hb dX12_goes_160 rfl (lv_at hl 2 rfl) ?_
  refine va_iast hx hb hK hP hD hS 1 1 rfl rfl (xin 3 5340 rfl (by decide) (by decide)) dX12_goes_161 (fun H locs hP hD hS => ?_)
  have hP : va_P D vwCl [((q 200), .inr (12, [.ref (q 201), .ref (q 202), .int 0, .long 0, .long 1, .ref (q 203), .ref (q 204), .ref (q 205), .ref (q 206), .ref (q 207), .int 0, .int 0, .int 0, .int 0, .int 0, .int 0, .int (-1), .int (-1), .int 0, .int 0, .int 0, .ref (q 208), .int 0, .int 0, .ref (q 209), .ref (q 210), .ref (q 211), .ref (q 212), .ref (q 213), .int 0, .int 0, .ref (q 214), .ref (q 215), .ref (q 216), .int 0, .int 0])), ((q 201), .inl (k 1, 5340, .inl (upd (upd g (nI (118 + (i + 1)) : Int32).toNatClampNeg 0) (3 : Int32).toNatClampNeg (nI (i + 1)))))] H := hP
  have hD : va_D A [((q 200), .inr (12, [.ref (q 201), .ref (q 202), .int 0, .long 0, .long 1, .ref (q 203), .ref (q 204), .ref (q 205), .ref (q 206), .ref (q 207), .int 0, .int 0, .int 0, .int 0, .int 0, .int 0, .int (-1), .int (-1), .int 0, .int 0, .int 0, .ref (q 208), .int 0, .int 0, .ref (q 209), .ref (q 210), .ref (q 211), .ref (q 212), .ref (q 213), .int 0, .int 0, .ref (q 214), .ref (q 215), .ref (q 216), .int 0, .int 0])), ((q 201), .inl (k 1, 5340, .inl (upd (upd g (nI (118 + (i + 1)) : Int32).toNatClampNeg 0) (3 : Int32).toNatClampNeg (nI (i + 1)))))] := hD
  refine lv_iconst (v := 1) hx hb dX12_goes_162 (by decide) ?_
  exact EWz hx hb hr hlocks hS (upd (upd g (nI (118 + (i + 1)) : Int32).toNatClampNeg 0) (3 : Int32).toNatClampNeg (nI (i + 1))) rfl rfl ⟨(by rw [gs_0 (by omega)]; exact h0), gs_3⟩ hP hD dX12_goes_163
set_option maxHeartbeats 4000000 in
set_option maxRecDepth 100000 in
theorem r_pass (l : Launch) (D : va_G) (k : Nat → ClassId) (q : Nat → Nat) (a : Int32) : WD (σ := Unit) l yX12_pass cX12_pass 4 (some .int) 8 0 0 D k [.ref (q 200), .int a] [((q 200), .inr (12, [.ref (q 201), .ref (q 202), .int 0, .long 0, .long 1, .ref (q 203), .ref (q 204), .ref (q 205), .ref (q 206), .ref (q 207), .int 0, .int 0, .int 0, .int 0, .int 0, .int 0, .int (-1), .int (-1), .int 0, .int 0, .int 0, .ref (q 208), .int 0, .int 0, .ref (q 209), .ref (q 210), .ref (q 211), .ref (q 212), .ref (q 213), .int 0, .int 0, .ref (q 214), .ref (q 215), .ref (q 216), .int 0, .int 0])), ((q 201), .inl (k 1, 5340, .inl at0))] (fun _ => some (.int (psA a))) (fun _ => True) (fun _ => []) := by
  refine MW (by decide) (Nat.le_of_ble_eq_true rfl) (fun p e s m below meth c ls A hx hb hml hr hlocks hin hts hown hKK hP hD hS hA hl => ?_)
  have hK := hKK.1
  have hl : lv_has ls 4 [(0, .ref (q 200)), (1, .int a)] := hl
  refine lv_iload_n hx hb dX12_pass_0 rfl (lv_at hl 1 rfl) ?_
  refine lv_i2l (v := a.toInt64) hx hb dX12_pass_1 rfl ?_
  refine lv_lconst (v := 1) hx hb dX12_pass_2 rfl ?_
  refine lv_ldc2 (own := RX12) (v := 99) hx hb hown (hts _ qk_X12_369) dX12_pass_3 ?_
  refine CRS (As := [.long a.toInt64, .long 1, .long 99]) (rest := []) hx hb hml hown hts hKK (hP.sub (ws' := []) [] rfl) (m_isFrom l D k a.toInt64 1 99) ci_X12_isFrom qm_X12_295 ⟨Nat.le_of_ble_eq_true rfl, Nat.le_of_ble_eq_true rfl⟩ ⟨Nat.le_of_ble_eq_true rfl, Nat.le_of_ble_eq_true rfl⟩ rfl hl.1 rfl (Nat.le_of_ble_eq_true rfl) dX12_pass_6 ?_
  refine lv_if_ne (tgt := 18) hx hb dX12_pass_9 (by decide) (fun c_1 => ?_) (fun c_1 => ?_)
  ·
    obtain ⟨w0, hw1, hw2, rfl⟩ := bl_nat c_1
    refine lv_aload_n hx hb dX12_pass_18 rfl (lv_at hl 0 rfl) ?_
    refine va_get (D := D) (ci := 12) (v := .ref (q 201)) (C := RX12) (T := TX12) (N := 36) hx hb hts iX12 hown hK hP 0 rfl rfl 0 (by decide) (hts _ qf_X12_7) (fun _ h => h) rfl dX12_pass_19 ?_
    refine lv_iconst (v := 3) hx hb dX12_pass_22 (by decide) ?_
    refine va_iald hx hb hK hP 1 1 rfl rfl (xin 3 5340 rfl (by decide) (by decide)) dX12_pass_23 ?_
    refine lv_topi (fun x_2 ex_2 => ?_)
    obtain rfl : x_2 = 0 := ex_2.trans (by decide +kernel)
    refine lv_iload_n hx hb dX12_pass_24 rfl (lv_at hl 1 rfl) ?_
    refine lv_iadd hx hb dX12_pass_25 ?_
    refine lv_topi (fun x_3 ex_3 => ?_)
    obtain rfl : x_3 = nI (0 + w0) := ex_3.trans (nI_add 0 w0)
    refine lv_sipush (v := 400) hx hb dX12_pass_26 (by decide) ?_
    refine lv_icmp_le (tgt := 38) hx hb dX12_pass_29 (by decide) (fun _ => ?_) (fun c => absurd (nI_le (a := 0 + w0) (b := 400) (by omega) (by decide)) c)
    refine lv_iconst (v := 1) hx hb dX12_pass_38 (by decide) ?_
    refine lv_istore_n (lv' := [(2, .int 1), (0, .ref (q 200)), (1, .int (nI w0))]) hx hb dX12_pass_39 rfl hl (by decide) rfl (fun ls hl => ?_)
    refine lv_iconst (v := 0) hx hb dX12_pass_40 (by decide) ?_
    refine lv_istore_n (lv' := [(3, .int 0), (2, .int 1), (0, .ref (q 200)), (1, .int (nI w0))]) hx hb dX12_pass_41 rfl hl (by decide) rfl (fun ls hl => ?_)
    have HL : ∀ (r i : Nat) (g : Nat → Int32) (H : Heap) (locs : List Loc) (ls : Array Slot), i + r = w0 → g 0 = 0 → g 3 = nI i → va_P D vwCl [((q 200), .inr (12, [.ref (q 201), .ref (q 202), .int 0, .long 0, .long 1, .ref (q 203), .ref (q 204), .ref (q 205), .ref (q 206), .ref (q 207), .int 0, .int 0, .int 0, .int 0, .int 0, .int 0, .int (-1), .int (-1), .int 0, .int 0, .int 0, .ref (q 208), .int 0, .int 0, .ref (q 209), .ref (q 210), .ref (q 211), .ref (q 212), .ref (q 213), .int 0, .int 0, .ref (q 214), .ref (q 215), .ref (q 216), .int 0, .int 0])), ((q 201), .inl (k 1, 5340, .inl g))] H → va_D A [((q 200), .inr (12, [.ref (q 201), .ref (q 202), .int 0, .long 0, .long 1, .ref (q 203), .ref (q 204), .ref (q 205), .ref (q 206), .ref (q 207), .int 0, .int 0, .int 0, .int 0, .int 0, .int 0, .int (-1), .int (-1), .int 0, .int 0, .int 0, .ref (q 208), .int 0, .int 0, .ref (q 209), .ref (q 210), .ref (q 211), .ref (q 212), .ref (q 213), .int 0, .int 0, .ref (q 214), .ref (q 215), .ref (q 216), .int 0, .int 0])), ((q 201), .inl (k 1, 5340, .inl g))] → va_S A s.heap H locs → lv_has ls 4 [(3, .int (nI i)), (2, .int 1), (0, .ref (q 200)), (1, .int (nI w0))] → W p l e (rj 8 0 0) s m [.ref (q 200), .int (nI w0)].toArray below meth c H locs 0 0 (MQ below (QW (σ := Unit) (fun _ => some (.int (psA (nI w0)))) (fun _ => True) (fun _ => []) D A) [.ref (q 200), .int (nI w0)].toArray s 0 0 A) (F0 m 42 ls []) := by
      intro r
      induction r with
      | zero =>
        intro i g H locs ls hi h0 h3 hP hD hS hl
        refine lv_iload_n hx hb dX12_pass_42 rfl (lv_at hl 0 rfl) ?_
        refine lv_iload_n hx hb dX12_pass_43 rfl (lv_at hl 3 rfl) ?_
        refine lv_icmp_ge (tgt := 62) hx hb dX12_pass_44 (by decide) (fun _ => ?_) (fun c => absurd (nI_le (a := w0) (b := i) (by omega) (by omega)) c)
        refine lv_aload_n hx hb dX12_pass_62 rfl (lv_at hl 2 rfl) ?_
        refine lv_aload_n hx hb dX12_pass_63 rfl (lv_at hl 2 rfl) ?_
        refine va_get (D := D) (ci := 12) (v := .ref (q 201)) (C := RX12) (T := TX12) (N := 36) hx hb hts iX12 hown hK hP 0 rfl rfl 0 (by decide) (hts _ qf_X12_7) (fun _ h => h) rfl dX12_pass_64 ?_
        refine lv_iconst (v := 3) hx hb dX12_pass_67 (by decide) ?_
        refine va_iald hx hb hK hP 1 1 rfl rfl (xin 3 5340 rfl (by decide) (by decide)) dX12_pass_68 ?_
        refine lv_topi (fun x_4 ex_4 => ?_)
        obtain rfl : x_4 = nI i := ex_4.trans h3
        refine CWV (As := [.int (nI i)]) (rest := []) (wc := [((q 200), .inr (12, [.ref (q 201), .ref (q 202), .int 0, .long 0, .long 1, .ref (q 203), .ref (q 204), .ref (q 205), .ref (q 206), .ref (q 207), .int 0, .int 0, .int 0, .int 0, .int 0, .int 0, .int (-1), .int (-1), .int 0, .int 0, .int 0, .ref (q 208), .int 0, .int 0, .ref (q 209), .ref (q 210), .ref (q 211), .ref (q 212), .ref (q 213), .int 0, .int 0, .ref (q 214), .ref (q 215), .ref (q 216), .int 0, .int 0]))]) (wr := [((q 201), .inl (k 1, 5340, .inl g))]) hx hb hml hown hts hKK hP hD hS hA (m_gives l D k (q 200) [.ref (q 201), .ref (q 202), .int 0, .long 0, .long 1, .ref (q 203), .ref (q 204), .ref (q 205), .ref (q 206), .ref (q 207), .int 0, .int 0, .int 0, .int 0, .int 0, .int 0, .int (-1), .int (-1), .int 0, .int 0, .int 0, .ref (q 208), .int 0, .int 0, .ref (q 209), .ref (q 210), .ref (q 211), .ref (q 212), .ref (q 213), .int 0, .int 0, .ref (q 214), .ref (q 215), .ref (q 216), .int 0, .int 0] (Nat.le_of_ble_eq_true rfl) (nI i)) ci_X12_gives qm_X12_85 ⟨Nat.le_of_ble_eq_true rfl, Nat.le_of_ble_eq_true rfl⟩ ⟨Nat.le_of_ble_eq_true rfl, Nat.le_of_ble_eq_true rfl⟩ [0] [1] rfl rfl rfl rfl rfl (by decide) 0 rfl rfl rfl hl.1 rfl (Nat.le_of_ble_eq_true rfl) dX12_pass_69 (fun u_5 H locs hφ hP hD hS => ?_)
        have hP : va_P D vwCl [((q 201), .inl (k 1, 5340, .inl g))] H := hP
        have hD : va_D A [((q 201), .inl (k 1, 5340, .inl g))] := hD
        refine W.eq (g2 := F0 m 72 ls [.int (nI i)]) rfl ?_
        exact EWi hx hb hr hlocks hS () (by rw [ps_hi hw1 hw2, show i = w0 by omega]) trivial nil_P nil_D dX12_pass_72
      | succ r ih =>
        intro i g H locs ls hi h0 h3 hP hD hS hl
        refine lv_iload_n hx hb dX12_pass_42 rfl (lv_at hl 0 rfl) ?_
        refine lv_iload_n hx hb dX12_pass_43 rfl (lv_at hl 3 rfl) ?_
        refine lv_icmp_ge (tgt := 62) hx hb dX12_pass_44 (by decide) (fun c => absurd c (nI_ge (a := i) (b := w0) (by omega) (by omega))) (fun _ => ?_)
        refine lv_iload_n hx hb dX12_pass_47 rfl (lv_at hl 1 rfl) ?_
        refine lv_if_eq (tgt := 62) hx hb dX12_pass_48 (by decide) (fun c => absurd c (by decide)) (fun _ => ?_)
        refine lv_aload_n hx hb dX12_pass_51 rfl (lv_at hl 2 rfl) ?_
        refine CWV (As := []) (rest := []) (wc := [((q 200), .inr (12, [.ref (q 201), .ref (q 202), .int 0, .long 0, .long 1, .ref (q 203), .ref (q 204), .ref (q 205), .ref (q 206), .ref (q 207), .int 0, .int 0, .int 0, .int 0, .int 0, .int 0, .int (-1), .int (-1), .int 0, .int 0, .int 0, .ref (q 208), .int 0, .int 0, .ref (q 209), .ref (q 210), .ref (q 211), .ref (q 212), .ref (q 213), .int 0, .int 0, .ref (q 214), .ref (q 215), .ref (q 216), .int 0, .int 0])), ((q 201), .inl (k 1, 5340, .inl g))]) (wr := []) hx hb hml hown hts hKK hP hD hS hA (m_goes l D k q g i (by omega) h0 h3) ci_X12_goes qm_X12_371 ⟨Nat.le_of_ble_eq_true rfl, Nat.le_of_ble_eq_true rfl⟩ ⟨Nat.le_of_ble_eq_true rfl, Nat.le_of_ble_eq_true rfl⟩ [0, 1] [] rfl rfl rfl rfl rfl (by decide) 0 rfl rfl rfl hl.1 rfl (Nat.le_of_ble_eq_true rfl) dX12_pass_52 (fun u_6 H locs hφ hP hD hS => ?_)
        have hP : va_P D vwCl [((q 200), .inr (12, [.ref (q 201), .ref (q 202), .int 0, .long 0, .long 1, .ref (q 203), .ref (q 204), .ref (q 205), .ref (q 206), .ref (q 207), .int 0, .int 0, .int 0, .int 0, .int 0, .int 0, .int (-1), .int (-1), .int 0, .int 0, .int 0, .ref (q 208), .int 0, .int 0, .ref (q 209), .ref (q 210), .ref (q 211), .ref (q 212), .ref (q 213), .int 0, .int 0, .ref (q 214), .ref (q 215), .ref (q 216), .int 0, .int 0])), ((q 201), .inl (k 1, 5340, .inl u_6))] H := hP
        have hD : va_D A [((q 200), .inr (12, [.ref (q 201), .ref (q 202), .int 0, .long 0, .long 1, .ref (q 203), .ref (q 204), .ref (q 205), .ref (q 206), .ref (q 207), .int 0, .int 0, .int 0, .int 0, .int 0, .int 0, .int (-1), .int (-1), .int 0, .int 0, .int 0, .ref (q 208), .int 0, .int 0, .ref (q 209), .ref (q 210), .ref (q 211), .ref (q 212), .ref (q 213), .int 0, .int 0, .ref (q 214), .ref (q 215), .ref (q 216), .int 0, .int 0])), ((q 201), .inl (k 1, 5340, .inl u_6))] := hD
        refine W.eq (g2 := F0 m 55 ls [.int 1]) rfl ?_
        refine lv_istore_n (lv' := [(2, .int 1), (3, .int (nI i)), (0, .ref (q 200)), (1, .int (nI w0))]) hx hb dX12_pass_55 rfl hl (by decide) rfl (fun ls hl => ?_)
        refine lv_iinc (v := nI (i + 1)) (lv' := [(3, .int (nI (i + 1))), (2, .int 1), (0, .ref (q 200)), (1, .int (nI w0))]) hx hb dX12_pass_56 hl (k := 1) rfl (nI_1 i) (by decide) rfl (fun ls hl => ?_)
        refine lv_goto (tgt := 42) hx hb dX12_pass_59 (by decide) ?_
        exact ih (i + 1) _ _ _ _ (by omega) hφ.1 hφ.2 (hP.sub [0, 1] rfl) (hD.sub [0, 1] rfl rfl) hS (lv_sub hl [0, 1, 2, 3] rfl)
    exact HL w0 0 _ _ _ _ (by omega) (by decide +kernel) (by decide +kernel) (hP.sub [0, 1] rfl) (hD.sub [0, 1] rfl rfl) hS (lv_sub hl [0, 1, 2, 3] rfl)
  ·
    refine lv_aload_n hx hb dX12_pass_12 rfl (lv_at hl 0 rfl) ?_
    refine lv_iconst (v := 1) hx hb dX12_pass_13 (by decide) ?_
    refine CWV (As := [.int 1]) (rest := []) (wc := [((q 200), .inr (12, [.ref (q 201), .ref (q 202), .int 0, .long 0, .long 1, .ref (q 203), .ref (q 204), .ref (q 205), .ref (q 206), .ref (q 207), .int 0, .int 0, .int 0, .int 0, .int 0, .int 0, .int (-1), .int (-1), .int 0, .int 0, .int 0, .ref (q 208), .int 0, .int 0, .ref (q 209), .ref (q 210), .ref (q 211), .ref (q 212), .ref (q 213), .int 0, .int 0, .ref (q 214), .ref (q 215), .ref (q 216), .int 0, .int 0]))]) (wr := [((q 201), .inl (k 1, 5340, .inl at0))]) hx hb hml hown hts hKK hP hD hS hA (m_refuse l D k (q 200) [.ref (q 201), .ref (q 202), .int 0, .long 0, .long 1, .ref (q 203), .ref (q 204), .ref (q 205), .ref (q 206), .ref (q 207), .int 0, .int 0, .int 0, .int 0, .int 0, .int 0, .int (-1), .int (-1), .int 0, .int 0, .int 0, .ref (q 208), .int 0, .int 0, .ref (q 209), .ref (q 210), .ref (q 211), .ref (q 212), .ref (q 213), .int 0, .int 0, .ref (q 214), .ref (q 215), .ref (q 216), .int 0, .int 0] (Nat.le_of_ble_eq_true rfl) 1) ci_X12_refuse qm_X12_81 ⟨Nat.le_of_ble_eq_true rfl, Nat.le_of_ble_eq_true rfl⟩ ⟨Nat.le_of_ble_eq_true rfl, Nat.le_of_ble_eq_true rfl⟩ [0] [1] rfl rfl rfl rfl rfl (by decide) 0 rfl rfl rfl hl.1 rfl (Nat.le_of_ble_eq_true rfl) dX12_pass_14 (fun u_7 H locs hφ hP hD hS => ?_)
    have hP : va_P D vwCl [((q 201), .inl (k 1, 5340, .inl at0))] H := hP
    have hD : va_D A [((q 201), .inl (k 1, 5340, .inl at0))] := hD
    refine W.eq (g2 := F0 m 17 ls [.int (-1)]) rfl ?_
    exact EWi hx hb hr hlocks hS () (by rw [bl_ps c_1]) trivial nil_P nil_D dX12_pass_17
set_option maxHeartbeats 4000000 in
set_option maxRecDepth 100000 in
theorem m_copies (l : Launch) (D : va_G) (k : Nat → ClassId) (q : Nat → Nat) : WD (σ := Unit) l yX12_copies cX12_copies 4 none 0 0 0 D k [.ref (q 200), .int 0, .int 1] [((q 200), .inr (12, [.ref (q 201), .ref (q 202), .int 0, .long 0, .long 1, .ref (q 203), .ref (q 204), .ref (q 205), .ref (q 206), .ref (q 207), .int 0, .int 0, .int 0, .int 0, .int 0, .int 0, .int (-1), .int (-1), .int 0, .int 0, .int 0, .ref (q 208), .int 0, .int 0, .ref (q 209), .ref (q 210), .ref (q 211), .ref (q 212), .ref (q 213), .int 0, .int 0, .ref (q 214), .ref (q 215), .ref (q 216), .int 0, .int 1])), ((q 201), .inl (k 1, 5340, .inl at0)), ((q 202), .inl (k 2, 36, .inr (.inl (fun _ => 0))))] (fun _ => none) (fun _ => True) (fun _ => [((q 200), .inr (12, [.ref (q 201), .ref (q 202), .int 0, .long 0, .long 1, .ref (q 203), .ref (q 204), .ref (q 205), .ref (q 206), .ref (q 207), .int 0, .int 0, .int 0, .int 0, .int 0, .int 0, .int (-1), .int (-1), .int 0, .int 0, .int 0, .ref (q 208), .int 0, .int 0, .ref (q 209), .ref (q 210), .ref (q 211), .ref (q 212), .ref (q 213), .int 0, .int 0, .ref (q 214), .ref (q 215), .ref (q 216), .int 0, .int 1]))]) := by
  refine MW (by decide) (Nat.le_of_ble_eq_true rfl) (fun p e s m below meth c ls A hx hb hml hr hlocks hin hts hown hKK hP hD hS hA hl => ?_)
  have hK := hKK.1
  have hl : lv_has ls 4 [(0, .ref (q 200)), (1, .int 0), (2, .int 1)] := hl
  refine lv_iconst (v := 0) hx hb dX12_copies_0 (by decide) ?_
  refine lv_istore_n (lv' := [(3, .int 0), (0, .ref (q 200)), (1, .int 0), (2, .int 1)]) hx hb dX12_copies_1 rfl hl (by decide) rfl (fun ls hl => ?_)
  have HL : ∀ (r i : Nat) (g : Nat → Int32) (H : Heap) (locs : List Loc) (ls : Array Slot), i + r = 890 → va_P D vwCl [((q 200), .inr (12, [.ref (q 201), .ref (q 202), .int 0, .long 0, .long 1, .ref (q 203), .ref (q 204), .ref (q 205), .ref (q 206), .ref (q 207), .int 0, .int 0, .int 0, .int 0, .int 0, .int 0, .int (-1), .int (-1), .int 0, .int 0, .int 0, .ref (q 208), .int 0, .int 0, .ref (q 209), .ref (q 210), .ref (q 211), .ref (q 212), .ref (q 213), .int 0, .int 0, .ref (q 214), .ref (q 215), .ref (q 216), .int 0, .int 1])), ((q 201), .inl (k 1, 5340, .inl g)), ((q 202), .inl (k 2, 36, .inr (.inl (fun _ => 0))))] H → va_D A [((q 200), .inr (12, [.ref (q 201), .ref (q 202), .int 0, .long 0, .long 1, .ref (q 203), .ref (q 204), .ref (q 205), .ref (q 206), .ref (q 207), .int 0, .int 0, .int 0, .int 0, .int 0, .int 0, .int (-1), .int (-1), .int 0, .int 0, .int 0, .ref (q 208), .int 0, .int 0, .ref (q 209), .ref (q 210), .ref (q 211), .ref (q 212), .ref (q 213), .int 0, .int 0, .ref (q 214), .ref (q 215), .ref (q 216), .int 0, .int 1])), ((q 201), .inl (k 1, 5340, .inl g)), ((q 202), .inl (k 2, 36, .inr (.inl (fun _ => 0))))] → va_S A s.heap H locs → lv_has ls 4 [(3, .int (nI i)), (0, .ref (q 200)), (1, .int 0), (2, .int 1)] → W p l e (rj 0 0 0) s m [.ref (q 200), .int 0, .int 1].toArray below meth c H locs 0 0 (MQ below (QW (σ := Unit) (fun _ => none) (fun _ => True) (fun _ => [((q 200), .inr (12, [.ref (q 201), .ref (q 202), .int 0, .long 0, .long 1, .ref (q 203), .ref (q 204), .ref (q 205), .ref (q 206), .ref (q 207), .int 0, .int 0, .int 0, .int 0, .int 0, .int 0, .int (-1), .int (-1), .int 0, .int 0, .int 0, .ref (q 208), .int 0, .int 0, .ref (q 209), .ref (q 210), .ref (q 211), .ref (q 212), .ref (q 213), .int 0, .int 0, .ref (q 214), .ref (q 215), .ref (q 216), .int 0, .int 1]))]) D A) [.ref (q 200), .int 0, .int 1].toArray s 0 0 A) (F0 m 2 ls []) := by
    intro r
    induction r with
    | zero =>
      intro i g H locs ls hi  hP hD hS hl
      refine lv_iload_n hx hb dX12_copies_2 rfl (lv_at hl 0 rfl) ?_
      refine lv_sipush (v := 890) hx hb dX12_copies_3 (by decide) ?_
      refine lv_icmp_ge (tgt := 39) hx hb dX12_copies_6 (by decide) (fun _ => ?_) (fun c => absurd (nI_le (a := 890) (b := i) (by omega) (by omega)) c)
      refine lv_iconst (v := 0) hx hb dX12_copies_39 (by decide) ?_
      refine lv_istore_n (lv' := [(3, .int 0), (0, .ref (q 200)), (1, .int 0), (2, .int 1)]) hx hb dX12_copies_40 rfl hl (by decide) rfl (fun ls hl => ?_)
      have HL : ∀ (r i : Nat) (g2 : Nat → Int64) (H : Heap) (locs : List Loc) (ls : Array Slot), i + r = 6 → va_P D vwCl [((q 200), .inr (12, [.ref (q 201), .ref (q 202), .int 0, .long 0, .long 1, .ref (q 203), .ref (q 204), .ref (q 205), .ref (q 206), .ref (q 207), .int 0, .int 0, .int 0, .int 0, .int 0, .int 0, .int (-1), .int (-1), .int 0, .int 0, .int 0, .ref (q 208), .int 0, .int 0, .ref (q 209), .ref (q 210), .ref (q 211), .ref (q 212), .ref (q 213), .int 0, .int 0, .ref (q 214), .ref (q 215), .ref (q 216), .int 0, .int 1])), ((q 201), .inl (k 1, 5340, .inl g)), ((q 202), .inl (k 2, 36, .inr (.inl g2)))] H → va_D A [((q 200), .inr (12, [.ref (q 201), .ref (q 202), .int 0, .long 0, .long 1, .ref (q 203), .ref (q 204), .ref (q 205), .ref (q 206), .ref (q 207), .int 0, .int 0, .int 0, .int 0, .int 0, .int 0, .int (-1), .int (-1), .int 0, .int 0, .int 0, .ref (q 208), .int 0, .int 0, .ref (q 209), .ref (q 210), .ref (q 211), .ref (q 212), .ref (q 213), .int 0, .int 0, .ref (q 214), .ref (q 215), .ref (q 216), .int 0, .int 1])), ((q 201), .inl (k 1, 5340, .inl g)), ((q 202), .inl (k 2, 36, .inr (.inl g2)))] → va_S A s.heap H locs → lv_has ls 4 [(3, .int (nI i)), (0, .ref (q 200)), (1, .int 0), (2, .int 1)] → W p l e (rj 0 0 0) s m [.ref (q 200), .int 0, .int 1].toArray below meth c H locs 0 0 (MQ below (QW (σ := Unit) (fun _ => none) (fun _ => True) (fun _ => [((q 200), .inr (12, [.ref (q 201), .ref (q 202), .int 0, .long 0, .long 1, .ref (q 203), .ref (q 204), .ref (q 205), .ref (q 206), .ref (q 207), .int 0, .int 0, .int 0, .int 0, .int 0, .int 0, .int (-1), .int (-1), .int 0, .int 0, .int 0, .ref (q 208), .int 0, .int 0, .ref (q 209), .ref (q 210), .ref (q 211), .ref (q 212), .ref (q 213), .int 0, .int 0, .ref (q 214), .ref (q 215), .ref (q 216), .int 0, .int 1]))]) D A) [.ref (q 200), .int 0, .int 1].toArray s 0 0 A) (F0 m 41 ls []) := by
        intro r
        induction r with
        | zero =>
          intro i g2 H locs ls hi  hP hD hS hl
          refine lv_iload_n hx hb dX12_copies_41 rfl (lv_at hl 0 rfl) ?_
          refine lv_bipush (v := 6) hx hb dX12_copies_42 (by decide) ?_
          refine lv_icmp_ge (tgt := 75) hx hb dX12_copies_44 (by decide) (fun _ => ?_) (fun c => absurd (nI_le (a := 6) (b := i) (by omega) (by omega)) c)
          exact EWv hx hb hr hlocks hS () rfl trivial (hP.sub [0] rfl) (hD.sub [0] rfl rfl) dX12_copies_75
        | succ r ih =>
          intro i g2 H locs ls hi  hP hD hS hl
          refine lv_iload_n hx hb dX12_copies_41 rfl (lv_at hl 0 rfl) ?_
          refine lv_bipush (v := 6) hx hb dX12_copies_42 (by decide) ?_
          refine lv_icmp_ge (tgt := 75) hx hb dX12_copies_44 (by decide) (fun c => absurd c (nI_ge (a := i) (b := 6) (by omega) (by omega))) (fun _ => ?_)
          refine lv_aload_n hx hb dX12_copies_47 rfl (lv_at hl 1 rfl) ?_
          refine va_get (D := D) (ci := 12) (v := .ref (q 202)) (C := RX12) (T := TX12) (N := 36) hx hb hts iX12 hown hK hP 0 rfl rfl 1 (by decide) (hts _ qf_X12_13) (fun _ h => h) rfl dX12_copies_48 ?_
          refine lv_bipush (v := 6) hx hb dX12_copies_51 (by decide) ?_
          refine lv_iload_n hx hb dX12_copies_53 rfl (lv_at hl 3 rfl) ?_
          refine lv_imul hx hb dX12_copies_54 ?_
          refine lv_topi (fun x_1 ex_1 => ?_)
          obtain rfl : x_1 = 6 := ex_1.trans (by decide +kernel)
          refine lv_iload_n hx hb dX12_copies_55 rfl (lv_at hl 0 rfl) ?_
          refine lv_iadd hx hb dX12_copies_56 ?_
          refine lv_topi (fun x_2 ex_2 => ?_)
          obtain rfl : x_2 = nI (6 + i) := ex_2.trans (nI_add 6 i)
          refine lv_aload_n hx hb dX12_copies_57 rfl (lv_at hl 1 rfl) ?_
          refine va_get (D := D) (ci := 12) (v := .ref (q 202)) (C := RX12) (T := TX12) (N := 36) hx hb hts iX12 hown hK hP 0 rfl rfl 1 (by decide) (hts _ qf_X12_13) (fun _ h => h) rfl dX12_copies_58 ?_
          refine lv_bipush (v := 6) hx hb dX12_copies_61 (by decide) ?_
          refine lv_iload_n hx hb dX12_copies_63 rfl (lv_at hl 2 rfl) ?_
          refine lv_imul hx hb dX12_copies_64 ?_
          refine lv_topi (fun x_3 ex_3 => ?_)
          obtain rfl : x_3 = 0 := ex_3.trans (by decide +kernel)
          refine lv_iload_n hx hb dX12_copies_65 rfl (lv_at hl 0 rfl) ?_
          refine lv_iadd hx hb dX12_copies_66 ?_
          refine lv_topi (fun x_4 ex_4 => ?_)
          obtain rfl : x_4 = nI (0 + i) := ex_4.trans (nI_add 0 i)
          refine va_lald hx hb hK hP 2 2 rfl rfl (vp_in_nI (by omega) (by decide)) dX12_copies_67 ?_
          refine lv_topl (fun x_5 ex_5 => ?_)
          refine va_last hx hb hK hP hD hS 2 2 rfl rfl (vp_in_nI (by omega) (by decide)) dX12_copies_68 (fun H locs hP hD hS => ?_)
          have hP : va_P D vwCl [((q 200), .inr (12, [.ref (q 201), .ref (q 202), .int 0, .long 0, .long 1, .ref (q 203), .ref (q 204), .ref (q 205), .ref (q 206), .ref (q 207), .int 0, .int 0, .int 0, .int 0, .int 0, .int 0, .int (-1), .int (-1), .int 0, .int 0, .int 0, .ref (q 208), .int 0, .int 0, .ref (q 209), .ref (q 210), .ref (q 211), .ref (q 212), .ref (q 213), .int 0, .int 0, .ref (q 214), .ref (q 215), .ref (q 216), .int 0, .int 1])), ((q 201), .inl (k 1, 5340, .inl g)), ((q 202), .inl (k 2, 36, .inr (.inl (vp_updL g2 (nI (6 + i) : Int32).toNatClampNeg x_5))))] H := hP
          have hD : va_D A [((q 200), .inr (12, [.ref (q 201), .ref (q 202), .int 0, .long 0, .long 1, .ref (q 203), .ref (q 204), .ref (q 205), .ref (q 206), .ref (q 207), .int 0, .int 0, .int 0, .int 0, .int 0, .int 0, .int (-1), .int (-1), .int 0, .int 0, .int 0, .ref (q 208), .int 0, .int 0, .ref (q 209), .ref (q 210), .ref (q 211), .ref (q 212), .ref (q 213), .int 0, .int 0, .ref (q 214), .ref (q 215), .ref (q 216), .int 0, .int 1])), ((q 201), .inl (k 1, 5340, .inl g)), ((q 202), .inl (k 2, 36, .inr (.inl (vp_updL g2 (nI (6 + i) : Int32).toNatClampNeg x_5))))] := hD
          refine lv_iinc (v := nI (i + 1)) (lv' := [(3, .int (nI (i + 1))), (0, .ref (q 200)), (1, .int 0), (2, .int 1)]) hx hb dX12_copies_69 hl (k := 0) rfl (nI_1 i) (by decide) rfl (fun ls hl => ?_)
          refine lv_goto (tgt := 41) hx hb dX12_copies_72 (by decide) ?_
          exact ih (i + 1) _ _ _ _ (by omega)  (hP.sub [0, 1, 2] rfl) (hD.sub [0, 1, 2] rfl rfl) hS (lv_sub hl [0, 1, 2, 3] rfl)
      exact HL 6 0 _ _ _ _ (by omega)  (hP.sub [0, 1, 2] rfl) (hD.sub [0, 1, 2] rfl rfl) hS (lv_sub hl [0, 1, 2, 3] rfl)
    | succ r ih =>
      intro i g H locs ls hi  hP hD hS hl
      refine lv_iload_n hx hb dX12_copies_2 rfl (lv_at hl 0 rfl) ?_
      refine lv_sipush (v := 890) hx hb dX12_copies_3 (by decide) ?_
      refine lv_icmp_ge (tgt := 39) hx hb dX12_copies_6 (by decide) (fun c => absurd c (nI_ge (a := i) (b := 890) (by omega) (by omega))) (fun _ => ?_)
      refine lv_aload_n hx hb dX12_copies_9 rfl (lv_at hl 1 rfl) ?_
      refine va_get (D := D) (ci := 12) (v := .ref (q 201)) (C := RX12) (T := TX12) (N := 36) hx hb hts iX12 hown hK hP 0 rfl rfl 0 (by decide) (hts _ qf_X12_7) (fun _ h => h) rfl dX12_copies_10 ?_
      refine lv_sipush (v := 890) hx hb dX12_copies_13 (by decide) ?_
      refine lv_iload_n hx hb dX12_copies_16 rfl (lv_at hl 3 rfl) ?_
      refine lv_imul hx hb dX12_copies_17 ?_
      refine lv_topi (fun x_6 ex_6 => ?_)
      obtain rfl : x_6 = 890 := ex_6.trans (by decide +kernel)
      refine lv_iload_n hx hb dX12_copies_18 rfl (lv_at hl 0 rfl) ?_
      refine lv_iadd hx hb dX12_copies_19 ?_
      refine lv_topi (fun x_7 ex_7 => ?_)
      obtain rfl : x_7 = nI (890 + i) := ex_7.trans (nI_add 890 i)
      refine lv_aload_n hx hb dX12_copies_20 rfl (lv_at hl 1 rfl) ?_
      refine va_get (D := D) (ci := 12) (v := .ref (q 201)) (C := RX12) (T := TX12) (N := 36) hx hb hts iX12 hown hK hP 0 rfl rfl 0 (by decide) (hts _ qf_X12_7) (fun _ h => h) rfl dX12_copies_21 ?_
      refine lv_sipush (v := 890) hx hb dX12_copies_24 (by decide) ?_
      refine lv_iload_n hx hb dX12_copies_27 rfl (lv_at hl 2 rfl) ?_
      refine lv_imul hx hb dX12_copies_28 ?_
      refine lv_topi (fun x_8 ex_8 => ?_)
      obtain rfl : x_8 = 0 := ex_8.trans (by decide +kernel)
      refine lv_iload_n hx hb dX12_copies_29 rfl (lv_at hl 0 rfl) ?_
      refine lv_iadd hx hb dX12_copies_30 ?_
      refine lv_topi (fun x_9 ex_9 => ?_)
      obtain rfl : x_9 = nI (0 + i) := ex_9.trans (nI_add 0 i)
      refine va_iald hx hb hK hP 1 1 rfl rfl (vp_in_nI (by omega) (by decide)) dX12_copies_31 ?_
      refine lv_topi (fun x_10 ex_10 => ?_)
      refine va_iast hx hb hK hP hD hS 1 1 rfl rfl (vp_in_nI (by omega) (by decide)) dX12_copies_32 (fun H locs hP hD hS => ?_)
      have hP : va_P D vwCl [((q 200), .inr (12, [.ref (q 201), .ref (q 202), .int 0, .long 0, .long 1, .ref (q 203), .ref (q 204), .ref (q 205), .ref (q 206), .ref (q 207), .int 0, .int 0, .int 0, .int 0, .int 0, .int 0, .int (-1), .int (-1), .int 0, .int 0, .int 0, .ref (q 208), .int 0, .int 0, .ref (q 209), .ref (q 210), .ref (q 211), .ref (q 212), .ref (q 213), .int 0, .int 0, .ref (q 214), .ref (q 215), .ref (q 216), .int 0, .int 1])), ((q 201), .inl (k 1, 5340, .inl (upd g (nI (890 + i) : Int32).toNatClampNeg x_10))), ((q 202), .inl (k 2, 36, .inr (.inl (fun _ => 0))))] H := hP
      have hD : va_D A [((q 200), .inr (12, [.ref (q 201), .ref (q 202), .int 0, .long 0, .long 1, .ref (q 203), .ref (q 204), .ref (q 205), .ref (q 206), .ref (q 207), .int 0, .int 0, .int 0, .int 0, .int 0, .int 0, .int (-1), .int (-1), .int 0, .int 0, .int 0, .ref (q 208), .int 0, .int 0, .ref (q 209), .ref (q 210), .ref (q 211), .ref (q 212), .ref (q 213), .int 0, .int 0, .ref (q 214), .ref (q 215), .ref (q 216), .int 0, .int 1])), ((q 201), .inl (k 1, 5340, .inl (upd g (nI (890 + i) : Int32).toNatClampNeg x_10))), ((q 202), .inl (k 2, 36, .inr (.inl (fun _ => 0))))] := hD
      refine lv_iinc (v := nI (i + 1)) (lv' := [(3, .int (nI (i + 1))), (0, .ref (q 200)), (1, .int 0), (2, .int 1)]) hx hb dX12_copies_33 hl (k := 0) rfl (nI_1 i) (by decide) rfl (fun ls hl => ?_)
      refine lv_goto (tgt := 2) hx hb dX12_copies_36 (by decide) ?_
      exact ih (i + 1) _ _ _ _ (by omega)  (hP.sub [0, 1, 2] rfl) (hD.sub [0, 1, 2] rfl rfl) hS (lv_sub hl [0, 1, 2, 3] rfl)
  exact HL 890 0 _ _ _ _ (by omega)  (hP.sub [0, 1, 2] rfl) (hD.sub [0, 1, 2] rfl rfl) hS (lv_sub hl [0, 1, 2, 3] rfl)
set_option maxHeartbeats 4000000 in
set_option maxRecDepth 100000 in
theorem r_mark (l : Launch) (D : va_G) (k : Nat → ClassId) (q : Nat → Nat) : WD (σ := Unit) l yX12_mark cX12_mark 1 (some .int) 8 0 0 D k [.ref (q 200)] [((q 200), .inr (12, [.ref (q 201), .ref (q 202), .int 0, .long 0, .long 1, .ref (q 203), .ref (q 204), .ref (q 205), .ref (q 206), .ref (q 207), .int 0, .int 0, .int 0, .int 0, .int 0, .int 0, .int (-1), .int (-1), .int 0, .int 0, .int 0, .ref (q 208), .int 0, .int 0, .ref (q 209), .ref (q 210), .ref (q 211), .ref (q 212), .ref (q 213), .int 0, .int 0, .ref (q 214), .ref (q 215), .ref (q 216), .int 0, .int 0])), ((q 201), .inl (k 1, 5340, .inl at0)), ((q 202), .inl (k 2, 36, .inr (.inl (fun _ => 0))))] (fun _ => some (.int 1)) (fun _ => True) (fun _ => []) := by
  refine MW (by decide) (Nat.le_of_ble_eq_true rfl) (fun p e s m below meth c ls A hx hb hml hr hlocks hin hts hown hKK hP hD hS hA hl => ?_)
  have hK := hKK.1
  have hl : lv_has ls 1 [(0, .ref (q 200))] := hl
  refine lv_aload_n hx hb dX12_mark_0 rfl (lv_at hl 0 rfl) ?_
  refine va_get (D := D) (ci := 12) (v := .int 0) (C := RX12) (T := TX12) (N := 36) hx hb hts iX12 hown hK hP 0 rfl rfl 35 (by decide) (hts _ qf_X12_412) (fun _ h => h) rfl dX12_mark_1 ?_
  refine lv_iconst (v := 3) hx hb dX12_mark_4 (by decide) ?_
  refine lv_icmp_ne (tgt := 14) hx hb dX12_mark_5 (by decide) (fun _ => ?_) (fun c => absurd c (by decide))
  refine lv_aload_n hx hb dX12_mark_14 rfl (lv_at hl 0 rfl) ?_
  refine lv_dup hx hb dX12_mark_15 rfl ?_
  refine va_get (D := D) (ci := 12) (v := .int 0) (C := RX12) (T := TX12) (N := 36) hx hb hts iX12 hown hK hP 0 rfl rfl 35 (by decide) (hts _ qf_X12_412) (fun _ h => h) rfl dX12_mark_16 ?_
  refine lv_iconst (v := 1) hx hb dX12_mark_19 (by decide) ?_
  refine lv_iadd hx hb dX12_mark_20 ?_
  refine lv_topi (fun x_1 ex_1 => ?_)
  obtain rfl : x_1 = 1 := ex_1.trans (by decide +kernel)
  refine va_put (D := D) (ci := 12) (v := .int 1) (ty := .int) (C := RX12) (T := TX12) (N := 36) hx hb hts iX12 tyX12 tyX12_ok nmX12 hown hK hP hD hS 0 rfl rfl 35 (by decide) (hts _ qf_X12_412) (fun _ h => h) rfl (by decide +kernel) rfl rfl (Nat.le_of_ble_eq_true rfl) dX12_mark_21 (fun H locs hP hD hS => ?_)
  have hP : va_P D vwCl [((q 200), .inr (12, [.ref (q 201), .ref (q 202), .int 0, .long 0, .long 1, .ref (q 203), .ref (q 204), .ref (q 205), .ref (q 206), .ref (q 207), .int 0, .int 0, .int 0, .int 0, .int 0, .int 0, .int (-1), .int (-1), .int 0, .int 0, .int 0, .ref (q 208), .int 0, .int 0, .ref (q 209), .ref (q 210), .ref (q 211), .ref (q 212), .ref (q 213), .int 0, .int 0, .ref (q 214), .ref (q 215), .ref (q 216), .int 0, .int 1])), ((q 201), .inl (k 1, 5340, .inl at0)), ((q 202), .inl (k 2, 36, .inr (.inl (fun _ => 0))))] H := hP
  have hD : va_D A [((q 200), .inr (12, [.ref (q 201), .ref (q 202), .int 0, .long 0, .long 1, .ref (q 203), .ref (q 204), .ref (q 205), .ref (q 206), .ref (q 207), .int 0, .int 0, .int 0, .int 0, .int 0, .int 0, .int (-1), .int (-1), .int 0, .int 0, .int 0, .ref (q 208), .int 0, .int 0, .ref (q 209), .ref (q 210), .ref (q 211), .ref (q 212), .ref (q 213), .int 0, .int 0, .ref (q 214), .ref (q 215), .ref (q 216), .int 0, .int 1])), ((q 201), .inl (k 1, 5340, .inl at0)), ((q 202), .inl (k 2, 36, .inr (.inl (fun _ => 0))))] := hD
  refine lv_aload_n hx hb dX12_mark_24 rfl (lv_at hl 0 rfl) ?_
  refine lv_iconst (v := 0) hx hb dX12_mark_25 (by decide) ?_
  refine lv_aload_n hx hb dX12_mark_26 rfl (lv_at hl 0 rfl) ?_
  refine va_get (D := D) (ci := 12) (v := .int 1) (C := RX12) (T := TX12) (N := 36) hx hb hts iX12 hown hK hP 0 rfl rfl 35 (by decide) (hts _ qf_X12_412) (fun _ h => h) rfl dX12_mark_27 ?_
  refine CWV (As := [.int 0, .int 1]) (rest := []) (wc := [((q 200), .inr (12, [.ref (q 201), .ref (q 202), .int 0, .long 0, .long 1, .ref (q 203), .ref (q 204), .ref (q 205), .ref (q 206), .ref (q 207), .int 0, .int 0, .int 0, .int 0, .int 0, .int 0, .int (-1), .int (-1), .int 0, .int 0, .int 0, .ref (q 208), .int 0, .int 0, .ref (q 209), .ref (q 210), .ref (q 211), .ref (q 212), .ref (q 213), .int 0, .int 0, .ref (q 214), .ref (q 215), .ref (q 216), .int 0, .int 1])), ((q 201), .inl (k 1, 5340, .inl at0)), ((q 202), .inl (k 2, 36, .inr (.inl (fun _ => 0))))]) (wr := []) hx hb hml hown hts hKK hP hD hS hA (m_copies l D k q) ci_X12_copies qm_X12_415 ⟨Nat.le_of_ble_eq_true rfl, Nat.le_of_ble_eq_true rfl⟩ ⟨Nat.le_of_ble_eq_true rfl, Nat.le_of_ble_eq_true rfl⟩ [0, 1, 2] [] rfl rfl rfl rfl rfl (by decide) 0 rfl rfl rfl hl.1 rfl (Nat.le_of_ble_eq_true rfl) dX12_mark_30 (fun u_2 H locs hφ hP hD hS => ?_)
  have hP : va_P D vwCl [((q 200), .inr (12, [.ref (q 201), .ref (q 202), .int 0, .long 0, .long 1, .ref (q 203), .ref (q 204), .ref (q 205), .ref (q 206), .ref (q 207), .int 0, .int 0, .int 0, .int 0, .int 0, .int 0, .int (-1), .int (-1), .int 0, .int 0, .int 0, .ref (q 208), .int 0, .int 0, .ref (q 209), .ref (q 210), .ref (q 211), .ref (q 212), .ref (q 213), .int 0, .int 0, .ref (q 214), .ref (q 215), .ref (q 216), .int 0, .int 1]))] H := hP
  have hD : va_D A [((q 200), .inr (12, [.ref (q 201), .ref (q 202), .int 0, .long 0, .long 1, .ref (q 203), .ref (q 204), .ref (q 205), .ref (q 206), .ref (q 207), .int 0, .int 0, .int 0, .int 0, .int 0, .int 0, .int (-1), .int (-1), .int 0, .int 0, .int 0, .ref (q 208), .int 0, .int 0, .ref (q 209), .ref (q 210), .ref (q 211), .ref (q 212), .ref (q 213), .int 0, .int 0, .ref (q 214), .ref (q 215), .ref (q 216), .int 0, .int 1]))] := hD
  refine W.eq (g2 := F0 m 33 ls []) rfl ?_
  refine lv_aload_n hx hb dX12_mark_33 rfl (lv_at hl 0 rfl) ?_
  refine lv_aload_n hx hb dX12_mark_34 rfl (lv_at hl 0 rfl) ?_
  refine va_get (D := D) (ci := 12) (v := .int 1) (C := RX12) (T := TX12) (N := 36) hx hb hts iX12 hown hK hP 0 rfl rfl 35 (by decide) (hts _ qf_X12_412) (fun _ h => h) rfl dX12_mark_35 ?_
  refine CWV (As := [.int 1]) (rest := []) (wc := [((q 200), .inr (12, [.ref (q 201), .ref (q 202), .int 0, .long 0, .long 1, .ref (q 203), .ref (q 204), .ref (q 205), .ref (q 206), .ref (q 207), .int 0, .int 0, .int 0, .int 0, .int 0, .int 0, .int (-1), .int (-1), .int 0, .int 0, .int 0, .ref (q 208), .int 0, .int 0, .ref (q 209), .ref (q 210), .ref (q 211), .ref (q 212), .ref (q 213), .int 0, .int 0, .ref (q 214), .ref (q 215), .ref (q 216), .int 0, .int 1]))]) (wr := []) hx hb hml hown hts hKK hP hD hS hA (m_gives l D k (q 200) [.ref (q 201), .ref (q 202), .int 0, .long 0, .long 1, .ref (q 203), .ref (q 204), .ref (q 205), .ref (q 206), .ref (q 207), .int 0, .int 0, .int 0, .int 0, .int 0, .int 0, .int (-1), .int (-1), .int 0, .int 0, .int 0, .ref (q 208), .int 0, .int 0, .ref (q 209), .ref (q 210), .ref (q 211), .ref (q 212), .ref (q 213), .int 0, .int 0, .ref (q 214), .ref (q 215), .ref (q 216), .int 0, .int 1] (Nat.le_of_ble_eq_true rfl) 1) ci_X12_gives qm_X12_85 ⟨Nat.le_of_ble_eq_true rfl, Nat.le_of_ble_eq_true rfl⟩ ⟨Nat.le_of_ble_eq_true rfl, Nat.le_of_ble_eq_true rfl⟩ [0] [] rfl rfl rfl rfl rfl (by decide) 0 rfl rfl rfl hl.1 rfl (Nat.le_of_ble_eq_true rfl) dX12_mark_38 (fun u_3 H locs hφ hP hD hS => ?_)
  have hP : va_P D vwCl [] H := hP
  have hD : va_D A [] := hD
  refine W.eq (g2 := F0 m 41 ls [.int 1]) rfl ?_
  exact EWi hx hb hr hlocks hS () rfl trivial nil_P nil_D dX12_mark_41
